abbrev rmf_X2_forgetSearch : Room := { frames := 0, cells := 0, slots := 0, locals := 0 }
set_option maxRecDepth 100000 in
set_option maxHeartbeats 4000000 in
theorem m_f_X2_forgetSearch (l : Launch) (hl9 : l.stackTraces = false) (D : va_G) (cI : ClassId) (cJ : ClassId × ClassId) (ad : Nat → Nat) (sg0 : Nat → Nat → Int32) (sz : Nat) (T : TS) (hC : EC T sg0) : gc_M l yX2_forgetSearch wsX2_forgetSearch rmf_X2_forgetSearch D vwCl (tyS cI cJ) cI cJ gxT gxN SC [.ref (ad 0)] ad sg0 sz 0 0 (fun v sg2 => v = none ∧ EC (sFo T false) sg2) := by
  refine gc_Mv_of (cc := cX2_forgetSearch) (maxL := 1) (by decide) rfl (Nat.le_of_ble_eq_true rfl) ?_
  intro p e s m below meth c A ls Q hin hE hret
  obtain ⟨⟨hx, hb, hml, hown, hts⟩, -, hlocks, -, hA, hP, hK, hD, hS, hl⟩ := hin
  have hts : ∀ w ∈ wsAll, w.before ([.ref (ad 0)] : List Value).toArray s = true := fun w h => hts w (List.mem_cons_of_mem _ h)
  have hl : lv_has ls 1 [(0, .ref (ad 0))] := hl
  have hk := hC
  refine lv_aload_n hx hb dX2_forgetSearch_0 rfl (lv_at hl 0 rfl) ?_
  refine lv_iconst (v := (nI 0)) hx hb dX2_forgetSearch_1 (by decide) ?_
  refine gw_put (C := RX2) (T := TX2) (N := 6) (ty := .boolean) hx hb hts inwX2 tyX2 tyX2_ok nmX2 hown hK hP hD hS 0 3 rfl rfl rfl (by decide) (hts _ a93) (fun _ h9 => h9) rfl (by decide +kernel) rfl rfl dX2_forgetSearch_2 (fun H locs hP hD hS => ?_)
  obtain ⟨sg1, esg1⟩ : ∃ z : Nat → Nat → Int32, z = gw_u sg0 0 (upd (sg0 0) 3 (nI 0)) := ⟨_, rfl⟩
  rw [← esg1] at hP hD
  have hk : EC (T) sg1 := by rw [esg1]; exact cw_told hk
  refine lv_aload_n hx hb dX2_forgetSearch_5 rfl (lv_at hl 0 rfl) ?_
  refine gw_getr (C := RX2) (T := TX2) (N := 6) hx hb hts inwX2 hown hK hP 0 1 2 rfl rfl rfl (by decide) (hts _ a94) (fun _ h9 => h9) dX2_forgetSearch_6 ?_
  refine lv_iconst (v := (nI 0)) hx hb dX2_forgetSearch_9 (by decide) ?_
  refine gw_putN (C := RX0) (T := TX0) (N := 15) (ty := .boolean) hx hb hts inwX0 tyX0 tyX0_ok nmX0 hown hK hP hD hS 2 12 rfl rfl rfl (by decide) (hE.nest _ (.fieldLinkNest RX2 93 RX0 "found" "Z" RX2) (by decide +kernel) rfl) (fun _ h9 => h9) rfl (by decide +kernel) rfl rfl dX2_forgetSearch_10 (fun H locs hP hD hS => ?_)
  obtain ⟨sg2, esg2⟩ : ∃ z : Nat → Nat → Int32, z = gw_u sg1 2 (upd (sg1 2) 12 (nI 0)) := ⟨_, rfl⟩
  rw [← esg2] at hP hD
  have hk : EC (sFo (T) false) sg2 := by rw [esg2]; exact cw_fo hk
  exact hret _ _ _ _ _ hP hS dX2_forgetSearch_13 (⟨rfl, hk⟩)
abbrev rmf_X2_logs : Room := { frames := 7, cells := 3, slots := 18, locals := 104 }
set_option maxRecDepth 100000 in
set_option maxHeartbeats 4000000 in
theorem m_f_X2_logs (l : Launch) (hl9 : l.stackTraces = false) (D : va_G) (cI : ClassId) (cJ : ClassId × ClassId) (ad : Nat → Nat) (sg0 : Nat → Nat → Int32) (sz : Nat) (x1 : Int32) (x2 : Int32) (x3 : Int32) (T : TS) (hT : TOk T) (hC : EC T sg0) : gc_B l yX2_logs wsX2_logs rmf_X2_logs D vwCl (tyS cI cJ) cI cJ gxT gxN SC [.ref (ad 0), .int x1, .int x2, .int x3] ad sg0 sz 3 18 (fun v sg2 => EC (tLogs T x1 x2 x3) sg2 ∧ kLogs x1 x2 x3 = nI 0 ∧ v = none) (fun E sg2 => EC T sg2 ∧ ((E = "java/lang/IndexOutOfBoundsException" ∧ kLogs x1 x2 x3 = nI 1) ∨ (E = "java/lang/IllegalArgumentException" ∧ kLogs x1 x2 x3 = nI 2))) := by
  refine gc_Bv_of (cc := cX2_logs) (maxL := 4) (by decide) rfl (Nat.le_of_ble_eq_true rfl) ?_
  intro p e s m below meth c A ls Q hin hE hret kt kx
  obtain ⟨⟨hx, hb, hml, hown, hts⟩, -, hlocks, -, hA, hP, hK, hD, hS, hl⟩ := hin
  have hts : ∀ w ∈ wsAll, w.before ([.ref (ad 0), .int x1, .int x2, .int x3] : List Value).toArray s = true := fun w h => hts w (List.mem_cons_of_mem _ h)
  have hl : lv_has ls 4 [(0, .ref (ad 0)), (1, .int x1), (2, .int x2), (3, .int x3)] := hl
  have hk := hC
  have hN6 := hC.1.1.1
  refine lv_iload_n hx hb dX2_logs_0 rfl (lv_at hl 1 rfl) ?_
  refine lv_iconst (v := (nI 4)) hx hb dX2_logs_1 (by decide) ?_
  refine gc_goB (pl := []) (S2 := SE) (ad := ad) (sg := sg0) (vx_runS (As := [.int x1, .int (nI 4)]) (rest := []) ⟨hx, hb, hml, hown, hts⟩ (m_X2_needIndex l hl9 D cI cJ (fun j => ad (gw_p [] j)) (fun j => sg0 (gw_p [] j)) _ x1 (nI 4) ) (cwS 2 hts (gwS a95 a96 a97 a98) rfl rfl rfl (by decide +kernel) ⟨by decide, by decide⟩) (gc_preS hK hP hD hS hA hE rfl) rfl rfl hl.1 rfl (lv_room (Nat.le_of_ble_eq_true rfl)) dX2_logs_2 ⟨by decide, by decide⟩) hP hD hS hA rfl (fun v1 sp2 sg3 H locs hp4 ha5 hb6 hP hD hS => ?_) (fun E9 x9 ce9 sp2 sg3 H locs hp4 hc1 hc2 hc3 ha5 hb6 hP hD hS => ?_)
  · obtain ⟨rfl, ha1⟩ := hp4
    rw [show sg3 = sg0 from funext (fun k => hb6 k (by simp))] at hP hD
    refine W.eq (g2 := F0 m 5 ls []) rfl ?_
    refine lv_iload_n hx hb dX2_logs_5 rfl (lv_at hl 2 rfl) ?_
    refine lv_iconst (v := (nI 0)) hx hb dX2_logs_6 (by decide) ?_
    refine lv_sipush (v := (nI 1000)) hx hb dX2_logs_7 (by decide) ?_
    refine gc_goB (pl := []) (S2 := SE) (ad := ad) (sg := sg0) (vx_runS (As := [.int x2, .int (nI 0), .int (nI 1000)]) (rest := []) ⟨hx, hb, hml, hown, hts⟩ (m_X2_needRange l hl9 D cI cJ (fun j => ad (gw_p [] j)) (fun j => sg0 (gw_p [] j)) _ x2 (nI 0) (nI 1000) ) (cwS 3 hts (gwS a99 a100 a97 a101) rfl rfl rfl (by decide +kernel) ⟨by decide, by decide⟩) (gc_preS hK hP hD hS hA hE rfl) rfl rfl hl.1 rfl (lv_room (Nat.le_of_ble_eq_true rfl)) dX2_logs_10 ⟨by decide, by decide⟩) hP hD hS hA rfl (fun v7 sp8 sg9 H locs hp10 ha11 hb12 hP hD hS => ?_) (fun E9 x9 ce9 sp8 sg9 H locs hp10 hc1 hc2 hc3 ha11 hb12 hP hD hS => ?_)
    · obtain ⟨rfl, ha2⟩ := hp10
      rw [show sg9 = sg0 from funext (fun k => hb12 k (by simp))] at hP hD
      refine W.eq (g2 := F0 m 13 ls []) rfl ?_
      refine lv_iload_n hx hb dX2_logs_13 rfl (lv_at hl 3 rfl) ?_
      refine lv_iconst (v := (nI 0)) hx hb dX2_logs_14 (by decide) ?_
      refine lv_ldc (v := (nI 100000)) hx hb hown (hts _ a102) dX2_logs_15 ?_
      refine gc_goB (pl := []) (S2 := SE) (ad := ad) (sg := sg0) (vx_runS (As := [.int x3, .int (nI 0), .int (nI 100000)]) (rest := []) ⟨hx, hb, hml, hown, hts⟩ (m_X2_needRange l hl9 D cI cJ (fun j => ad (gw_p [] j)) (fun j => sg0 (gw_p [] j)) _ x3 (nI 0) (nI 100000) ) (cwS 3 hts (gwS a99 a100 a97 a101) rfl rfl rfl (by decide +kernel) ⟨by decide, by decide⟩) (gc_preS hK hP hD hS hA hE rfl) rfl rfl hl.1 rfl (lv_room (Nat.le_of_ble_eq_true rfl)) dX2_logs_17 ⟨by decide, by decide⟩) hP hD hS hA rfl (fun v13 sp14 sg15 H locs hp16 ha17 hb18 hP hD hS => ?_) (fun E9 x9 ce9 sp14 sg15 H locs hp16 hc1 hc2 hc3 ha17 hb18 hP hD hS => ?_)
      · obtain ⟨rfl, ha3⟩ := hp16
        rw [show sg15 = sg0 from funext (fun k => hb18 k (by simp))] at hP hD
        refine W.eq (g2 := F0 m 20 ls []) rfl ?_
        have hk9 : kLogs x1 x2 x3 = nI 0 := by simp [kLogs, kif, ix4.mp ha1, ha2, ha3]
        obtain ⟨j1, hj1, rfl⟩ := ixof4 ha1
        have hnj1 : nt (nI j1) = j1 := nt_nI (by omega)
        obtain ⟨j2, hj2, rfl⟩ := in_nat (n := 1000) (by decide) ha2
        have hnj2 : nt (nI j2) = j2 := nt_nI (by omega)
        refine lv_aload_n hx hb dX2_logs_20 rfl (lv_at hl 0 rfl) ?_
        refine gw_getr (C := RX2) (T := TX2) (N := 6) hx hb hts inwX2 hown hK hP 0 0 1 rfl rfl rfl (by decide) (hts _ a103) (fun _ h9 => h9) dX2_logs_21 ?_
        refine gw_getrN (C := RX1) (T := TX1) (N := 12) hx hb hts inwX1 hown hK hP 1 0 4 rfl rfl rfl (by decide) (hE.nest _ (.fieldLinkNest RX2 37 RX1 "logsLeft" "[I" RX2) (by decide +kernel) rfl) (fun _ h9 => h9) dX2_logs_24 ?_
        refine lv_iload_n hx hb dX2_logs_27 rfl (lv_at hl 1 rfl) ?_
        refine lv_iload_n hx hb dX2_logs_28 rfl (lv_at hl 2 rfl) ?_
        refine gw_ast hx hb hK hP hD hS 4 0 (n := 4) rfl rfl (i := j1) (by omega) (by decide) dX2_logs_29 (fun H locs hP hD hS => ?_)
        obtain ⟨sg19, esg19⟩ : ∃ z : Nat → Nat → Int32, z = gw_u sg0 4 (upd (sg0 4) j1 (nI j2)) := ⟨_, rfl⟩
        rw [← esg19] at hP hD
        have hk : EC (sLg (T) j1 j2) sg19 := by rw [esg19]; exact cw_Lg hk (by omega)
        refine lv_aload_n hx hb dX2_logs_30 rfl (lv_at hl 0 rfl) ?_
        refine gw_getr (C := RX2) (T := TX2) (N := 6) hx hb hts inwX2 hown hK hP 0 0 1 rfl rfl rfl (by decide) (hts _ a103) (fun _ h9 => h9) dX2_logs_31 ?_
        refine gw_getrN (C := RX1) (T := TX1) (N := 12) hx hb hts inwX1 hown hK hP 1 1 5 rfl rfl rfl (by decide) (hE.nest _ (.fieldLinkNest RX2 41 RX1 "centsALog" "[I" RX2) (by decide +kernel) rfl) (fun _ h9 => h9) dX2_logs_34 ?_
        refine lv_iload_n hx hb dX2_logs_37 rfl (lv_at hl 1 rfl) ?_
        refine lv_iload_n hx hb dX2_logs_38 rfl (lv_at hl 3 rfl) ?_
        refine gw_ast hx hb hK hP hD hS 5 0 (n := 4) rfl rfl (i := j1) (by omega) (by decide) dX2_logs_39 (fun H locs hP hD hS => ?_)
        obtain ⟨sg20, esg20⟩ : ∃ z : Nat → Nat → Int32, z = gw_u sg19 5 (upd (sg19 5) j1 x3) := ⟨_, rfl⟩
        rw [← esg20] at hP hD
        have hk : EC (sCt (sLg (T) j1 j2) j1 x3) sg20 := by rw [esg20]; exact cw_Ct hk
        refine lv_aload_n hx hb dX2_logs_40 rfl (lv_at hl 0 rfl) ?_
        refine gc_go0 (va_runV (As := []) (rest := []) ⟨hx, hb, hml, hown, hts⟩ (m_f_X2_forgetSearch l hl9 D cI cJ ad sg20 _  (sCt (sLg (T) j1 j2) j1 x3) hk) (cwV 0 hts (gwV a104 a105 a106 a97 a107) rfl rfl rfl (by decide +kernel) ⟨by decide, by decide⟩) (gc_preV0 hK hP hD hS hA hE rfl rfl rfl) rfl rfl hl.1 rfl (lv_room (Nat.le_of_ble_eq_true rfl)) dX2_logs_41 ⟨by decide, by decide⟩) hD hS hA (fun v21 sg23 H locs hp24 hP hD hS => ?_)
        obtain ⟨rfl, hk⟩ := hp24
        refine W.eq (g2 := F0 m 44 ls []) rfl ?_
        exact hret _ _ _ _ _ hP hS dX2_logs_44 (⟨by unfold tLogs; rw [hnj1, hnj2]; exact hk, hk9, rfl⟩)
      · obtain ⟨rfl, hq⟩ := hp16
        rw [show sg15 = sg0 from funext (fun k => hb18 k (by simp))] at hP hD
        exact kt _ _ _ _ _ _ _ _ _ _ _ (⟨hk, Or.inr (⟨rfl, by simp [kLogs, kif, ix4.mp ha1, ha2, hq]⟩)⟩) hc1 hc2 hc3 hP hS (by decide) (by decide)
    · obtain ⟨rfl, hq⟩ := hp10
      rw [show sg9 = sg0 from funext (fun k => hb12 k (by simp))] at hP hD
      exact kt _ _ _ _ _ _ _ _ _ _ _ (⟨hk, Or.inr (⟨rfl, by simp [kLogs, kif, ix4.mp ha1, hq]⟩)⟩) hc1 hc2 hc3 hP hS (by decide) (by decide)
  · obtain ⟨rfl, hq⟩ := hp4
    rw [show sg3 = sg0 from funext (fun k => hb6 k (by simp))] at hP hD
    exact kt _ _ _ _ _ _ _ _ _ _ _ (⟨hk, Or.inl ⟨rfl, by simp [kLogs, kif, (not_congr ix4).mp hq]⟩⟩) hc1 hc2 hc3 hP hS (by decide) (by decide)
abbrev rmf_X2_order : Room := { frames := 7, cells := 4, slots := 24, locals := 104 }
set_option maxRecDepth 100000 in
set_option maxHeartbeats 4000000 in
theorem m_f_X2_order (l : Launch) (hl9 : l.stackTraces = false) (D : va_G) (cI : ClassId) (cJ : ClassId × ClassId) (ad : Nat → Nat) (sg0 : Nat → Nat → Int32) (sz : Nat) (x1 : Int32) (x2 : Int32) (x3 : Int32) (x4 : Int32) (T : TS) (hT : TOk T) (hC : EC T sg0) : gc_B l yX2_order wsX2_order rmf_X2_order D vwCl (tyS cI cJ) cI cJ gxT gxN SC [.ref (ad 0), .int x1, .int x2, .int x3, .int x4] ad sg0 sz 4 24 (fun v sg2 => EC (tOrder T x1 x2 x3 x4) sg2 ∧ kOrder x1 x2 x3 x4 = nI 0 ∧ v = none) (fun E sg2 => EC T sg2 ∧ ((E = "java/lang/IndexOutOfBoundsException" ∧ kOrder x1 x2 x3 x4 = nI 1) ∨ (E = "java/lang/IllegalArgumentException" ∧ kOrder x1 x2 x3 x4 = nI 2))) := by
  refine gc_Bv_of (cc := cX2_order) (maxL := 5) (by decide) rfl (Nat.le_of_ble_eq_true rfl) ?_
  intro p e s m below meth c A ls Q hin hE hret kt kx
  obtain ⟨⟨hx, hb, hml, hown, hts⟩, -, hlocks, -, hA, hP, hK, hD, hS, hl⟩ := hin
  have hts : ∀ w ∈ wsAll, w.before ([.ref (ad 0), .int x1, .int x2, .int x3, .int x4] : List Value).toArray s = true := fun w h => hts w (List.mem_cons_of_mem _ h)
  have hl : lv_has ls 5 [(0, .ref (ad 0)), (1, .int x1), (2, .int x2), (3, .int x3), (4, .int x4)] := hl
  have hk := hC
  have hN6 := hC.1.1.1
  refine lv_iload_n hx hb dX2_order_0 rfl (lv_at hl 1 rfl) ?_
  refine lv_iconst (v := (nI 4)) hx hb dX2_order_1 (by decide) ?_
  refine gc_goB (pl := []) (S2 := SE) (ad := ad) (sg := sg0) (vx_runS (As := [.int x1, .int (nI 4)]) (rest := []) ⟨hx, hb, hml, hown, hts⟩ (m_X2_needIndex l hl9 D cI cJ (fun j => ad (gw_p [] j)) (fun j => sg0 (gw_p [] j)) _ x1 (nI 4) ) (cwS 2 hts (gwS a95 a96 a97 a98) rfl rfl rfl (by decide +kernel) ⟨by decide, by decide⟩) (gc_preS hK hP hD hS hA hE rfl) rfl rfl hl.1 rfl (lv_room (Nat.le_of_ble_eq_true rfl)) dX2_order_2 ⟨by decide, by decide⟩) hP hD hS hA rfl (fun v1 sp2 sg3 H locs hp4 ha5 hb6 hP hD hS => ?_) (fun E9 x9 ce9 sp2 sg3 H locs hp4 hc1 hc2 hc3 ha5 hb6 hP hD hS => ?_)
  · obtain ⟨rfl, ha1⟩ := hp4
    rw [show sg3 = sg0 from funext (fun k => hb6 k (by simp))] at hP hD
    refine W.eq (g2 := F0 m 5 ls []) rfl ?_
    refine lv_iload_n hx hb dX2_order_5 rfl (lv_at hl 2 rfl) ?_
    refine lv_iconst (v := (nI 0)) hx hb dX2_order_6 (by decide) ?_
    refine lv_sipush (v := (nI 1000)) hx hb dX2_order_7 (by decide) ?_
    refine gc_goB (pl := []) (S2 := SE) (ad := ad) (sg := sg0) (vx_runS (As := [.int x2, .int (nI 0), .int (nI 1000)]) (rest := []) ⟨hx, hb, hml, hown, hts⟩ (m_X2_needRange l hl9 D cI cJ (fun j => ad (gw_p [] j)) (fun j => sg0 (gw_p [] j)) _ x2 (nI 0) (nI 1000) ) (cwS 3 hts (gwS a99 a100 a97 a101) rfl rfl rfl (by decide +kernel) ⟨by decide, by decide⟩) (gc_preS hK hP hD hS hA hE rfl) rfl rfl hl.1 rfl (lv_room (Nat.le_of_ble_eq_true rfl)) dX2_order_10 ⟨by decide, by decide⟩) hP hD hS hA rfl (fun v7 sp8 sg9 H locs hp10 ha11 hb12 hP hD hS => ?_) (fun E9 x9 ce9 sp8 sg9 H locs hp10 hc1 hc2 hc3 ha11 hb12 hP hD hS => ?_)
    · obtain ⟨rfl, ha2⟩ := hp10
      rw [show sg9 = sg0 from funext (fun k => hb12 k (by simp))] at hP hD
      refine W.eq (g2 := F0 m 13 ls []) rfl ?_
      refine lv_iload_n hx hb dX2_order_13 rfl (lv_at hl 3 rfl) ?_
      refine lv_iload_n hx hb dX2_order_14 rfl (lv_at hl 2 rfl) ?_
      refine lv_sipush (v := (nI 1000)) hx hb dX2_order_15 (by decide) ?_
      refine gc_goB (pl := []) (S2 := SE) (ad := ad) (sg := sg0) (vx_runS (As := [.int x3, .int x2, .int (nI 1000)]) (rest := []) ⟨hx, hb, hml, hown, hts⟩ (m_X2_needRange l hl9 D cI cJ (fun j => ad (gw_p [] j)) (fun j => sg0 (gw_p [] j)) _ x3 x2 (nI 1000) ) (cwS 3 hts (gwS a99 a100 a97 a101) rfl rfl rfl (by decide +kernel) ⟨by decide, by decide⟩) (gc_preS hK hP hD hS hA hE rfl) rfl rfl hl.1 rfl (lv_room (Nat.le_of_ble_eq_true rfl)) dX2_order_18 ⟨by decide, by decide⟩) hP hD hS hA rfl (fun v13 sp14 sg15 H locs hp16 ha17 hb18 hP hD hS => ?_) (fun E9 x9 ce9 sp14 sg15 H locs hp16 hc1 hc2 hc3 ha17 hb18 hP hD hS => ?_)
      · obtain ⟨rfl, ha3⟩ := hp16
        rw [show sg15 = sg0 from funext (fun k => hb18 k (by simp))] at hP hD
        refine W.eq (g2 := F0 m 21 ls []) rfl ?_
        refine lv_iload hx hb dX2_order_21 (lv_at hl 4 rfl) ?_
        refine lv_iconst (v := (nI 0)) hx hb dX2_order_23 (by decide) ?_
        refine lv_sipush (v := (nI 1000)) hx hb dX2_order_24 (by decide) ?_
        refine gc_goB (pl := []) (S2 := SE) (ad := ad) (sg := sg0) (vx_runS (As := [.int x4, .int (nI 0), .int (nI 1000)]) (rest := []) ⟨hx, hb, hml, hown, hts⟩ (m_X2_needRange l hl9 D cI cJ (fun j => ad (gw_p [] j)) (fun j => sg0 (gw_p [] j)) _ x4 (nI 0) (nI 1000) ) (cwS 3 hts (gwS a99 a100 a97 a101) rfl rfl rfl (by decide +kernel) ⟨by decide, by decide⟩) (gc_preS hK hP hD hS hA hE rfl) rfl rfl hl.1 rfl (lv_room (Nat.le_of_ble_eq_true rfl)) dX2_order_27 ⟨by decide, by decide⟩) hP hD hS hA rfl (fun v19 sp20 sg21 H locs hp22 ha23 hb24 hP hD hS => ?_) (fun E9 x9 ce9 sp20 sg21 H locs hp22 hc1 hc2 hc3 ha23 hb24 hP hD hS => ?_)
        · obtain ⟨rfl, ha4⟩ := hp22
          rw [show sg21 = sg0 from funext (fun k => hb24 k (by simp))] at hP hD
          refine W.eq (g2 := F0 m 30 ls []) rfl ?_
          have hk9 : kOrder x1 x2 x3 x4 = nI 0 := by simp [kOrder, kif, ix4.mp ha1, ha2, ha3, ha4]
          obtain ⟨j1, hj1, rfl⟩ := ixof4 ha1
          have hnj1 : nt (nI j1) = j1 := nt_nI (by omega)
          refine lv_aload_n hx hb dX2_order_30 rfl (lv_at hl 0 rfl) ?_
          refine gw_getr (C := RX2) (T := TX2) (N := 6) hx hb hts inwX2 hown hK hP 0 0 1 rfl rfl rfl (by decide) (hts _ a103) (fun _ h9 => h9) dX2_order_31 ?_
          refine gw_getrN (C := RX1) (T := TX1) (N := 12) hx hb hts inwX1 hown hK hP 1 5 9 rfl rfl rfl (by decide) (hE.nest _ (.fieldLinkNest RX2 68 RX1 "least" "[I" RX2) (by decide +kernel) rfl) (fun _ h9 => h9) dX2_order_34 ?_
          refine lv_iload_n hx hb dX2_order_37 rfl (lv_at hl 1 rfl) ?_
          refine lv_iload_n hx hb dX2_order_38 rfl (lv_at hl 2 rfl) ?_
          refine gw_ast hx hb hK hP hD hS 9 0 (n := 4) rfl rfl (i := j1) (by omega) (by decide) dX2_order_39 (fun H locs hP hD hS => ?_)
          obtain ⟨sg25, esg25⟩ : ∃ z : Nat → Nat → Int32, z = gw_u sg0 9 (upd (sg0 9) j1 x2) := ⟨_, rfl⟩
          rw [← esg25] at hP hD
          have hk : EC (sLs (T) j1 x2) sg25 := by rw [esg25]; exact cw_Ls hk
          refine lv_aload_n hx hb dX2_order_40 rfl (lv_at hl 0 rfl) ?_
          refine gw_getr (C := RX2) (T := TX2) (N := 6) hx hb hts inwX2 hown hK hP 0 0 1 rfl rfl rfl (by decide) (hts _ a103) (fun _ h9 => h9) dX2_order_41 ?_
          refine gw_getrN (C := RX1) (T := TX1) (N := 12) hx hb hts inwX1 hown hK hP 1 6 10 rfl rfl rfl (by decide) (hE.nest _ (.fieldLinkNest RX2 71 RX1 "most" "[I" RX2) (by decide +kernel) rfl) (fun _ h9 => h9) dX2_order_44 ?_
          refine lv_iload_n hx hb dX2_order_47 rfl (lv_at hl 1 rfl) ?_
          refine lv_iload_n hx hb dX2_order_48 rfl (lv_at hl 3 rfl) ?_
          refine gw_ast hx hb hK hP hD hS 10 0 (n := 4) rfl rfl (i := j1) (by omega) (by decide) dX2_order_49 (fun H locs hP hD hS => ?_)
          obtain ⟨sg26, esg26⟩ : ∃ z : Nat → Nat → Int32, z = gw_u sg25 10 (upd (sg25 10) j1 x3) := ⟨_, rfl⟩
          rw [← esg26] at hP hD
          have hk : EC (sMs (sLs (T) j1 x2) j1 x3) sg26 := by rw [esg26]; exact cw_Ms hk
          refine lv_aload_n hx hb dX2_order_50 rfl (lv_at hl 0 rfl) ?_
          refine gw_getr (C := RX2) (T := TX2) (N := 6) hx hb hts inwX2 hown hK hP 0 0 1 rfl rfl rfl (by decide) (hts _ a103) (fun _ h9 => h9) dX2_order_51 ?_
          refine gw_getrN (C := RX1) (T := TX1) (N := 12) hx hb hts inwX1 hown hK hP 1 7 11 rfl rfl rfl (by decide) (hE.nest _ (.fieldLinkNest RX2 74 RX1 "worth" "[I" RX2) (by decide +kernel) rfl) (fun _ h9 => h9) dX2_order_54 ?_
          refine lv_iload_n hx hb dX2_order_57 rfl (lv_at hl 1 rfl) ?_
          refine lv_iload hx hb dX2_order_58 (lv_at hl 4 rfl) ?_
          refine gw_ast hx hb hK hP hD hS 11 0 (n := 4) rfl rfl (i := j1) (by omega) (by decide) dX2_order_60 (fun H locs hP hD hS => ?_)
          obtain ⟨sg27, esg27⟩ : ∃ z : Nat → Nat → Int32, z = gw_u sg26 11 (upd (sg26 11) j1 x4) := ⟨_, rfl⟩
          rw [← esg27] at hP hD
          have hk : EC (sWo (sMs (sLs (T) j1 x2) j1 x3) j1 x4) sg27 := by rw [esg27]; exact cw_Wo hk
          refine lv_aload_n hx hb dX2_order_61 rfl (lv_at hl 0 rfl) ?_
          refine gc_go0 (va_runV (As := []) (rest := []) ⟨hx, hb, hml, hown, hts⟩ (m_f_X2_forgetSearch l hl9 D cI cJ ad sg27 _  (sWo (sMs (sLs (T) j1 x2) j1 x3) j1 x4) hk) (cwV 0 hts (gwV a104 a105 a106 a97 a107) rfl rfl rfl (by decide +kernel) ⟨by decide, by decide⟩) (gc_preV0 hK hP hD hS hA hE rfl rfl rfl) rfl rfl hl.1 rfl (lv_room (Nat.le_of_ble_eq_true rfl)) dX2_order_62 ⟨by decide, by decide⟩) hD hS hA (fun v28 sg30 H locs hp31 hP hD hS => ?_)
          obtain ⟨rfl, hk⟩ := hp31
          refine W.eq (g2 := F0 m 65 ls []) rfl ?_
          exact hret _ _ _ _ _ hP hS dX2_order_65 (⟨by unfold tOrder; rw [hnj1]; exact hk, hk9, rfl⟩)
        · obtain ⟨rfl, hq⟩ := hp22
          rw [show sg21 = sg0 from funext (fun k => hb24 k (by simp))] at hP hD
          exact kt _ _ _ _ _ _ _ _ _ _ _ (⟨hk, Or.inr (⟨rfl, by simp [kOrder, kif, ix4.mp ha1, ha2, ha3, hq]⟩)⟩) hc1 hc2 hc3 hP hS (by decide) (by decide)
      · obtain ⟨rfl, hq⟩ := hp16
        rw [show sg15 = sg0 from funext (fun k => hb18 k (by simp))] at hP hD
        exact kt _ _ _ _ _ _ _ _ _ _ _ (⟨hk, Or.inr (⟨rfl, by simp [kOrder, kif, ix4.mp ha1, ha2, hq]⟩)⟩) hc1 hc2 hc3 hP hS (by decide) (by decide)
    · obtain ⟨rfl, hq⟩ := hp10
      rw [show sg9 = sg0 from funext (fun k => hb12 k (by simp))] at hP hD
      exact kt _ _ _ _ _ _ _ _ _ _ _ (⟨hk, Or.inr (⟨rfl, by simp [kOrder, kif, ix4.mp ha1, hq]⟩)⟩) hc1 hc2 hc3 hP hS (by decide) (by decide)
  · obtain ⟨rfl, hq⟩ := hp4
    rw [show sg3 = sg0 from funext (fun k => hb6 k (by simp))] at hP hD
    exact kt _ _ _ _ _ _ _ _ _ _ _ (⟨hk, Or.inl ⟨rfl, by simp [kOrder, kif, (not_congr ix4).mp hq]⟩⟩) hc1 hc2 hc3 hP hS (by decide) (by decide)
abbrev rmf_X2_hours : Room := { frames := 7, cells := 2, slots := 12, locals := 104 }
set_option maxRecDepth 100000 in
set_option maxHeartbeats 4000000 in
theorem m_f_X2_hours (l : Launch) (hl9 : l.stackTraces = false) (D : va_G) (cI : ClassId) (cJ : ClassId × ClassId) (ad : Nat → Nat) (sg0 : Nat → Nat → Int32) (sz : Nat) (x1 : Int32) (x2 : Int32) (T : TS) (hT : TOk T) (hC : EC T sg0) : gc_B l yX2_hours wsX2_hours rmf_X2_hours D vwCl (tyS cI cJ) cI cJ gxT gxN SC [.ref (ad 0), .int x1, .int x2] ad sg0 sz 2 12 (fun v sg2 => EC (tHours T x1 x2) sg2 ∧ kHours x1 x2 = nI 0 ∧ v = none) (fun E sg2 => EC T sg2 ∧ ((E = "java/lang/IllegalArgumentException" ∧ kHours x1 x2 = nI 1))) := by
  refine gc_Bv_of (cc := cX2_hours) (maxL := 3) (by decide) rfl (Nat.le_of_ble_eq_true rfl) ?_
  intro p e s m below meth c A ls Q hin hE hret kt kx
  obtain ⟨⟨hx, hb, hml, hown, hts⟩, -, hlocks, -, hA, hP, hK, hD, hS, hl⟩ := hin
  have hts : ∀ w ∈ wsAll, w.before ([.ref (ad 0), .int x1, .int x2] : List Value).toArray s = true := fun w h => hts w (List.mem_cons_of_mem _ h)
  have hl : lv_has ls 3 [(0, .ref (ad 0)), (1, .int x1), (2, .int x2)] := hl
  have hk := hC
  have hN6 := hC.1.1.1
  refine lv_iload_n hx hb dX2_hours_0 rfl (lv_at hl 1 rfl) ?_
  refine lv_iconst (v := (nI 0)) hx hb dX2_hours_1 (by decide) ?_
  refine lv_sipush (v := (nI 1440)) hx hb dX2_hours_2 (by decide) ?_
  refine gc_goB (pl := []) (S2 := SE) (ad := ad) (sg := sg0) (vx_runS (As := [.int x1, .int (nI 0), .int (nI 1440)]) (rest := []) ⟨hx, hb, hml, hown, hts⟩ (m_X2_needRange l hl9 D cI cJ (fun j => ad (gw_p [] j)) (fun j => sg0 (gw_p [] j)) _ x1 (nI 0) (nI 1440) ) (cwS 3 hts (gwS a99 a100 a97 a101) rfl rfl rfl (by decide +kernel) ⟨by decide, by decide⟩) (gc_preS hK hP hD hS hA hE rfl) rfl rfl hl.1 rfl (lv_room (Nat.le_of_ble_eq_true rfl)) dX2_hours_5 ⟨by decide, by decide⟩) hP hD hS hA rfl (fun v1 sp2 sg3 H locs hp4 ha5 hb6 hP hD hS => ?_) (fun E9 x9 ce9 sp2 sg3 H locs hp4 hc1 hc2 hc3 ha5 hb6 hP hD hS => ?_)
  · obtain ⟨rfl, ha1⟩ := hp4
    rw [show sg3 = sg0 from funext (fun k => hb6 k (by simp))] at hP hD
    refine W.eq (g2 := F0 m 8 ls []) rfl ?_
    refine lv_iload_n hx hb dX2_hours_8 rfl (lv_at hl 2 rfl) ?_
    refine lv_iconst (v := (nI 0)) hx hb dX2_hours_9 (by decide) ?_
    refine lv_sipush (v := (nI 1440)) hx hb dX2_hours_10 (by decide) ?_
    refine gc_goB (pl := []) (S2 := SE) (ad := ad) (sg := sg0) (vx_runS (As := [.int x2, .int (nI 0), .int (nI 1440)]) (rest := []) ⟨hx, hb, hml, hown, hts⟩ (m_X2_needRange l hl9 D cI cJ (fun j => ad (gw_p [] j)) (fun j => sg0 (gw_p [] j)) _ x2 (nI 0) (nI 1440) ) (cwS 3 hts (gwS a99 a100 a97 a101) rfl rfl rfl (by decide +kernel) ⟨by decide, by decide⟩) (gc_preS hK hP hD hS hA hE rfl) rfl rfl hl.1 rfl (lv_room (Nat.le_of_ble_eq_true rfl)) dX2_hours_13 ⟨by decide, by decide⟩) hP hD hS hA rfl (fun v7 sp8 sg9 H locs hp10 ha11 hb12 hP hD hS => ?_) (fun E9 x9 ce9 sp8 sg9 H locs hp10 hc1 hc2 hc3 ha11 hb12 hP hD hS => ?_)
    · obtain ⟨rfl, ha2⟩ := hp10
      rw [show sg9 = sg0 from funext (fun k => hb12 k (by simp))] at hP hD
      refine W.eq (g2 := F0 m 16 ls []) rfl ?_
      have hk9 : kHours x1 x2 = nI 0 := by simp [kHours, kif, ha1, ha2]
      obtain ⟨j1, hj1, rfl⟩ := in_nat (n := 1440) (by decide) ha1
      have hnj1 : nt (nI j1) = j1 := nt_nI (by omega)
      obtain ⟨j2, hj2, rfl⟩ := in_nat (n := 1440) (by decide) ha2
      have hnj2 : nt (nI j2) = j2 := nt_nI (by omega)
      refine lv_aload_n hx hb dX2_hours_16 rfl (lv_at hl 0 rfl) ?_
      refine gw_getr (C := RX2) (T := TX2) (N := 6) hx hb hts inwX2 hown hK hP 0 0 1 rfl rfl rfl (by decide) (hts _ a103) (fun _ h9 => h9) dX2_hours_17 ?_
      refine lv_iload_n hx hb dX2_hours_20 rfl (lv_at hl 1 rfl) ?_
      refine gw_putN (C := RX1) (T := TX1) (N := 12) (ty := .int) hx hb hts inwX1 tyX1 tyX1_ok nmX1 hown hK hP hD hS 1 10 rfl rfl rfl (by decide) (hE.nest _ (.fieldLinkNest RX2 77 RX1 "minutesADay" "I" RX2) (by decide +kernel) rfl) (fun _ h9 => h9) rfl (by decide +kernel) rfl rfl dX2_hours_21 (fun H locs hP hD hS => ?_)
      obtain ⟨sg13, esg13⟩ : ∃ z : Nat → Nat → Int32, z = gw_u sg0 1 (upd (sg0 1) 10 (nI j1)) := ⟨_, rfl⟩
      rw [← esg13] at hP hD
      have hk : EC (sHr (T) j1) sg13 := by rw [esg13]; exact cw_Hr hk (by omega)
      refine lv_aload_n hx hb dX2_hours_24 rfl (lv_at hl 0 rfl) ?_
      refine gw_getr (C := RX2) (T := TX2) (N := 6) hx hb hts inwX2 hown hK hP 0 0 1 rfl rfl rfl (by decide) (hts _ a103) (fun _ h9 => h9) dX2_hours_25 ?_
      refine lv_iload_n hx hb dX2_hours_28 rfl (lv_at hl 2 rfl) ?_
      refine gw_putN (C := RX1) (T := TX1) (N := 12) (ty := .int) hx hb hts inwX1 tyX1 tyX1_ok nmX1 hown hK hP hD hS 1 11 rfl rfl rfl (by decide) (hE.nest _ (.fieldLinkNest RX2 80 RX1 "change" "I" RX2) (by decide +kernel) rfl) (fun _ h9 => h9) rfl (by decide +kernel) rfl rfl dX2_hours_29 (fun H locs hP hD hS => ?_)
      obtain ⟨sg14, esg14⟩ : ∃ z : Nat → Nat → Int32, z = gw_u sg13 1 (upd (sg13 1) 11 (nI j2)) := ⟨_, rfl⟩
      rw [← esg14] at hP hD
      have hk : EC (sCh (sHr (T) j1) j2) sg14 := by rw [esg14]; exact cw_Ch hk (by omega)
      refine lv_aload_n hx hb dX2_hours_32 rfl (lv_at hl 0 rfl) ?_
      refine gc_go0 (va_runV (As := []) (rest := []) ⟨hx, hb, hml, hown, hts⟩ (m_f_X2_forgetSearch l hl9 D cI cJ ad sg14 _  (sCh (sHr (T) j1) j2) hk) (cwV 0 hts (gwV a104 a105 a106 a97 a107) rfl rfl rfl (by decide +kernel) ⟨by decide, by decide⟩) (gc_preV0 hK hP hD hS hA hE rfl rfl rfl) rfl rfl hl.1 rfl (lv_room (Nat.le_of_ble_eq_true rfl)) dX2_hours_33 ⟨by decide, by decide⟩) hD hS hA (fun v15 sg17 H locs hp18 hP hD hS => ?_)
      obtain ⟨rfl, hk⟩ := hp18
      refine W.eq (g2 := F0 m 36 ls []) rfl ?_
      exact hret _ _ _ _ _ hP hS dX2_hours_36 (⟨by unfold tHours; rw [hnj1, hnj2]; exact hk, hk9, rfl⟩)
    · obtain ⟨rfl, hq⟩ := hp10
      rw [show sg9 = sg0 from funext (fun k => hb12 k (by simp))] at hP hD
      exact kt _ _ _ _ _ _ _ _ _ _ _ (⟨hk, ⟨rfl, by simp [kHours, kif, ha1, hq]⟩⟩) hc1 hc2 hc3 hP hS (by decide) (by decide)
  · obtain ⟨rfl, hq⟩ := hp4
    rw [show sg3 = sg0 from funext (fun k => hb6 k (by simp))] at hP hD
    exact kt _ _ _ _ _ _ _ _ _ _ _ (⟨hk, ⟨rfl, by simp [kHours, kif, hq]⟩⟩) hc1 hc2 hc3 hP hS (by decide) (by decide)
abbrev rmf_X2_gives : Room := { frames := 7, cells := 3, slots := 18, locals := 104 }
set_option maxRecDepth 100000 in
set_option maxHeartbeats 4000000 in
theorem m_f_X2_gives (l : Launch) (hl9 : l.stackTraces = false) (D : va_G) (cI : ClassId) (cJ : ClassId × ClassId) (ad : Nat → Nat) (sg0 : Nat → Nat → Int32) (sz : Nat) (x1 : Int32) (x2 : Int32) (x3 : Int32) (T : TS) (hT : TOk T) (hC : EC T sg0) : gc_B l yX2_gives wsX2_gives rmf_X2_gives D vwCl (tyS cI cJ) cI cJ gxT gxN SC [.ref (ad 0), .int x1, .int x2, .int x3] ad sg0 sz 3 18 (fun v sg2 => EC (tGives T x1 x2 x3) sg2 ∧ kGives (nI (yN T.1)) x1 x2 x3 = nI 0 ∧ v = none) (fun E sg2 => EC T sg2 ∧ ((E = "java/lang/IndexOutOfBoundsException" ∧ kGives (nI (yN T.1)) x1 x2 x3 = nI 1) ∨ (E = "java/lang/IllegalArgumentException" ∧ kGives (nI (yN T.1)) x1 x2 x3 = nI 2))) := by
  refine gc_Bv_of (cc := cX2_gives) (maxL := 4) (by decide) rfl (Nat.le_of_ble_eq_true rfl) ?_
  intro p e s m below meth c A ls Q hin hE hret kt kx
  obtain ⟨⟨hx, hb, hml, hown, hts⟩, -, hlocks, -, hA, hP, hK, hD, hS, hl⟩ := hin
  have hts : ∀ w ∈ wsAll, w.before ([.ref (ad 0), .int x1, .int x2, .int x3] : List Value).toArray s = true := fun w h => hts w (List.mem_cons_of_mem _ h)
  have hl : lv_has ls 4 [(0, .ref (ad 0)), (1, .int x1), (2, .int x2), (3, .int x3)] := hl
  have hk := hC
  have hN6 := hC.1.1.1
  refine lv_iload_n hx hb dX2_gives_0 rfl (lv_at hl 1 rfl) ?_
  refine lv_aload_n hx hb dX2_gives_1 rfl (lv_at hl 0 rfl) ?_
  refine gw_getr (C := RX2) (T := TX2) (N := 6) hx hb hts inwX2 hown hK hP 0 0 1 rfl rfl rfl (by decide) (hts _ a103) (fun _ h9 => h9) dX2_gives_2 ?_
  refine gw_getiN (C := RX1) (T := TX1) (N := 12) hx hb hts inwX1 hown hK hP 1 9 rfl rfl rfl (by decide) (hE.nest _ (.fieldLinkNest RX2 47 RX1 "patterns" "I" RX2) (by decide +kernel) rfl) (fun _ h9 => h9) dX2_gives_5 ?_
  refine gw_top (y := (nI (yN T.1))) (hk.1.1.2) ?_
  refine gc_goB (pl := []) (S2 := SE) (ad := ad) (sg := sg0) (vx_runS (As := [.int x1, .int (nI (yN T.1))]) (rest := []) ⟨hx, hb, hml, hown, hts⟩ (m_X2_needIndex l hl9 D cI cJ (fun j => ad (gw_p [] j)) (fun j => sg0 (gw_p [] j)) _ x1 (nI (yN T.1)) ) (cwS 2 hts (gwS a95 a96 a97 a98) rfl rfl rfl (by decide +kernel) ⟨by decide, by decide⟩) (gc_preS hK hP hD hS hA hE rfl) rfl rfl hl.1 rfl (lv_room (Nat.le_of_ble_eq_true rfl)) dX2_gives_8 ⟨by decide, by decide⟩) hP hD hS hA rfl (fun v1 sp2 sg3 H locs hp4 ha5 hb6 hP hD hS => ?_) (fun E9 x9 ce9 sp2 sg3 H locs hp4 hc1 hc2 hc3 ha5 hb6 hP hD hS => ?_)
  · obtain ⟨rfl, ha1⟩ := hp4
    rw [show sg3 = sg0 from funext (fun k => hb6 k (by simp))] at hP hD
    refine W.eq (g2 := F0 m 11 ls []) rfl ?_
    refine lv_iload_n hx hb dX2_gives_11 rfl (lv_at hl 2 rfl) ?_
    refine lv_iconst (v := (nI 4)) hx hb dX2_gives_12 (by decide) ?_
    refine gc_goB (pl := []) (S2 := SE) (ad := ad) (sg := sg0) (vx_runS (As := [.int x2, .int (nI 4)]) (rest := []) ⟨hx, hb, hml, hown, hts⟩ (m_X2_needIndex l hl9 D cI cJ (fun j => ad (gw_p [] j)) (fun j => sg0 (gw_p [] j)) _ x2 (nI 4) ) (cwS 2 hts (gwS a95 a96 a97 a98) rfl rfl rfl (by decide +kernel) ⟨by decide, by decide⟩) (gc_preS hK hP hD hS hA hE rfl) rfl rfl hl.1 rfl (lv_room (Nat.le_of_ble_eq_true rfl)) dX2_gives_13 ⟨by decide, by decide⟩) hP hD hS hA rfl (fun v7 sp8 sg9 H locs hp10 ha11 hb12 hP hD hS => ?_) (fun E9 x9 ce9 sp8 sg9 H locs hp10 hc1 hc2 hc3 ha11 hb12 hP hD hS => ?_)
    · obtain ⟨rfl, ha2⟩ := hp10
      rw [show sg9 = sg0 from funext (fun k => hb12 k (by simp))] at hP hD
      refine W.eq (g2 := F0 m 16 ls []) rfl ?_
      refine lv_iload_n hx hb dX2_gives_16 rfl (lv_at hl 3 rfl) ?_
      refine lv_iconst (v := (nI 0)) hx hb dX2_gives_17 (by decide) ?_
      refine lv_bipush (v := (nI 9)) hx hb dX2_gives_18 (by decide) ?_
      refine gc_goB (pl := []) (S2 := SE) (ad := ad) (sg := sg0) (vx_runS (As := [.int x3, .int (nI 0), .int (nI 9)]) (rest := []) ⟨hx, hb, hml, hown, hts⟩ (m_X2_needRange l hl9 D cI cJ (fun j => ad (gw_p [] j)) (fun j => sg0 (gw_p [] j)) _ x3 (nI 0) (nI 9) ) (cwS 3 hts (gwS a99 a100 a97 a101) rfl rfl rfl (by decide +kernel) ⟨by decide, by decide⟩) (gc_preS hK hP hD hS hA hE rfl) rfl rfl hl.1 rfl (lv_room (Nat.le_of_ble_eq_true rfl)) dX2_gives_20 ⟨by decide, by decide⟩) hP hD hS hA rfl (fun v13 sp14 sg15 H locs hp16 ha17 hb18 hP hD hS => ?_) (fun E9 x9 ce9 sp14 sg15 H locs hp16 hc1 hc2 hc3 ha17 hb18 hP hD hS => ?_)
      · obtain ⟨rfl, ha3⟩ := hp16
        rw [show sg15 = sg0 from funext (fun k => hb18 k (by simp))] at hP hD
        refine W.eq (g2 := F0 m 23 ls []) rfl ?_
        have hk9 : kGives (nI (yN T.1)) x1 x2 x3 = nI 0 := by simp [kGives, kif, ha1, ix4.mp ha2, ha3]
        obtain ⟨j1, hj1, rfl⟩ := ixofN hN6 ha1
        have hnj1 : nt (nI j1) = j1 := nt_nI (by omega)
        obtain ⟨j2, hj2, rfl⟩ := ixof4 ha2
        have hnj2 : nt (nI j2) = j2 := nt_nI (by omega)
        refine lv_aload_n hx hb dX2_gives_23 rfl (lv_at hl 0 rfl) ?_
        refine gw_getr (C := RX2) (T := TX2) (N := 6) hx hb hts inwX2 hown hK hP 0 0 1 rfl rfl rfl (by decide) (hts _ a103) (fun _ h9 => h9) dX2_gives_24 ?_
        refine gw_getrN (C := RX1) (T := TX1) (N := 12) hx hb hts inwX1 hown hK hP 1 4 8 rfl rfl rfl (by decide) (hE.nest _ (.fieldLinkNest RX2 64 RX1 "boardsALog" "[[I" RX2) (by decide +kernel) rfl) (fun _ h9 => h9) dX2_gives_27 ?_
        refine lv_iload_n hx hb dX2_gives_30 rfl (lv_at hl 1 rfl) ?_
        refine gw_aald hx hb hK hP 8 1 (n := 6) (b := 13) rfl rfl rfl (i := j1) (by omega) (by decide) dX2_gives_31 ?_
        refine lv_iload_n hx hb dX2_gives_32 rfl (lv_at hl 2 rfl) ?_
        refine lv_iload_n hx hb dX2_gives_33 rfl (lv_at hl 3 rfl) ?_
        refine gw_ast hx hb hK hP hD hS (13 + j1) 0 (n := 4) (rowSC _ (by omega)) rfl (i := j2) (by omega) (by decide) dX2_gives_34 (fun H locs hP hD hS => ?_)
        obtain ⟨sg19, esg19⟩ : ∃ z : Nat → Nat → Int32, z = gw_u sg0 (13 + j1) (upd (sg0 (13 + j1)) j2 x3) := ⟨_, rfl⟩
        rw [← esg19] at hP hD
        have hk : EC (sGv (T) j1 j2 x3) sg19 := by rw [esg19]; exact cw_Gv hk (by omega)
        refine lv_aload_n hx hb dX2_gives_35 rfl (lv_at hl 0 rfl) ?_
        refine gc_go0 (va_runV (As := []) (rest := []) ⟨hx, hb, hml, hown, hts⟩ (m_f_X2_forgetSearch l hl9 D cI cJ ad sg19 _  (sGv (T) j1 j2 x3) hk) (cwV 0 hts (gwV a104 a105 a106 a97 a107) rfl rfl rfl (by decide +kernel) ⟨by decide, by decide⟩) (gc_preV0 hK hP hD hS hA hE rfl rfl rfl) rfl rfl hl.1 rfl (lv_room (Nat.le_of_ble_eq_true rfl)) dX2_gives_36 ⟨by decide, by decide⟩) hD hS hA (fun v20 sg22 H locs hp23 hP hD hS => ?_)
        obtain ⟨rfl, hk⟩ := hp23
        refine W.eq (g2 := F0 m 39 ls []) rfl ?_
        exact hret _ _ _ _ _ hP hS dX2_gives_39 (⟨by unfold tGives; rw [hnj1, hnj2]; exact hk, hk9, rfl⟩)
      · obtain ⟨rfl, hq⟩ := hp16
        rw [show sg15 = sg0 from funext (fun k => hb18 k (by simp))] at hP hD
        exact kt _ _ _ _ _ _ _ _ _ _ _ (⟨hk, Or.inr (⟨rfl, by simp [kGives, kif, ha1, ix4.mp ha2, hq]⟩)⟩) hc1 hc2 hc3 hP hS (by decide) (by decide)
    · obtain ⟨rfl, hq⟩ := hp10
      rw [show sg9 = sg0 from funext (fun k => hb12 k (by simp))] at hP hD
      exact kt _ _ _ _ _ _ _ _ _ _ _ (⟨hk, Or.inl ⟨rfl, by simp [kGives, kif, ha1, (not_congr ix4).mp hq]⟩⟩) hc1 hc2 hc3 hP hS (by decide) (by decide)
  · obtain ⟨rfl, hq⟩ := hp4
    rw [show sg3 = sg0 from funext (fun k => hb6 k (by simp))] at hP hD
    exact kt _ _ _ _ _ _ _ _ _ _ _ (⟨hk, Or.inl ⟨rfl, by simp [kGives, kif, hq]⟩⟩) hc1 hc2 hc3 hP hS (by decide) (by decide)
abbrev rmf_X2_pattern : Room := { frames := 7, cells := 3, slots := 18, locals := 104 }
set_option maxRecDepth 100000 in
set_option maxHeartbeats 4000000 in
theorem m_f_X2_pattern (l : Launch) (hl9 : l.stackTraces = false) (D : va_G) (cI : ClassId) (cJ : ClassId × ClassId) (ad : Nat → Nat) (sg0 : Nat → Nat → Int32) (sz : Nat) (x1 : Int32) (x2 : Int32) (T : TS) (hT : TOk T) (hC : EC T sg0) : gc_B l yX2_pattern wsX2_pattern rmf_X2_pattern D vwCl (tyS cI cJ) cI cJ gxT gxN SC [.ref (ad 0), .int x1, .int x2] ad sg0 sz 3 18 (fun v sg2 => EC (tPattern T x1 x2) sg2 ∧ kPattern (nI (yN T.1)) x1 x2 = nI 0 ∧ v = some (.int (nI (yN T.1)))) (fun E sg2 => EC T sg2 ∧ ((E = "java/lang/IndexOutOfBoundsException" ∧ kPattern (nI (yN T.1)) x1 x2 = nI 1) ∨ (E = "java/lang/IllegalArgumentException" ∧ kPattern (nI (yN T.1)) x1 x2 = nI 2) ∨ (E = "java/lang/IllegalStateException" ∧ kPattern (nI (yN T.1)) x1 x2 = nI 3))) := by
  refine gc_Bi_of (cc := cX2_pattern) (maxL := 4) (by decide) rfl (Nat.le_of_ble_eq_true rfl) ?_
  intro p e s m below meth c A ls Q hin hE hret kt kx
  obtain ⟨⟨hx, hb, hml, hown, hts⟩, -, hlocks, -, hA, hP, hK, hD, hS, hl⟩ := hin
  have hts : ∀ w ∈ wsAll, w.before ([.ref (ad 0), .int x1, .int x2] : List Value).toArray s = true := fun w h => hts w (List.mem_cons_of_mem _ h)
  have hl : lv_has ls 4 [(0, .ref (ad 0)), (1, .int x1), (2, .int x2)] := hl
  have hk := hC
  have hN6 := hC.1.1.1
  refine lv_iload_n hx hb dX2_pattern_0 rfl (lv_at hl 1 rfl) ?_
  refine lv_iconst (v := (nI 4)) hx hb dX2_pattern_1 (by decide) ?_
  refine gc_goB (pl := []) (S2 := SE) (ad := ad) (sg := sg0) (vx_runS (As := [.int x1, .int (nI 4)]) (rest := []) ⟨hx, hb, hml, hown, hts⟩ (m_X2_needIndex l hl9 D cI cJ (fun j => ad (gw_p [] j)) (fun j => sg0 (gw_p [] j)) _ x1 (nI 4) ) (cwS 2 hts (gwS a95 a96 a97 a98) rfl rfl rfl (by decide +kernel) ⟨by decide, by decide⟩) (gc_preS hK hP hD hS hA hE rfl) rfl rfl hl.1 rfl (lv_room (Nat.le_of_ble_eq_true rfl)) dX2_pattern_2 ⟨by decide, by decide⟩) hP hD hS hA rfl (fun v1 sp2 sg3 H locs hp4 ha5 hb6 hP hD hS => ?_) (fun E9 x9 ce9 sp2 sg3 H locs hp4 hc1 hc2 hc3 ha5 hb6 hP hD hS => ?_)
  · obtain ⟨rfl, ha1⟩ := hp4
    rw [show sg3 = sg0 from funext (fun k => hb6 k (by simp))] at hP hD
    refine W.eq (g2 := F0 m 5 ls []) rfl ?_
    refine lv_iload_n hx hb dX2_pattern_5 rfl (lv_at hl 2 rfl) ?_
    refine lv_iconst (v := (nI 1)) hx hb dX2_pattern_6 (by decide) ?_
    refine lv_sipush (v := (nI 480)) hx hb dX2_pattern_7 (by decide) ?_
    refine gc_goB (pl := []) (S2 := SE) (ad := ad) (sg := sg0) (vx_runS (As := [.int x2, .int (nI 1), .int (nI 480)]) (rest := []) ⟨hx, hb, hml, hown, hts⟩ (m_X2_needRange l hl9 D cI cJ (fun j => ad (gw_p [] j)) (fun j => sg0 (gw_p [] j)) _ x2 (nI 1) (nI 480) ) (cwS 3 hts (gwS a99 a100 a97 a101) rfl rfl rfl (by decide +kernel) ⟨by decide, by decide⟩) (gc_preS hK hP hD hS hA hE rfl) rfl rfl hl.1 rfl (lv_room (Nat.le_of_ble_eq_true rfl)) dX2_pattern_10 ⟨by decide, by decide⟩) hP hD hS hA rfl (fun v7 sp8 sg9 H locs hp10 ha11 hb12 hP hD hS => ?_) (fun E9 x9 ce9 sp8 sg9 H locs hp10 hc1 hc2 hc3 ha11 hb12 hP hD hS => ?_)
    · obtain ⟨rfl, ha2⟩ := hp10
      rw [show sg9 = sg0 from funext (fun k => hb12 k (by simp))] at hP hD
      refine W.eq (g2 := F0 m 13 ls []) rfl ?_
      refine lv_aload_n hx hb dX2_pattern_13 rfl (lv_at hl 0 rfl) ?_
      refine gw_getr (C := RX2) (T := TX2) (N := 6) hx hb hts inwX2 hown hK hP 0 0 1 rfl rfl rfl (by decide) (hts _ a103) (fun _ h9 => h9) dX2_pattern_14 ?_
      refine gw_getiN (C := RX1) (T := TX1) (N := 12) hx hb hts inwX1 hown hK hP 1 9 rfl rfl rfl (by decide) (hE.nest _ (.fieldLinkNest RX2 47 RX1 "patterns" "I" RX2) (by decide +kernel) rfl) (fun _ h9 => h9) dX2_pattern_17 ?_
      refine gw_top (y := (nI (yN T.1))) (hk.1.1.2) ?_
      refine lv_istore_n (lv' := [(3, .int (nI (yN T.1))), (0, .ref (ad 0)), (1, .int x1), (2, .int x2)]) hx hb dX2_pattern_20 rfl hl (by decide) rfl (fun ls hl => ?_)
      refine lv_iload_n hx hb dX2_pattern_21 rfl (lv_at hl 0 rfl) ?_
      refine lv_bipush (v := (nI 6)) hx hb dX2_pattern_22 (by decide) ?_
      refine lv_icmp_lt (tgt := 37) hx hb dX2_pattern_24 (by decide) (fun hlt => ?_) (fun hlt => ?_)
      · have hlt : yN T.1 < 6 := (nI_ltI (a := yN T.1) (b := 6) (by omega) (by omega)).mp hlt
        have hk9 : kPattern (nI (yN T.1)) x1 x2 = nI 0 := by simp [kPattern, kif, ix4.mp ha1, ha2, nI_ne6 hlt]
        obtain ⟨j1, hj1, rfl⟩ := ixof4 ha1
        have hnj1 : nt (nI j1) = j1 := nt_nI (by omega)
        obtain ⟨j2, hj2, rfl⟩ := in_nat1 (n := 480) (by decide) ha2
        have hnj2 : nt (nI j2) = j2 := nt_nI (by omega)
        refine lv_aload_n hx hb dX2_pattern_37 rfl (lv_at hl 1 rfl) ?_
        refine gw_getr (C := RX2) (T := TX2) (N := 6) hx hb hts inwX2 hown hK hP 0 0 1 rfl rfl rfl (by decide) (hts _ a103) (fun _ h9 => h9) dX2_pattern_38 ?_
        refine gw_getrN (C := RX1) (T := TX1) (N := 12) hx hb hts inwX1 hown hK hP 1 2 6 rfl rfl rfl (by decide) (hE.nest _ (.fieldLinkNest RX2 58 RX1 "classOf" "[I" RX2) (by decide +kernel) rfl) (fun _ h9 => h9) dX2_pattern_41 ?_
        refine lv_iload_n hx hb dX2_pattern_44 rfl (lv_at hl 0 rfl) ?_
        refine lv_iload_n hx hb dX2_pattern_45 rfl (lv_at hl 2 rfl) ?_
        refine gw_ast hx hb hK hP hD hS 6 0 (n := 6) rfl rfl (i := yN T.1) (by omega) (by decide) dX2_pattern_46 (fun H locs hP hD hS => ?_)
        obtain ⟨sg13, esg13⟩ : ∃ z : Nat → Nat → Int32, z = gw_u sg0 6 (upd (sg0 6) (yN T.1) (nI j1)) := ⟨_, rfl⟩
        rw [← esg13] at hP hD
        have hk : EC (sCf (T) (yN T.1) j1) sg13 := by rw [esg13]; exact cw_Cf hk (by omega)
        refine lv_aload_n hx hb dX2_pattern_47 rfl (lv_at hl 1 rfl) ?_
        refine gw_getr (C := RX2) (T := TX2) (N := 6) hx hb hts inwX2 hown hK hP 0 0 1 rfl rfl rfl (by decide) (hts _ a103) (fun _ h9 => h9) dX2_pattern_48 ?_
        refine gw_getrN (C := RX1) (T := TX1) (N := 12) hx hb hts inwX1 hown hK hP 1 3 7 rfl rfl rfl (by decide) (hE.nest _ (.fieldLinkNest RX2 61 RX1 "minutesALog" "[I" RX2) (by decide +kernel) rfl) (fun _ h9 => h9) dX2_pattern_51 ?_
        refine lv_iload_n hx hb dX2_pattern_54 rfl (lv_at hl 0 rfl) ?_
        refine lv_iload_n hx hb dX2_pattern_55 rfl (lv_at hl 3 rfl) ?_
        refine gw_ast hx hb hK hP hD hS 7 0 (n := 6) rfl rfl (i := yN T.1) (by omega) (by decide) dX2_pattern_56 (fun H locs hP hD hS => ?_)
        obtain ⟨sg14, esg14⟩ : ∃ z : Nat → Nat → Int32, z = gw_u sg13 7 (upd (sg13 7) (yN T.1) (nI j2)) := ⟨_, rfl⟩
        rw [← esg14] at hP hD
        have hk : EC (sMn (sCf (T) (yN T.1) j1) (yN T.1) j2) sg14 := by rw [esg14]; exact cw_Mn hk (by omega)
        refine lv_aload_n hx hb dX2_pattern_57 rfl (lv_at hl 1 rfl) ?_
        refine gw_getr (C := RX2) (T := TX2) (N := 6) hx hb hts inwX2 hown hK hP 0 0 1 rfl rfl rfl (by decide) (hts _ a103) (fun _ h9 => h9) dX2_pattern_58 ?_
        refine lv_iload_n hx hb dX2_pattern_61 rfl (lv_at hl 0 rfl) ?_
        refine lv_iconst (v := (nI 1)) hx hb dX2_pattern_62 (by decide) ?_
        refine lv_iadd hx hb dX2_pattern_63 ?_
        refine gw_top (y := (nI (yN T.1 + 1))) (nI_add _ _) ?_
        refine gw_putN (C := RX1) (T := TX1) (N := 12) (ty := .int) hx hb hts inwX1 tyX1 tyX1_ok nmX1 hown hK hP hD hS 1 9 rfl rfl rfl (by decide) (hE.nest _ (.fieldLinkNest RX2 47 RX1 "patterns" "I" RX2) (by decide +kernel) rfl) (fun _ h9 => h9) rfl (by decide +kernel) rfl rfl dX2_pattern_64 (fun H locs hP hD hS => ?_)
        obtain ⟨sg15, esg15⟩ : ∃ z : Nat → Nat → Int32, z = gw_u sg14 1 (upd (sg14 1) 9 (nI (yN T.1 + 1))) := ⟨_, rfl⟩
        rw [← esg15] at hP hD
        have hk : EC (sNn (sMn (sCf (T) (yN T.1) j1) (yN T.1) j2) (yN T.1 + 1)) sg15 := by rw [esg15]; exact cw_N hk (by omega)
        refine lv_aload_n hx hb dX2_pattern_67 rfl (lv_at hl 1 rfl) ?_
        refine gc_go0 (va_runV (As := []) (rest := []) ⟨hx, hb, hml, hown, hts⟩ (m_f_X2_forgetSearch l hl9 D cI cJ ad sg15 _  (sNn (sMn (sCf (T) (yN T.1) j1) (yN T.1) j2) (yN T.1 + 1)) hk) (cwV 0 hts (gwV a104 a105 a106 a97 a107) rfl rfl rfl (by decide +kernel) ⟨by decide, by decide⟩) (gc_preV0 hK hP hD hS hA hE rfl rfl rfl) rfl rfl hl.1 rfl (lv_room (Nat.le_of_ble_eq_true rfl)) dX2_pattern_68 ⟨by decide, by decide⟩) hD hS hA (fun v16 sg18 H locs hp19 hP hD hS => ?_)
        obtain ⟨rfl, hk⟩ := hp19
        refine W.eq (g2 := F0 m 71 ls []) rfl ?_
        refine lv_iload_n hx hb dX2_pattern_71 rfl (lv_at hl 0 rfl) ?_
        refine W.widen (k := 3) (n := 18) (by decide) (by decide) ?_
        exact hret _ _ _ _ _ _ hP hS dX2_pattern_72 (⟨by unfold tPattern; rw [hnj1, hnj2]; exact hk, hk9, rfl⟩)
      · have hlt : ¬ (yN T.1 < 6) := fun q => hlt ((nI_ltI (a := yN T.1) (b := 6) (by omega) (by omega)).mpr q)
        obtain ⟨sa9, hstr⟩ := hE.2.2.1 (RX2, 53, "there is no room for a pattern more") (by decide)
        exact kx "java/lang/IllegalStateException" "there is no room for a pattern more" ["java/lang/RuntimeException", "java/lang/Exception"] 51 53 55 sa9 _ _ _ _ _ 27 ls hl9 (by decide) (by decide) (hts _ a4) (hts _ a5) hstr (vx_hat (B := .castable "java/lang/IllegalStateException" "java/lang/IllegalStateException" :: vxD) (fun w hw => hts w (vxg_55 w hw)) vxb_55 (vx_c (hE.nest _ (.castable "java/lang/IllegalStateException" "java/lang/IllegalStateException") (by decide) rfl) (fun w hw => hE.nest _ w (vxDN w hw) (vxDT w hw)))) (by decide +kernel) (hl.1.trans hml.symm) dX2_pattern_27 dX2_pattern_30 dX2_pattern_31 dX2_pattern_33 dX2_pattern_36 (by decide) (by decide) (by decide) (by decide) (by decide) (by decide) (⟨hk, Or.inr (Or.inr (⟨rfl, by simp [kPattern, kif, ix4.mp ha1, ha2, show yN T.1 = 6 by omega]⟩))⟩) hP hS
    · obtain ⟨rfl, hq⟩ := hp10
      rw [show sg9 = sg0 from funext (fun k => hb12 k (by simp))] at hP hD
      exact kt _ _ _ _ _ _ _ _ _ _ _ (⟨hk, Or.inr (Or.inl ⟨rfl, by simp [kPattern, kif, ix4.mp ha1, hq]⟩)⟩) hc1 hc2 hc3 hP hS (by decide) (by decide)
  · obtain ⟨rfl, hq⟩ := hp4
    rw [show sg3 = sg0 from funext (fun k => hb6 k (by simp))] at hP hD
    exact kt _ _ _ _ _ _ _ _ _ _ _ (⟨hk, Or.inl ⟨rfl, by simp [kPattern, kif, (not_congr ix4).mp hq]⟩⟩) hc1 hc2 hc3 hP hS (by decide) (by decide)
abbrev rmf_X2_run : Room := { frames := 17, cells := 1, slots := 6, locals := 366 }
set_option maxRecDepth 100000 in
set_option maxHeartbeats 4000000 in
theorem m_f_X2_run (l : Launch) (hl9 : l.stackTraces = false) (D : va_G) (cI : ClassId) (cJ : ClassId × ClassId) (ad : Nat → Nat) (sg0 : Nat → Nat → Int32) (sz : Nat) (x1 : Int32) (T : TS) (hT : TOk T) (hC : EC T sg0) : gc_B l yX2_run wsX2_run rmf_X2_run D vwCl (tyS cI cJ) cI cJ gxT gxN SC [.ref (ad 0), .int x1] ad sg0 sz 1 6 (fun v sg2 => EC (tRun T x1) sg2 ∧ kRun x1 = nI 0 ∧ v = some (.int (aRun T x1))) (fun E sg2 => EC T sg2 ∧ ((E = "java/lang/IllegalArgumentException" ∧ kRun x1 = nI 1))) := by
  refine gc_Bi_of (cc := cX2_run) (maxL := 2) (by decide) rfl (Nat.le_of_ble_eq_true rfl) ?_
  intro p e s m below meth c A ls Q hin hE hret kt kx
  obtain ⟨⟨hx, hb, hml, hown, hts⟩, -, hlocks, -, hA, hP, hK, hD, hS, hl⟩ := hin
  have hts : ∀ w ∈ wsAll, w.before ([.ref (ad 0), .int x1] : List Value).toArray s = true := fun w h => hts w (List.mem_cons_of_mem _ h)
  have hl : lv_has ls 2 [(0, .ref (ad 0)), (1, .int x1)] := hl
  have hk := hC
  have hN6 := hC.1.1.1
  refine lv_iload_n hx hb dX2_run_0 rfl (lv_at hl 1 rfl) ?_
  refine lv_iconst (v := (nI 0)) hx hb dX2_run_1 (by decide) ?_
  refine lv_sipush (v := (nI 20000)) hx hb dX2_run_2 (by decide) ?_
  refine gc_goB (pl := []) (S2 := SE) (ad := ad) (sg := sg0) (vx_runS (As := [.int x1, .int (nI 0), .int (nI 20000)]) (rest := []) ⟨hx, hb, hml, hown, hts⟩ (m_X2_needRange l hl9 D cI cJ (fun j => ad (gw_p [] j)) (fun j => sg0 (gw_p [] j)) _ x1 (nI 0) (nI 20000) ) (cwS 3 hts (gwS a99 a100 a97 a101) rfl rfl rfl (by decide +kernel) ⟨by decide, by decide⟩) (gc_preS hK hP hD hS hA hE rfl) rfl rfl hl.1 rfl (lv_room (Nat.le_of_ble_eq_true rfl)) dX2_run_5 ⟨by decide, by decide⟩) hP hD hS hA rfl (fun v1 sp2 sg3 H locs hp4 ha5 hb6 hP hD hS => ?_) (fun E9 x9 ce9 sp2 sg3 H locs hp4 hc1 hc2 hc3 ha5 hb6 hP hD hS => ?_)
  · obtain ⟨rfl, ha1⟩ := hp4
    rw [show sg3 = sg0 from funext (fun k => hb6 k (by simp))] at hP hD
    refine W.eq (g2 := F0 m 8 ls []) rfl ?_
    have hk9 : kRun x1 = nI 0 := by simp [kRun, kif, ha1]
    obtain ⟨j1, hj1, rfl⟩ := inof20000 ha1
    have hnj1 : nt (nI j1) = j1 := nt_nI (by omega)
    refine lv_aload_n hx hb dX2_run_8 rfl (lv_at hl 0 rfl) ?_
    refine gw_getr (C := RX2) (T := TX2) (N := 6) hx hb hts inwX2 hown hK hP 0 1 2 rfl rfl rfl (by decide) (hts _ a94) (fun _ h9 => h9) dX2_run_9 ?_
    refine lv_iload_n hx hb dX2_run_12 rfl (lv_at hl 1 rfl) ?_
    refine lv_iconst (v := (-1)) hx hb dX2_run_13 (by decide) ?_
    refine gc_go (pl := [2, 19, 20, 21, 22, 23, 24, 25, 1, 4, 5, 6, 7, 8, 9, 10, 11, 12, 13, 14, 15, 16, 17, 18]) (S2 := SS) (ad := ad) (sg := sg0) (va_runVN (As := [.int (nI j1), .int (-1)]) (rest := []) ⟨hx, hb, hml, hown, hts⟩ (m_f_X0_goThroughPlans l hl9 D cI cJ (fun j => ad (gw_p [2, 19, 20, 21, 22, 23, 24, 25, 1, 4, 5, 6, 7, 8, 9, 10, 11, 12, 13, 14, 15, 16, 17, 18] j)) (fun j => sg0 (gw_p [2, 19, 20, 21, 22, 23, 24, 25, 1, 4, 5, 6, 7, 8, 9, 10, 11, 12, 13, 14, 15, 16, 17, 18] j)) _ j1 (by omega) (-1) (yL T.1 j1) (EY_latest hk.1) rfl (EQ_none (EC_ord hk))) (⟨va_cnB 2 hts (gwN a110) rfl rfl rfl (hE.2.2.2.1 (.methodLinkNest RX2 83 yX0_goThroughPlans RX2) (by decide +kernel)).2 (hts _ a18) (by decide +kernel) ⟨by decide, by decide⟩, hts _ a108, hts _ a109⟩) (gc_preV hK hP hD hS hA hE rfl rfl rfl rfl) rfl rfl hl.1 rfl (lv_room (Nat.le_of_ble_eq_true rfl)) dX2_run_14 ⟨by decide, by decide⟩) hP hD hS hA rfl (fun v7 sp8 sg9 H locs hp10 ha11 hb12 hP hD hS => ?_)
    obtain ⟨rfl, hZ9⟩ := hp10
    obtain ⟨hr1, hr2, hr3, hr4, hr5, hr6⟩ := run_EC hk hZ9 ha11 hb12 rfl
    have hS9 := cR_sim (yL T.1 j1) ((fun j => sg0 (gw_p [2, 19, 20, 21, 22, 23, 24, 25, 1, 4, 5, 6, 7, 8, 9, 10, 11, 12, 13, 14, 15, 16, 17, 18] j)) 0 13) ((fun j => sg0 (gw_p [2, 19, 20, 21, 22, 23, 24, 25, 1, 4, 5, 6, 7, 8, 9, 10, 11, 12, 13, 14, 15, 16, 17, 18] j)) 7)
    have hk : EC (tRun T (nI j1)) sg9 := EC_run (by rw [hnj1]; exact hS9) hr1 hr3 hr4 hr5 (by rw [hr6]; exact hk.2.2.2.1) (by rw [hr6]; exact hk.2.2.2.2)
    have hsp : sg9 2 11 = b2 (cR (yL T.1 j1)).2.1 := by rw [hr2, hS9.2.1]
    refine W.eq (g2 := F0 m 17 ls []) rfl ?_
    refine lv_aload_n hx hb dX2_run_17 rfl (lv_at hl 0 rfl) ?_
    refine lv_iconst (v := (nI 1)) hx hb dX2_run_18 (by decide) ?_
    refine gw_put (C := RX2) (T := TX2) (N := 6) (ty := .boolean) hx hb hts inwX2 tyX2 tyX2_ok nmX2 hown hK hP hD hS 0 3 rfl rfl rfl (by decide) (hts _ a93) (fun _ h9 => h9) rfl (by decide +kernel) rfl rfl dX2_run_19 (fun H locs hP hD hS => ?_)
    obtain ⟨sg13, esg13⟩ : ∃ z : Nat → Nat → Int32, z = gw_u sg9 0 (upd (sg9 0) 3 (nI 1)) := ⟨_, rfl⟩
    rw [← esg13] at hP hD
    have hk : EC (tRun T (nI j1)) sg13 := by rw [esg13]; exact cw_told hk
    refine lv_aload_n hx hb dX2_run_22 rfl (lv_at hl 0 rfl) ?_
    refine gw_getr (C := RX2) (T := TX2) (N := 6) hx hb hts inwX2 hown hK hP 0 1 2 rfl rfl rfl (by decide) (hts _ a94) (fun _ h9 => h9) dX2_run_23 ?_
    refine gw_getiN (C := RX0) (T := TX0) (N := 15) hx hb hts inwX0 hown hK hP 2 11 rfl rfl rfl (by decide) (hE.nest _ (.fieldLinkNest RX2 90 RX0 "spent" "Z" RX2) (by decide +kernel) rfl) (fun _ h9 => h9) dX2_run_26 ?_
    refine gw_top (y := (b2 (cR (yL T.1 j1)).2.1)) (by rw [esg13, gw_u_n _ _ (by decide)]; exact hsp) ?_
    refine lv_if_eq (tgt := 34) hx hb dX2_run_29 (by decide) (fun hc29 => ?_) (fun hc29 => ?_)
    · refine lv_aload_n hx hb dX2_run_34 rfl (lv_at hl 0 rfl) ?_
      refine gw_getr (C := RX2) (T := TX2) (N := 6) hx hb hts inwX2 hown hK hP 0 1 2 rfl rfl rfl (by decide) (hts _ a94) (fun _ h9 => h9) dX2_run_35 ?_
      refine gw_getiN (C := RX0) (T := TX0) (N := 15) hx hb hts inwX0 hown hK hP 2 12 rfl rfl rfl (by decide) (hE.nest _ (.fieldLinkNest RX2 93 RX0 "found" "Z" RX2) (by decide +kernel) rfl) (fun _ h9 => h9) dX2_run_38 ?_
      refine gw_top (y := (b2 (cR (yL T.1 j1)).2.2.1)) (by have := hk.2.1; unfold tRun at this; rwa [hnj1] at this) ?_
      refine lv_if_eq (tgt := 48) hx hb dX2_run_41 (by decide) (fun hc41 => ?_) (fun hc41 => ?_)
      · refine lv_iconst (v := (nI 1)) hx hb dX2_run_48 (by decide) ?_
        exact hret _ _ _ _ _ _ hP hS dX2_run_49 (⟨hk, hk9, by unfold aRun; rw [hnj1]; first | (simp only [b2_0] at hc29 hc41; simp [hc29, hc41]) | (simp only [b2_0] at hc29; simp [hc29])⟩)
      · refine lv_iconst (v := (nI 0)) hx hb dX2_run_44 (by decide) ?_
        refine lv_goto (tgt := 49) hx hb dX2_run_45 (by decide) ?_
        exact hret _ _ _ _ _ _ hP hS dX2_run_49 (⟨hk, hk9, by unfold aRun; rw [hnj1]; first | (simp only [b2_0] at hc29 hc41; simp [hc29, hc41]) | (simp only [b2_0] at hc29; simp [hc29])⟩)
    · refine lv_iconst (v := (nI 2)) hx hb dX2_run_32 (by decide) ?_
      exact hret _ _ _ _ _ _ hP hS dX2_run_33 (⟨hk, hk9, by unfold aRun; rw [hnj1]; first | (simp only [b2_0] at hc29 hc41; simp [hc29, hc41]) | (simp only [b2_0] at hc29; simp [hc29])⟩)
  · obtain ⟨rfl, hq⟩ := hp4
    rw [show sg3 = sg0 from funext (fun k => hb6 k (by simp))] at hP hD
    exact kt _ _ _ _ _ _ _ _ _ _ _ (⟨hk, ⟨rfl, by simp [kRun, kif, hq]⟩⟩) hc1 hc2 hc3 hP hS (by decide) (by decide)
abbrev rmf_X1_boundOfGain : Room := { frames := 0, cells := 0, slots := 0, locals := 0 }
set_option maxRecDepth 100000 in
set_option maxHeartbeats 4000000 in
theorem m_f_X1_boundOfGain (l : Launch) (hl9 : l.stackTraces = false) (D : va_G) (cI : ClassId) (cJ : ClassId × ClassId) (ad : Nat → Nat) (sg0 : Nat → Nat → Int32) (sz : Nat) : gc_M l yX1_boundOfGain wsX1_boundOfGain rmf_X1_boundOfGain D vwCl (tyS cI cJ) cI cJ gxT gxN SY [.ref (ad 0)] ad sg0 sz 0 0 (fun v sg2 => sg2 = sg0 ∧ ∃ r : Int32, v = some (.int r)) := by
  refine gc_Mi_of (cc := cX1_boundOfGain) (maxL := 3) (by decide) rfl (Nat.le_of_ble_eq_true rfl) ?_
  intro p e s m below meth c A ls Q hin hE hret
  obtain ⟨⟨hx, hb, hml, hown, hts⟩, -, hlocks, -, hA, hP, hK, hD, hS, hl⟩ := hin
  have hts : ∀ w ∈ wsAll, w.before ([.ref (ad 0)] : List Value).toArray s = true := fun w h => hts w (List.mem_cons_of_mem _ h)
  have hl : lv_has ls 3 [(0, .ref (ad 0))] := hl
  have c4 : ∀ (n9 : Nat) (i : Nat) (x1 : Int32) (sg : Nat → Nat → Int32) (H : Heap) (locs : List Loc) (ls : Array Slot), 4 - i = n9 → i ≤ 4 → (sg = sg0) → va_P D vwCl (gw cI cJ ad sg SY) H → va_D A (gw cI cJ ad sg SY) → va_S A s.heap H locs → lv_has ls 3 [(2, .int (nI i)), (1, .int x1), (0, .ref (ad 0))] → W p l e rmf_X1_boundOfGain s m ([.ref (ad 0)] : List Value).toArray below meth c H locs 0 0 Q (F0 m 4 ls []) := by
    intro n9
    induction n9 using Nat.strongRecOn with
    | ind n9 ih =>
    intro i x1 sg H locs ls hn h1 hk hP hD hS hl
    subst hn
    refine lv_iload_n hx hb dX1_boundOfGain_4 rfl (lv_at hl 0 rfl) ?_
    refine lv_iconst (v := (nI 4)) hx hb dX1_boundOfGain_5 (by decide) ?_
    refine lv_icmp_ge (tgt := 31) hx hb dX1_boundOfGain_6 (by decide) (fun hc1 => ?_) (fun hc1 => ?_)
    · have hc1 : 4 ≤ i := (nI_leI (a := 4) (b := i) (by omega) (by omega)).mp hc1
      refine lv_iload_n hx hb dX1_boundOfGain_31 rfl (lv_at hl 1 rfl) ?_
      exact hret _ _ _ _ _ _ hP hS dX1_boundOfGain_32 (⟨hk, _, rfl⟩)
    · have hc1 : ¬ (4 ≤ i) := fun q => hc1 ((nI_leI (a := 4) (b := i) (by omega) (by omega)).mpr q)
      refine lv_iload_n hx hb dX1_boundOfGain_9 rfl (lv_at hl 1 rfl) ?_
      refine lv_aload_n hx hb dX1_boundOfGain_10 rfl (lv_at hl 2 rfl) ?_
      refine gw_getr (C := RX1) (T := TX1) (N := 12) hx hb hts inwX1 hown hK hP 0 7 8 rfl rfl rfl (by decide) (hts _ a74) (fun _ h9 => h9) dX1_boundOfGain_11 ?_
      refine lv_iload_n hx hb dX1_boundOfGain_14 rfl (lv_at hl 0 rfl) ?_
      refine gw_ald hx hb hK hP 8 0 (n := 4) rfl rfl (i := i) (by omega) (by decide) dX1_boundOfGain_15 ?_
      refine lv_topi (fun v2 hv2 => ?_)
      refine lv_aload_n hx hb dX1_boundOfGain_16 rfl (lv_at hl 2 rfl) ?_
      refine gw_getr (C := RX1) (T := TX1) (N := 12) hx hb hts inwX1 hown hK hP 0 6 7 rfl rfl rfl (by decide) (hts _ a75) (fun _ h9 => h9) dX1_boundOfGain_17 ?_
      refine lv_iload_n hx hb dX1_boundOfGain_20 rfl (lv_at hl 0 rfl) ?_
      refine gw_ald hx hb hK hP 7 0 (n := 4) rfl rfl (i := i) (by omega) (by decide) dX1_boundOfGain_21 ?_
      refine lv_topi (fun v3 hv3 => ?_)
      refine lv_imul hx hb dX1_boundOfGain_22 ?_
      refine lv_topi (fun v4 hv4 => ?_)
      refine lv_iadd hx hb dX1_boundOfGain_23 ?_
      refine lv_topi (fun v5 hv5 => ?_)
      refine lv_istore_n (lv' := [(1, .int v5), (2, .int (nI i)), (0, .ref (ad 0))]) hx hb dX1_boundOfGain_24 rfl hl (by decide) rfl (fun ls hl => ?_)
      refine lv_iinc (k := 1) (v := (nI (i + 1))) (lv' := [(2, .int (nI (i + 1))), (1, .int v5), (0, .ref (ad 0))]) hx hb dX1_boundOfGain_25 hl rfl (nI_1 _) (by decide) rfl (fun ls hl => ?_)
      refine lv_goto (tgt := 4) hx hb dX1_boundOfGain_28 (by decide) ?_
      exact ih _ (by omega) (i + 1) v5 _ _ _ _ rfl (by omega) hk hP hD hS (lv_sub hl [0, 1, 2] rfl)
  refine lv_iconst (v := (nI 0)) hx hb dX1_boundOfGain_0 (by decide) ?_
  refine lv_istore_n (lv' := [(1, .int (nI 0)), (0, .ref (ad 0))]) hx hb dX1_boundOfGain_1 rfl hl (by decide) rfl (fun ls hl => ?_)
  refine lv_iconst (v := (nI 0)) hx hb dX1_boundOfGain_2 (by decide) ?_
  refine lv_istore_n (lv' := [(2, .int (nI 0)), (1, .int (nI 0)), (0, .ref (ad 0))]) hx hb dX1_boundOfGain_3 rfl hl (by decide) rfl (fun ls hl => ?_)
  exact c4 _ 0 (nI 0) _ _ _ _ rfl (by omega) rfl hP hD hS (lv_sub hl [0, 1, 2] rfl)
abbrev rmf_X2_search : Room := { frames := 7, cells := 2, slots := 12, locals := 103 }
set_option maxRecDepth 100000 in
set_option maxHeartbeats 4000000 in
theorem m_f_X2_search (l : Launch) (hl9 : l.stackTraces = false) (D : va_G) (cI : ClassId) (cJ : ClassId × ClassId) (ad : Nat → Nat) (sg0 : Nat → Nat → Int32) (sz : Nat) (x1 : Int32) (T : TS) (hT : TOk T) (hC : EC T sg0) : gc_B l yX2_search wsX2_search rmf_X2_search D vwCl (tyS cI cJ) cI cJ gxT gxN SC [.ref (ad 0), .int x1] ad sg0 sz 2 12 (fun v sg2 => EC (T) sg2 ∧ ∃ r : Int32, v = some (.int r)) (fun E sg2 => EC T sg2 ∧ (E = "java/lang/IndexOutOfBoundsException" ∨ E = "java/lang/IllegalStateException")) := by
  refine gc_Bi_of (cc := cX2_search) (maxL := 2) (by decide) rfl (Nat.le_of_ble_eq_true rfl) ?_
  intro p e s m below meth c A ls Q hin hE hret kt kx
  obtain ⟨⟨hx, hb, hml, hown, hts⟩, -, hlocks, -, hA, hP, hK, hD, hS, hl⟩ := hin
  have hts : ∀ w ∈ wsAll, w.before ([.ref (ad 0), .int x1] : List Value).toArray s = true := fun w h => hts w (List.mem_cons_of_mem _ h)
  have hl : lv_has ls 2 [(0, .ref (ad 0)), (1, .int x1)] := hl
  have hk := hC
  have hN6 := hC.1.1.1
  refine lv_iload_n hx hb dX2_search_0 rfl (lv_at hl 1 rfl) ?_
  refine lv_iconst (v := (nI 4)) hx hb dX2_search_1 (by decide) ?_
  refine gc_goB (pl := []) (S2 := SE) (ad := ad) (sg := sg0) (vx_runS (As := [.int x1, .int (nI 4)]) (rest := []) ⟨hx, hb, hml, hown, hts⟩ (m_X2_needIndex l hl9 D cI cJ (fun j => ad (gw_p [] j)) (fun j => sg0 (gw_p [] j)) _ x1 (nI 4) ) (cwS 2 hts (gwS a95 a96 a97 a98) rfl rfl rfl (by decide +kernel) ⟨by decide, by decide⟩) (gc_preS hK hP hD hS hA hE rfl) rfl rfl hl.1 rfl (lv_room (Nat.le_of_ble_eq_true rfl)) dX2_search_2 ⟨by decide, by decide⟩) hP hD hS hA rfl (fun v1 sp2 sg3 H locs hp4 ha5 hb6 hP hD hS => ?_) (fun E9 x9 ce9 sp2 sg3 H locs hp4 hc1 hc2 hc3 ha5 hb6 hP hD hS => ?_)
  · obtain ⟨rfl, ha1⟩ := hp4
    rw [show sg3 = sg0 from funext (fun k => hb6 k (by simp))] at hP hD
    refine W.eq (g2 := F0 m 5 ls []) rfl ?_
    refine lv_aload_n hx hb dX2_search_5 rfl (lv_at hl 0 rfl) ?_
    refine gw_geti (C := RX2) (T := TX2) (N := 6) hx hb hts inwX2 hown hK hP 0 3 rfl rfl rfl (by decide) (hts _ a93) (fun _ h9 => h9) dX2_search_6 ?_
    refine lv_if_ne (tgt := 22) hx hb dX2_search_9 (by decide) (fun hc7 => ?_) (fun hc7 => ?_)
    · obtain ⟨j1, hj1, rfl⟩ := ixof4 ha1
      refine lv_iload_n hx hb dX2_search_22 rfl (lv_at hl 1 rfl) ?_
      rcases (show j1 = 0 ∨ j1 = 1 ∨ j1 = 2 ∨ j1 = 3 by omega) with rfl | rfl | rfl | rfl
      · refine lv_tableIn (tgt := 48) (off := 25) hx hb dX2_search_23 (by decide) (by decide) rfl (by decide) ?_
        refine lv_aload_n hx hb dX2_search_48 rfl (lv_at hl 0 rfl) ?_
        refine gw_getr (C := RX2) (T := TX2) (N := 6) hx hb hts inwX2 hown hK hP 0 1 2 rfl rfl rfl (by decide) (hts _ a94) (fun _ h9 => h9) dX2_search_49 ?_
        refine gw_getiN (C := RX0) (T := TX0) (N := 15) hx hb hts inwX0 hown hK hP 2 10 rfl rfl rfl (by decide) (hE.nest _ (.fieldLinkNest RX2 98 RX0 "steps" "I" RX2) (by decide +kernel) rfl) (fun _ h9 => h9) dX2_search_52 ?_
        refine W.widen (k := 2) (n := 12) (by decide) (by decide) ?_
        exact hret _ _ _ _ _ _ hP hS dX2_search_55 (⟨hk, _, rfl⟩)
      · refine lv_tableIn (tgt := 56) (off := 33) hx hb dX2_search_23 (by decide) (by decide) rfl (by decide) ?_
        refine lv_aload_n hx hb dX2_search_56 rfl (lv_at hl 0 rfl) ?_
        refine gw_getr (C := RX2) (T := TX2) (N := 6) hx hb hts inwX2 hown hK hP 0 1 2 rfl rfl rfl (by decide) (hts _ a94) (fun _ h9 => h9) dX2_search_57 ?_
        refine gw_getiN (C := RX0) (T := TX0) (N := 15) hx hb hts inwX0 hown hK hP 2 11 rfl rfl rfl (by decide) (hE.nest _ (.fieldLinkNest RX2 90 RX0 "spent" "Z" RX2) (by decide +kernel) rfl) (fun _ h9 => h9) dX2_search_60 ?_
        refine lv_if_eq (tgt := 70) hx hb dX2_search_63 (by decide) (fun hc8 => ?_) (fun hc8 => ?_)
        · refine lv_iconst (v := (nI 1)) hx hb dX2_search_70 (by decide) ?_
          refine W.widen (k := 2) (n := 12) (by decide) (by decide) ?_
          exact hret _ _ _ _ _ _ hP hS dX2_search_71 (⟨hk, _, rfl⟩)
        · refine lv_iconst (v := (nI 0)) hx hb dX2_search_66 (by decide) ?_
          refine lv_goto (tgt := 71) hx hb dX2_search_67 (by decide) ?_
          refine W.widen (k := 2) (n := 12) (by decide) (by decide) ?_
          exact hret _ _ _ _ _ _ hP hS dX2_search_71 (⟨hk, _, rfl⟩)
      · refine lv_tableIn (tgt := 72) (off := 49) hx hb dX2_search_23 (by decide) (by decide) rfl (by decide) ?_
        refine lv_aload_n hx hb dX2_search_72 rfl (lv_at hl 0 rfl) ?_
        refine gw_getr (C := RX2) (T := TX2) (N := 6) hx hb hts inwX2 hown hK hP 0 1 2 rfl rfl rfl (by decide) (hts _ a94) (fun _ h9 => h9) dX2_search_73 ?_
        refine gw_getiN (C := RX0) (T := TX0) (N := 15) hx hb hts inwX0 hown hK hP 2 12 rfl rfl rfl (by decide) (hE.nest _ (.fieldLinkNest RX2 93 RX0 "found" "Z" RX2) (by decide +kernel) rfl) (fun _ h9 => h9) dX2_search_76 ?_
        refine lv_if_eq (tgt := 86) hx hb dX2_search_79 (by decide) (fun hc9 => ?_) (fun hc9 => ?_)
        · refine lv_iconst (v := (nI 0)) hx hb dX2_search_86 (by decide) ?_
          refine W.widen (k := 2) (n := 12) (by decide) (by decide) ?_
          exact hret _ _ _ _ _ _ hP hS dX2_search_87 (⟨hk, _, rfl⟩)
        · refine lv_iconst (v := (nI 1)) hx hb dX2_search_82 (by decide) ?_
          refine lv_goto (tgt := 87) hx hb dX2_search_83 (by decide) ?_
          refine W.widen (k := 2) (n := 12) (by decide) (by decide) ?_
          exact hret _ _ _ _ _ _ hP hS dX2_search_87 (⟨hk, _, rfl⟩)
      · refine lv_tableOut (tgt := 88) hx hb dX2_search_23 (by decide) (by decide) ?_
        refine lv_aload_n hx hb dX2_search_88 rfl (lv_at hl 0 rfl) ?_
        refine gw_getr (C := RX2) (T := TX2) (N := 6) hx hb hts inwX2 hown hK hP 0 0 1 rfl rfl rfl (by decide) (hts _ a103) (fun _ h9 => h9) dX2_search_89 ?_
        refine gc_go (pl := [1, 4, 5, 6, 7, 8, 9, 10, 11, 12, 13, 14, 15, 16, 17, 18, 25]) (S2 := SY) (ad := ad) (sg := sg0) (va_runVN (As := []) (rest := []) ⟨hx, hb, hml, hown, hts⟩ (m_f_X1_boundOfGain l hl9 D cI cJ (fun j => ad (gw_p [1, 4, 5, 6, 7, 8, 9, 10, 11, 12, 13, 14, 15, 16, 17, 18, 25] j)) (fun j => sg0 (gw_p [1, 4, 5, 6, 7, 8, 9, 10, 11, 12, 13, 14, 15, 16, 17, 18, 25] j)) _  ) (⟨va_cnB 0 hts (gwN a113) rfl rfl rfl (hE.2.2.2.1 (.methodLinkNest RX2 101 yX1_boundOfGain RX2) (by decide +kernel)).2 (hts _ a80) (by decide +kernel) ⟨by decide, by decide⟩, hts _ a111, hts _ a112⟩) (gc_preV hK hP hD hS hA hE rfl rfl rfl rfl) rfl rfl hl.1 rfl (lv_room (Nat.le_of_ble_eq_true rfl)) dX2_search_92 ⟨by decide, by decide⟩) hP hD hS hA rfl (fun v10 sp11 sg12 H locs hp13 ha14 hb15 hP hD hS => ?_)
        obtain ⟨hs9, r16, rfl⟩ := hp13
        rw [gw_same hs9 ha14 hb15 rfl] at hP hD
        refine W.eq (g2 := F0 m 95 ls [.int r16]) rfl ?_
        refine W.widen (k := 2) (n := 12) (by decide) (by decide) ?_
        exact hret _ _ _ _ _ _ hP hS dX2_search_95 (⟨hk, _, rfl⟩)
    · obtain ⟨sa9, hstr⟩ := hE.2.2.1 (RX2, 96, "there was no search since something was told") (by decide)
      exact kx "java/lang/IllegalStateException" "there was no search since something was told" ["java/lang/RuntimeException", "java/lang/Exception"] 51 96 55 sa9 _ _ _ _ _ 12 ls hl9 (by decide) (by decide) (hts _ a4) (hts _ a5) hstr (vx_hat (B := .castable "java/lang/IllegalStateException" "java/lang/IllegalStateException" :: vxD) (fun w hw => hts w (vxg_55 w hw)) vxb_55 (vx_c (hE.nest _ (.castable "java/lang/IllegalStateException" "java/lang/IllegalStateException") (by decide) rfl) (fun w hw => hE.nest _ w (vxDN w hw) (vxDT w hw)))) (by decide +kernel) (hl.1.trans hml.symm) dX2_search_12 dX2_search_15 dX2_search_16 dX2_search_18 dX2_search_21 (by decide) (by decide) (by decide) (by decide) (by decide) (by decide) (⟨hk, Or.inr (rfl)⟩) hP hS
  · obtain ⟨rfl, hq⟩ := hp4
    rw [show sg3 = sg0 from funext (fun k => hb6 k (by simp))] at hP hD
    exact kt _ _ _ _ _ _ _ _ _ _ _ (⟨hk, Or.inl rfl⟩) hc1 hc2 hc3 hP hS (by decide) (by decide)
abbrev rmf_X2_used : Room := { frames := 7, cells := 2, slots := 12, locals := 103 }
set_option maxRecDepth 100000 in
set_option maxHeartbeats 4000000 in
theorem m_f_X2_used (l : Launch) (hl9 : l.stackTraces = false) (D : va_G) (cI : ClassId) (cJ : ClassId × ClassId) (ad : Nat → Nat) (sg0 : Nat → Nat → Int32) (sz : Nat) (x1 : Int32) (T : TS) (hT : TOk T) (hC : EC T sg0) : gc_B l yX2_used wsX2_used rmf_X2_used D vwCl (tyS cI cJ) cI cJ gxT gxN SC [.ref (ad 0), .int x1] ad sg0 sz 2 12 (fun v sg2 => EC (T) sg2 ∧ qUsed T x1 = nI 0 ∧ v = some (.int (aUsed T x1))) (fun E sg2 => EC T sg2 ∧ ((E = "java/lang/IndexOutOfBoundsException" ∧ qUsed T x1 = nI 1) ∨ (E = "java/lang/IllegalStateException" ∧ qUsed T x1 = nI 2))) := by
  refine gc_Bi_of (cc := cX2_used) (maxL := 2) (by decide) rfl (Nat.le_of_ble_eq_true rfl) ?_
  intro p e s m below meth c A ls Q hin hE hret kt kx
  obtain ⟨⟨hx, hb, hml, hown, hts⟩, -, hlocks, -, hA, hP, hK, hD, hS, hl⟩ := hin
  have hts : ∀ w ∈ wsAll, w.before ([.ref (ad 0), .int x1] : List Value).toArray s = true := fun w h => hts w (List.mem_cons_of_mem _ h)
  have hl : lv_has ls 2 [(0, .ref (ad 0)), (1, .int x1)] := hl
  have hk := hC
  have hN6 := hC.1.1.1
  refine lv_iload_n hx hb dX2_used_0 rfl (lv_at hl 1 rfl) ?_
  refine lv_aload_n hx hb dX2_used_1 rfl (lv_at hl 0 rfl) ?_
  refine gw_getr (C := RX2) (T := TX2) (N := 6) hx hb hts inwX2 hown hK hP 0 0 1 rfl rfl rfl (by decide) (hts _ a103) (fun _ h9 => h9) dX2_used_2 ?_
  refine gw_getiN (C := RX1) (T := TX1) (N := 12) hx hb hts inwX1 hown hK hP 1 9 rfl rfl rfl (by decide) (hE.nest _ (.fieldLinkNest RX2 47 RX1 "patterns" "I" RX2) (by decide +kernel) rfl) (fun _ h9 => h9) dX2_used_5 ?_
  refine gw_top (y := (nI (yN T.1))) (hk.1.1.2) ?_
  refine gc_goB (pl := []) (S2 := SE) (ad := ad) (sg := sg0) (vx_runS (As := [.int x1, .int (nI (yN T.1))]) (rest := []) ⟨hx, hb, hml, hown, hts⟩ (m_X2_needIndex l hl9 D cI cJ (fun j => ad (gw_p [] j)) (fun j => sg0 (gw_p [] j)) _ x1 (nI (yN T.1)) ) (cwS 2 hts (gwS a95 a96 a97 a98) rfl rfl rfl (by decide +kernel) ⟨by decide, by decide⟩) (gc_preS hK hP hD hS hA hE rfl) rfl rfl hl.1 rfl (lv_room (Nat.le_of_ble_eq_true rfl)) dX2_used_8 ⟨by decide, by decide⟩) hP hD hS hA rfl (fun v1 sp2 sg3 H locs hp4 ha5 hb6 hP hD hS => ?_) (fun E9 x9 ce9 sp2 sg3 H locs hp4 hc1 hc2 hc3 ha5 hb6 hP hD hS => ?_)
  · obtain ⟨rfl, ha1⟩ := hp4
    rw [show sg3 = sg0 from funext (fun k => hb6 k (by simp))] at hP hD
    refine W.eq (g2 := F0 m 11 ls []) rfl ?_
    refine lv_aload_n hx hb dX2_used_11 rfl (lv_at hl 0 rfl) ?_
    refine gw_getr (C := RX2) (T := TX2) (N := 6) hx hb hts inwX2 hown hK hP 0 1 2 rfl rfl rfl (by decide) (hts _ a94) (fun _ h9 => h9) dX2_used_12 ?_
    refine gc_goB (pl := [2, 19, 20, 21, 22, 23, 24, 25, 1, 4, 5, 6, 7, 8, 9, 10, 11, 12, 13, 14, 15, 16, 17, 18]) (S2 := SS) (ad := ad) (sg := sg0) (vx_runS (As := [.ref (ad 2)]) (rest := []) ⟨hx, hb, hml, hown, hts⟩ (m_X2_needBest l hl9 D cI cJ (fun j => ad (gw_p [2, 19, 20, 21, 22, 23, 24, 25, 1, 4, 5, 6, 7, 8, 9, 10, 11, 12, 13, 14, 15, 16, 17, 18] j)) (fun j => sg0 (gw_p [2, 19, 20, 21, 22, 23, 24, 25, 1, 4, 5, 6, 7, 8, 9, 10, 11, 12, 13, 14, 15, 16, 17, 18] j)) _  ) (cwS 1 hts (gwS a114 a115 a97 a116) rfl rfl rfl (by decide +kernel) ⟨by decide, by decide⟩) (gc_preS hK hP hD hS hA hE rfl) rfl rfl hl.1 rfl (lv_room (Nat.le_of_ble_eq_true rfl)) dX2_used_15 ⟨by decide, by decide⟩) hP hD hS hA rfl (fun v7 sp8 sg9 H locs hp10 ha11 hb12 hP hD hS => ?_) (fun E9 x9 ce9 sp8 sg9 H locs hp10 hc1 hc2 hc3 ha11 hb12 hP hD hS => ?_)
    · obtain ⟨rfl, hq1, hq2⟩ := hp10
      rw [gw_same hq1 ha11 hb12 rfl] at hP hD
      have hfo : T.2.1 = true := Classical.byContradiction (fun q9 => hq2 ((EC_fo hk).mpr q9))
      refine W.eq (g2 := F0 m 18 ls []) rfl ?_
      have hk9 : qUsed T x1 = nI 0 := by simp [qUsed, kif, ha1, hfo]
      obtain ⟨j1, hj1, rfl⟩ := ixofN hN6 ha1
      have hnj1 : nt (nI j1) = j1 := nt_nI (by omega)
      refine lv_aload_n hx hb dX2_used_18 rfl (lv_at hl 0 rfl) ?_
      refine gw_getr (C := RX2) (T := TX2) (N := 6) hx hb hts inwX2 hown hK hP 0 1 2 rfl rfl rfl (by decide) (hts _ a94) (fun _ h9 => h9) dX2_used_19 ?_
      refine gw_getrN (C := RX0) (T := TX0) (N := 15) hx hb hts inwX0 hown hK hP 2 14 25 rfl rfl rfl (by decide) (hE.nest _ (.fieldLinkNest RX2 109 RX0 "bestCounts" "[I" RX2) (by decide +kernel) rfl) (fun _ h9 => h9) dX2_used_22 ?_
      refine lv_iload_n hx hb dX2_used_25 rfl (lv_at hl 1 rfl) ?_
      refine gw_ald hx hb hK hP 25 0 (n := 6) rfl rfl (i := j1) (by omega) (by decide) dX2_used_26 ?_
      refine gw_top (y := (nI (T.2.2.2.1 j1))) ((hk.2.2.1 hfo).2 j1 (by omega)) ?_
      exact hret _ _ _ _ _ _ hP hS dX2_used_27 (⟨hk, hk9, by unfold aUsed; rw [hnj1]⟩)
    · obtain ⟨rfl, hq1, hq2⟩ := hp10
      rw [gw_same hq1 ha11 hb12 rfl] at hP hD
      have hfo : ¬ T.2.1 = true := (EC_fo hk).mp hq2
      exact kt _ _ _ _ _ _ _ _ _ _ _ (⟨hk, Or.inr (⟨rfl, by simp [qUsed, kif, ha1, hfo]⟩)⟩) hc1 hc2 hc3 hP hS (by decide) (by decide)
  · obtain ⟨rfl, hq⟩ := hp4
    rw [show sg3 = sg0 from funext (fun k => hb6 k (by simp))] at hP hD
    exact kt _ _ _ _ _ _ _ _ _ _ _ (⟨hk, Or.inl ⟨rfl, by simp [qUsed, kif, hq]⟩⟩) hc1 hc2 hc3 hP hS (by decide) (by decide)
abbrev rmf_X2_best : Room := { frames := 7, cells := 2, slots := 12, locals := 103 }
set_option maxRecDepth 100000 in
set_option maxHeartbeats 4000000 in
theorem m_f_X2_best (l : Launch) (hl9 : l.stackTraces = false) (D : va_G) (cI : ClassId) (cJ : ClassId × ClassId) (ad : Nat → Nat) (sg0 : Nat → Nat → Int32) (sz : Nat) (x1 : Int32) (T : TS) (hT : TOk T) (hC : EC T sg0) : gc_B l yX2_best wsX2_best rmf_X2_best D vwCl (tyS cI cJ) cI cJ gxT gxN SC [.ref (ad 0), .int x1] ad sg0 sz 2 12 (fun v sg2 => EC (T) sg2 ∧ qBest T x1 = nI 0 ∧ v = some (.int (aBest T x1))) (fun E sg2 => EC T sg2 ∧ ((E = "java/lang/IndexOutOfBoundsException" ∧ qBest T x1 = nI 1) ∨ (E = "java/lang/IllegalStateException" ∧ qBest T x1 = nI 2))) := by
  refine gc_Bi_of (cc := cX2_best) (maxL := 2) (by decide) rfl (Nat.le_of_ble_eq_true rfl) ?_
  intro p e s m below meth c A ls Q hin hE hret kt kx
  obtain ⟨⟨hx, hb, hml, hown, hts⟩, -, hlocks, -, hA, hP, hK, hD, hS, hl⟩ := hin
  have hts : ∀ w ∈ wsAll, w.before ([.ref (ad 0), .int x1] : List Value).toArray s = true := fun w h => hts w (List.mem_cons_of_mem _ h)
  have hl : lv_has ls 2 [(0, .ref (ad 0)), (1, .int x1)] := hl
  have hk := hC
  have hN6 := hC.1.1.1
  refine lv_iload_n hx hb dX2_best_0 rfl (lv_at hl 1 rfl) ?_
  refine lv_iconst (v := (nI 3)) hx hb dX2_best_1 (by decide) ?_
  refine gc_goB (pl := []) (S2 := SE) (ad := ad) (sg := sg0) (vx_runS (As := [.int x1, .int (nI 3)]) (rest := []) ⟨hx, hb, hml, hown, hts⟩ (m_X2_needIndex l hl9 D cI cJ (fun j => ad (gw_p [] j)) (fun j => sg0 (gw_p [] j)) _ x1 (nI 3) ) (cwS 2 hts (gwS a95 a96 a97 a98) rfl rfl rfl (by decide +kernel) ⟨by decide, by decide⟩) (gc_preS hK hP hD hS hA hE rfl) rfl rfl hl.1 rfl (lv_room (Nat.le_of_ble_eq_true rfl)) dX2_best_2 ⟨by decide, by decide⟩) hP hD hS hA rfl (fun v1 sp2 sg3 H locs hp4 ha5 hb6 hP hD hS => ?_) (fun E9 x9 ce9 sp2 sg3 H locs hp4 hc1 hc2 hc3 ha5 hb6 hP hD hS => ?_)
  · obtain ⟨rfl, ha1⟩ := hp4
    rw [show sg3 = sg0 from funext (fun k => hb6 k (by simp))] at hP hD
    refine W.eq (g2 := F0 m 5 ls []) rfl ?_
    refine lv_aload_n hx hb dX2_best_5 rfl (lv_at hl 0 rfl) ?_
    refine gw_getr (C := RX2) (T := TX2) (N := 6) hx hb hts inwX2 hown hK hP 0 1 2 rfl rfl rfl (by decide) (hts _ a94) (fun _ h9 => h9) dX2_best_6 ?_
    refine gc_goB (pl := [2, 19, 20, 21, 22, 23, 24, 25, 1, 4, 5, 6, 7, 8, 9, 10, 11, 12, 13, 14, 15, 16, 17, 18]) (S2 := SS) (ad := ad) (sg := sg0) (vx_runS (As := [.ref (ad 2)]) (rest := []) ⟨hx, hb, hml, hown, hts⟩ (m_X2_needBest l hl9 D cI cJ (fun j => ad (gw_p [2, 19, 20, 21, 22, 23, 24, 25, 1, 4, 5, 6, 7, 8, 9, 10, 11, 12, 13, 14, 15, 16, 17, 18] j)) (fun j => sg0 (gw_p [2, 19, 20, 21, 22, 23, 24, 25, 1, 4, 5, 6, 7, 8, 9, 10, 11, 12, 13, 14, 15, 16, 17, 18] j)) _  ) (cwS 1 hts (gwS a114 a115 a97 a116) rfl rfl rfl (by decide +kernel) ⟨by decide, by decide⟩) (gc_preS hK hP hD hS hA hE rfl) rfl rfl hl.1 rfl (lv_room (Nat.le_of_ble_eq_true rfl)) dX2_best_9 ⟨by decide, by decide⟩) hP hD hS hA rfl (fun v7 sp8 sg9 H locs hp10 ha11 hb12 hP hD hS => ?_) (fun E9 x9 ce9 sp8 sg9 H locs hp10 hc1 hc2 hc3 ha11 hb12 hP hD hS => ?_)
    · obtain ⟨rfl, hq1, hq2⟩ := hp10
      rw [gw_same hq1 ha11 hb12 rfl] at hP hD
      have hfo : T.2.1 = true := Classical.byContradiction (fun q9 => hq2 ((EC_fo hk).mpr q9))
      refine W.eq (g2 := F0 m 12 ls []) rfl ?_
      have hk9 : qBest T x1 = nI 0 := by simp [qBest, kif, ix3.mp ha1, hfo]
      obtain ⟨j1, hj1, rfl⟩ := ixof3 ha1
      have hnj1 : nt (nI j1) = j1 := nt_nI (by omega)
      refine lv_iload_n hx hb dX2_best_12 rfl (lv_at hl 1 rfl) ?_
      rcases (show j1 = 0 ∨ j1 = 1 ∨ j1 = 2 by omega) with rfl | rfl | rfl
      · refine lv_lookup (tgt := 40) (off := 27) hx hb dX2_best_13 rfl (by decide) (by decide) ?_
        refine lv_aload_n hx hb dX2_best_40 rfl (lv_at hl 0 rfl) ?_
        refine gw_getr (C := RX2) (T := TX2) (N := 6) hx hb hts inwX2 hown hK hP 0 1 2 rfl rfl rfl (by decide) (hts _ a94) (fun _ h9 => h9) dX2_best_41 ?_
        refine gw_getiN (C := RX0) (T := TX0) (N := 15) hx hb hts inwX0 hown hK hP 2 13 rfl rfl rfl (by decide) (hE.nest _ (.fieldLinkNest RX2 112 RX0 "bestGain" "I" RX2) (by decide +kernel) rfl) (fun _ h9 => h9) dX2_best_44 ?_
        refine gw_top (y := T.2.2.1) ((hk.2.2.1 hfo).1) ?_
        exact hret _ _ _ _ _ _ hP hS dX2_best_47 (⟨hk, hk9, by unfold aBest; rw [hnj1]; rfl⟩)
      · refine lv_lookup (tgt := 48) (off := 35) hx hb dX2_best_13 rfl (by decide) (by decide) ?_
        refine lv_aload_n hx hb dX2_best_48 rfl (lv_at hl 0 rfl) ?_
        refine gw_getr (C := RX2) (T := TX2) (N := 6) hx hb hts inwX2 hown hK hP 0 0 1 rfl rfl rfl (by decide) (hts _ a103) (fun _ h9 => h9) dX2_best_49 ?_
        refine lv_aload_n hx hb dX2_best_52 rfl (lv_at hl 0 rfl) ?_
        refine gw_getr (C := RX2) (T := TX2) (N := 6) hx hb hts inwX2 hown hK hP 0 1 2 rfl rfl rfl (by decide) (hts _ a94) (fun _ h9 => h9) dX2_best_53 ?_
        refine gw_getrN (C := RX0) (T := TX0) (N := 15) hx hb hts inwX0 hown hK hP 2 14 25 rfl rfl rfl (by decide) (hE.nest _ (.fieldLinkNest RX2 109 RX0 "bestCounts" "[I" RX2) (by decide +kernel) rfl) (fun _ h9 => h9) dX2_best_56 ?_
        refine gc_go (pl := [1, 4, 5, 6, 7, 8, 9, 10, 11, 12, 13, 14, 15, 16, 17, 18, 25]) (S2 := SY) (ad := ad) (sg := sg0) (va_runVN (As := [.ref (ad 25)]) (rest := []) ⟨hx, hb, hml, hown, hts⟩ (m_f_X1_minutesOf l hl9 D cI cJ (fun j => ad (gw_p [1, 4, 5, 6, 7, 8, 9, 10, 11, 12, 13, 14, 15, 16, 17, 18, 25] j)) (fun j => sg0 (gw_p [1, 4, 5, 6, 7, 8, 9, 10, 11, 12, 13, 14, 15, 16, 17, 18, 25] j)) _  T hT hfo (YE_of hk hfo)) (⟨va_cnB 1 hts (gwN a119) rfl rfl rfl (hE.2.2.2.1 (.methodLinkNest RX2 115 yX1_minutesOf RX2) (by decide +kernel)).2 (hts _ a80) (by decide +kernel) ⟨by decide, by decide⟩, hts _ a117, hts _ a118⟩) (gc_preV hK hP hD hS hA hE rfl rfl rfl rfl) rfl rfl hl.1 rfl (lv_room (Nat.le_of_ble_eq_true rfl)) dX2_best_59 ⟨by decide, by decide⟩) hP hD hS hA rfl (fun v13 sp14 sg15 H locs hp16 ha17 hb18 hP hD hS => ?_)
        obtain ⟨hs9, rfl⟩ := hp16
        rw [gw_same hs9 ha17 hb18 rfl] at hP hD
        refine W.eq (g2 := F0 m 62 ls [.int (nI (totN (yMn T.1) (yCh T.1) T.2.2.2.1 (yN T.1)))]) rfl ?_
        exact hret _ _ _ _ _ _ hP hS dX2_best_62 (⟨hk, hk9, by unfold aBest; rw [hnj1]; rfl⟩)
      · refine lv_lookup (tgt := 63) (off := 50) hx hb dX2_best_13 rfl (by decide) (by decide) ?_
        refine lv_aload_n hx hb dX2_best_63 rfl (lv_at hl 0 rfl) ?_
        refine gw_getr (C := RX2) (T := TX2) (N := 6) hx hb hts inwX2 hown hK hP 0 0 1 rfl rfl rfl (by decide) (hts _ a103) (fun _ h9 => h9) dX2_best_64 ?_
        refine lv_aload_n hx hb dX2_best_67 rfl (lv_at hl 0 rfl) ?_
        refine gw_getr (C := RX2) (T := TX2) (N := 6) hx hb hts inwX2 hown hK hP 0 1 2 rfl rfl rfl (by decide) (hts _ a94) (fun _ h9 => h9) dX2_best_68 ?_
        refine gw_getrN (C := RX0) (T := TX0) (N := 15) hx hb hts inwX0 hown hK hP 2 14 25 rfl rfl rfl (by decide) (hE.nest _ (.fieldLinkNest RX2 109 RX0 "bestCounts" "[I" RX2) (by decide +kernel) rfl) (fun _ h9 => h9) dX2_best_71 ?_
        refine gc_go (pl := [1, 4, 5, 6, 7, 8, 9, 10, 11, 12, 13, 14, 15, 16, 17, 18, 25]) (S2 := SY) (ad := ad) (sg := sg0) (va_runVN (As := [.ref (ad 25)]) (rest := []) ⟨hx, hb, hml, hown, hts⟩ (m_f_X1_patternsUsedIn l hl9 D cI cJ (fun j => ad (gw_p [1, 4, 5, 6, 7, 8, 9, 10, 11, 12, 13, 14, 15, 16, 17, 18, 25] j)) (fun j => sg0 (gw_p [1, 4, 5, 6, 7, 8, 9, 10, 11, 12, 13, 14, 15, 16, 17, 18, 25] j)) _  T hT hfo (YE_of hk hfo)) (⟨va_cnB 1 hts (gwN a81) rfl rfl rfl (hE.2.2.2.1 (.methodLinkNest RX2 119 yX1_patternsUsedIn RX2) (by decide +kernel)).2 (hts _ a80) (by decide +kernel) ⟨by decide, by decide⟩, hts _ a78, hts _ a79⟩) (gc_preV hK hP hD hS hA hE rfl rfl rfl rfl) rfl rfl hl.1 rfl (lv_room (Nat.le_of_ble_eq_true rfl)) dX2_best_74 ⟨by decide, by decide⟩) hP hD hS hA rfl (fun v19 sp20 sg21 H locs hp22 ha23 hb24 hP hD hS => ?_)
        obtain ⟨hs9, rfl⟩ := hp22
        rw [gw_same hs9 ha23 hb24 rfl] at hP hD
        refine W.eq (g2 := F0 m 77 ls [.int (nI (cnt T.2.2.2.1 (yN T.1)))]) rfl ?_
        exact hret _ _ _ _ _ _ hP hS dX2_best_77 (⟨hk, hk9, by unfold aBest; rw [hnj1]; rfl⟩)
    · obtain ⟨rfl, hq1, hq2⟩ := hp10
      rw [gw_same hq1 ha11 hb12 rfl] at hP hD
      have hfo : ¬ T.2.1 = true := (EC_fo hk).mp hq2
      exact kt _ _ _ _ _ _ _ _ _ _ _ (⟨hk, Or.inr (⟨rfl, by simp [qBest, kif, ix3.mp ha1, hfo]⟩)⟩) hc1 hc2 hc3 hP hS (by decide) (by decide)
  · obtain ⟨rfl, hq⟩ := hp4
    rw [show sg3 = sg0 from funext (fun k => hb6 k (by simp))] at hP hD
    exact kt _ _ _ _ _ _ _ _ _ _ _ (⟨hk, Or.inl ⟨rfl, by simp [qBest, kif, (not_congr ix3).mp hq]⟩⟩) hc1 hc2 hc3 hP hS (by decide) (by decide)
abbrev rmf_X2_made : Room := { frames := 7, cells := 2, slots := 12, locals := 103 }
set_option maxRecDepth 100000 in
set_option maxHeartbeats 4000000 in
theorem m_f_X2_made (l : Launch) (hl9 : l.stackTraces = false) (D : va_G) (cI : ClassId) (cJ : ClassId × ClassId) (ad : Nat → Nat) (sg0 : Nat → Nat → Int32) (sz : Nat) (x1 : Int32) (T : TS) (hT : TOk T) (hC : EC T sg0) : gc_B l yX2_made wsX2_made rmf_X2_made D vwCl (tyS cI cJ) cI cJ gxT gxN SC [.ref (ad 0), .int x1] ad sg0 sz 2 12 (fun v sg2 => EC (T) sg2 ∧ qMade T x1 = nI 0 ∧ v = some (.int (aMade T x1))) (fun E sg2 => EC T sg2 ∧ ((E = "java/lang/IndexOutOfBoundsException" ∧ qMade T x1 = nI 1) ∨ (E = "java/lang/IllegalStateException" ∧ qMade T x1 = nI 2))) := by
  refine gc_Bi_of (cc := cX2_made) (maxL := 2) (by decide) rfl (Nat.le_of_ble_eq_true rfl) ?_
  intro p e s m below meth c A ls Q hin hE hret kt kx
  obtain ⟨⟨hx, hb, hml, hown, hts⟩, -, hlocks, -, hA, hP, hK, hD, hS, hl⟩ := hin
  have hts : ∀ w ∈ wsAll, w.before ([.ref (ad 0), .int x1] : List Value).toArray s = true := fun w h => hts w (List.mem_cons_of_mem _ h)
  have hl : lv_has ls 2 [(0, .ref (ad 0)), (1, .int x1)] := hl
  have hk := hC
  have hN6 := hC.1.1.1
  refine lv_iload_n hx hb dX2_made_0 rfl (lv_at hl 1 rfl) ?_
  refine lv_iconst (v := (nI 4)) hx hb dX2_made_1 (by decide) ?_
  refine gc_goB (pl := []) (S2 := SE) (ad := ad) (sg := sg0) (vx_runS (As := [.int x1, .int (nI 4)]) (rest := []) ⟨hx, hb, hml, hown, hts⟩ (m_X2_needIndex l hl9 D cI cJ (fun j => ad (gw_p [] j)) (fun j => sg0 (gw_p [] j)) _ x1 (nI 4) ) (cwS 2 hts (gwS a95 a96 a97 a98) rfl rfl rfl (by decide +kernel) ⟨by decide, by decide⟩) (gc_preS hK hP hD hS hA hE rfl) rfl rfl hl.1 rfl (lv_room (Nat.le_of_ble_eq_true rfl)) dX2_made_2 ⟨by decide, by decide⟩) hP hD hS hA rfl (fun v1 sp2 sg3 H locs hp4 ha5 hb6 hP hD hS => ?_) (fun E9 x9 ce9 sp2 sg3 H locs hp4 hc1 hc2 hc3 ha5 hb6 hP hD hS => ?_)
  · obtain ⟨rfl, ha1⟩ := hp4
    rw [show sg3 = sg0 from funext (fun k => hb6 k (by simp))] at hP hD
    refine W.eq (g2 := F0 m 5 ls []) rfl ?_
    refine lv_aload_n hx hb dX2_made_5 rfl (lv_at hl 0 rfl) ?_
    refine gw_getr (C := RX2) (T := TX2) (N := 6) hx hb hts inwX2 hown hK hP 0 1 2 rfl rfl rfl (by decide) (hts _ a94) (fun _ h9 => h9) dX2_made_6 ?_
    refine gc_goB (pl := [2, 19, 20, 21, 22, 23, 24, 25, 1, 4, 5, 6, 7, 8, 9, 10, 11, 12, 13, 14, 15, 16, 17, 18]) (S2 := SS) (ad := ad) (sg := sg0) (vx_runS (As := [.ref (ad 2)]) (rest := []) ⟨hx, hb, hml, hown, hts⟩ (m_X2_needBest l hl9 D cI cJ (fun j => ad (gw_p [2, 19, 20, 21, 22, 23, 24, 25, 1, 4, 5, 6, 7, 8, 9, 10, 11, 12, 13, 14, 15, 16, 17, 18] j)) (fun j => sg0 (gw_p [2, 19, 20, 21, 22, 23, 24, 25, 1, 4, 5, 6, 7, 8, 9, 10, 11, 12, 13, 14, 15, 16, 17, 18] j)) _  ) (cwS 1 hts (gwS a114 a115 a97 a116) rfl rfl rfl (by decide +kernel) ⟨by decide, by decide⟩) (gc_preS hK hP hD hS hA hE rfl) rfl rfl hl.1 rfl (lv_room (Nat.le_of_ble_eq_true rfl)) dX2_made_9 ⟨by decide, by decide⟩) hP hD hS hA rfl (fun v7 sp8 sg9 H locs hp10 ha11 hb12 hP hD hS => ?_) (fun E9 x9 ce9 sp8 sg9 H locs hp10 hc1 hc2 hc3 ha11 hb12 hP hD hS => ?_)
    · obtain ⟨rfl, hq1, hq2⟩ := hp10
      rw [gw_same hq1 ha11 hb12 rfl] at hP hD
      have hfo : T.2.1 = true := Classical.byContradiction (fun q9 => hq2 ((EC_fo hk).mpr q9))
      refine W.eq (g2 := F0 m 12 ls []) rfl ?_
      have hk9 : qMade T x1 = nI 0 := by simp [qMade, kif, ix4.mp ha1, hfo]
      obtain ⟨j1, hj1, rfl⟩ := ixof4 ha1
      have hnj1 : nt (nI j1) = j1 := nt_nI (by omega)
      refine lv_aload_n hx hb dX2_made_12 rfl (lv_at hl 0 rfl) ?_
      refine gw_getr (C := RX2) (T := TX2) (N := 6) hx hb hts inwX2 hown hK hP 0 0 1 rfl rfl rfl (by decide) (hts _ a103) (fun _ h9 => h9) dX2_made_13 ?_
      refine lv_aload_n hx hb dX2_made_16 rfl (lv_at hl 0 rfl) ?_
      refine gw_getr (C := RX2) (T := TX2) (N := 6) hx hb hts inwX2 hown hK hP 0 1 2 rfl rfl rfl (by decide) (hts _ a94) (fun _ h9 => h9) dX2_made_17 ?_
      refine gw_getrN (C := RX0) (T := TX0) (N := 15) hx hb hts inwX0 hown hK hP 2 14 25 rfl rfl rfl (by decide) (hE.nest _ (.fieldLinkNest RX2 109 RX0 "bestCounts" "[I" RX2) (by decide +kernel) rfl) (fun _ h9 => h9) dX2_made_20 ?_
      refine lv_iload_n hx hb dX2_made_23 rfl (lv_at hl 1 rfl) ?_
      refine gc_go (pl := [1, 4, 5, 6, 7, 8, 9, 10, 11, 12, 13, 14, 15, 16, 17, 18, 25]) (S2 := SY) (ad := ad) (sg := sg0) (va_runVN (As := [.ref (ad 25), .int (nI j1)]) (rest := []) ⟨hx, hb, hml, hown, hts⟩ (m_f_X1_madeBy l hl9 D cI cJ (fun j => ad (gw_p [1, 4, 5, 6, 7, 8, 9, 10, 11, 12, 13, 14, 15, 16, 17, 18, 25] j)) (fun j => sg0 (gw_p [1, 4, 5, 6, 7, 8, 9, 10, 11, 12, 13, 14, 15, 16, 17, 18, 25] j)) _ j1 (by omega) T hT hfo (YE_of hk hfo)) (⟨va_cnB 2 hts (gwN a91) rfl rfl rfl (hE.2.2.2.1 (.methodLinkNest RX2 122 yX1_madeBy RX2) (by decide +kernel)).2 (hts _ a80) (by decide +kernel) ⟨by decide, by decide⟩, hts _ a89, hts _ a90⟩) (gc_preV hK hP hD hS hA hE rfl rfl rfl rfl) rfl rfl hl.1 rfl (lv_room (Nat.le_of_ble_eq_true rfl)) dX2_made_24 ⟨by decide, by decide⟩) hP hD hS hA rfl (fun v13 sp14 sg15 H locs hp16 ha17 hb18 hP hD hS => ?_)
      obtain ⟨hs9, rfl⟩ := hp16
      rw [gw_same hs9 ha17 hb18 rfl] at hP hD
      refine W.eq (g2 := F0 m 27 ls [.int (yMad T.1 T.2.2.2.1 j1)]) rfl ?_
      exact hret _ _ _ _ _ _ hP hS dX2_made_27 (⟨hk, hk9, by unfold aMade; rw [hnj1]⟩)
    · obtain ⟨rfl, hq1, hq2⟩ := hp10
      rw [gw_same hq1 ha11 hb12 rfl] at hP hD
      have hfo : ¬ T.2.1 = true := (EC_fo hk).mp hq2
      exact kt _ _ _ _ _ _ _ _ _ _ _ (⟨hk, Or.inr (⟨rfl, by simp [qMade, kif, ix4.mp ha1, hfo]⟩)⟩) hc1 hc2 hc3 hP hS (by decide) (by decide)
  · obtain ⟨rfl, hq⟩ := hp4
    rw [show sg3 = sg0 from funext (fun k => hb6 k (by simp))] at hP hD
    exact kt _ _ _ _ _ _ _ _ _ _ _ (⟨hk, Or.inl ⟨rfl, by simp [qMade, kif, (not_congr ix4).mp hq]⟩⟩) hc1 hc2 hc3 hP hS (by decide) (by decide)
abbrev rmf_X2_saw : Room := { frames := 7, cells := 1, slots := 6, locals := 102 }
set_option maxRecDepth 100000 in
set_option maxHeartbeats 4000000 in
theorem m_f_X2_saw (l : Launch) (hl9 : l.stackTraces = false) (D : va_G) (cI : ClassId) (cJ : ClassId × ClassId) (ad : Nat → Nat) (sg0 : Nat → Nat → Int32) (sz : Nat) (T : TS) (hT : TOk T) (hC : EC T sg0) : gc_B l yX2_saw wsX2_saw rmf_X2_saw D vwCl (tyS cI cJ) cI cJ gxT gxN SC [.ref (ad 0)] ad sg0 sz 1 6 (fun v sg2 => EC (tSaw T) sg2 ∧ qSaw T = nI 0 ∧ v = some (.int (aSaw T))) (fun E sg2 => EC T sg2 ∧ ((E = "java/lang/IllegalStateException" ∧ qSaw T = nI 1))) := by
  refine gc_Bi_of (cc := cX2_saw) (maxL := 2) (by decide) rfl (Nat.le_of_ble_eq_true rfl) ?_
  intro p e s m below meth c A ls Q hin hE hret kt kx
  obtain ⟨⟨hx, hb, hml, hown, hts⟩, -, hlocks, -, hA, hP, hK, hD, hS, hl⟩ := hin
  have hts : ∀ w ∈ wsAll, w.before ([.ref (ad 0)] : List Value).toArray s = true := fun w h => hts w (List.mem_cons_of_mem _ h)
  have hl : lv_has ls 2 [(0, .ref (ad 0))] := hl
  have hk := hC
  have hN6 := hC.1.1.1
  refine lv_aload_n hx hb dX2_saw_0 rfl (lv_at hl 0 rfl) ?_
  refine gw_getr (C := RX2) (T := TX2) (N := 6) hx hb hts inwX2 hown hK hP 0 1 2 rfl rfl rfl (by decide) (hts _ a94) (fun _ h9 => h9) dX2_saw_1 ?_
  refine gc_goB (pl := [2, 19, 20, 21, 22, 23, 24, 25, 1, 4, 5, 6, 7, 8, 9, 10, 11, 12, 13, 14, 15, 16, 17, 18]) (S2 := SS) (ad := ad) (sg := sg0) (vx_runS (As := [.ref (ad 2)]) (rest := []) ⟨hx, hb, hml, hown, hts⟩ (m_X2_needBest l hl9 D cI cJ (fun j => ad (gw_p [2, 19, 20, 21, 22, 23, 24, 25, 1, 4, 5, 6, 7, 8, 9, 10, 11, 12, 13, 14, 15, 16, 17, 18] j)) (fun j => sg0 (gw_p [2, 19, 20, 21, 22, 23, 24, 25, 1, 4, 5, 6, 7, 8, 9, 10, 11, 12, 13, 14, 15, 16, 17, 18] j)) _  ) (cwS 1 hts (gwS a114 a115 a97 a116) rfl rfl rfl (by decide +kernel) ⟨by decide, by decide⟩) (gc_preS hK hP hD hS hA hE rfl) rfl rfl hl.1 rfl (lv_room (Nat.le_of_ble_eq_true rfl)) dX2_saw_4 ⟨by decide, by decide⟩) hP hD hS hA rfl (fun v1 sp2 sg3 H locs hp4 ha5 hb6 hP hD hS => ?_) (fun E9 x9 ce9 sp2 sg3 H locs hp4 hc1 hc2 hc3 ha5 hb6 hP hD hS => ?_)
  · obtain ⟨rfl, hq1, hq2⟩ := hp4
    rw [gw_same hq1 ha5 hb6 rfl] at hP hD
    have hfo : T.2.1 = true := Classical.byContradiction (fun q9 => hq2 ((EC_fo hk).mpr q9))
    refine W.eq (g2 := F0 m 7 ls []) rfl ?_
    have hk9 : qSaw T = nI 0 := by simp [qSaw, kif, hfo]
    refine lv_aload_n hx hb dX2_saw_7 rfl (lv_at hl 0 rfl) ?_
    refine gw_getr (C := RX2) (T := TX2) (N := 6) hx hb hts inwX2 hown hK hP 0 1 2 rfl rfl rfl (by decide) (hts _ a94) (fun _ h9 => h9) dX2_saw_8 ?_
    refine gw_getiN (C := RX0) (T := TX0) (N := 15) hx hb hts inwX0 hown hK hP 2 13 rfl rfl rfl (by decide) (hE.nest _ (.fieldLinkNest RX2 112 RX0 "bestGain" "I" RX2) (by decide +kernel) rfl) (fun _ h9 => h9) dX2_saw_11 ?_
    refine gw_top (y := T.2.2.1) ((hk.2.2.1 hfo).1) ?_
    refine lv_istore_n (lv' := [(1, .int T.2.2.1), (0, .ref (ad 0))]) hx hb dX2_saw_14 rfl hl (by decide) rfl (fun ls hl => ?_)
    refine lv_aload_n hx hb dX2_saw_15 rfl (lv_at hl 1 rfl) ?_
    refine gw_getr (C := RX2) (T := TX2) (N := 6) hx hb hts inwX2 hown hK hP 0 0 1 rfl rfl rfl (by decide) (hts _ a103) (fun _ h9 => h9) dX2_saw_16 ?_
    refine lv_aload_n hx hb dX2_saw_19 rfl (lv_at hl 1 rfl) ?_
    refine gw_getr (C := RX2) (T := TX2) (N := 6) hx hb hts inwX2 hown hK hP 0 1 2 rfl rfl rfl (by decide) (hts _ a94) (fun _ h9 => h9) dX2_saw_20 ?_
    refine gw_getrN (C := RX0) (T := TX0) (N := 15) hx hb hts inwX0 hown hK hP 2 14 25 rfl rfl rfl (by decide) (hE.nest _ (.fieldLinkNest RX2 109 RX0 "bestCounts" "[I" RX2) (by decide +kernel) rfl) (fun _ h9 => h9) dX2_saw_23 ?_
    refine gc_go (pl := [1, 4, 5, 6, 7, 8, 9, 10, 11, 12, 13, 14, 15, 16, 17, 18, 25]) (S2 := SY) (ad := ad) (sg := sg0) (va_runVN (As := [.ref (ad 25)]) (rest := []) ⟨hx, hb, hml, hown, hts⟩ (m_f_X1_doPlan l hl9 D cI cJ (fun j => ad (gw_p [1, 4, 5, 6, 7, 8, 9, 10, 11, 12, 13, 14, 15, 16, 17, 18, 25] j)) (fun j => sg0 (gw_p [1, 4, 5, 6, 7, 8, 9, 10, 11, 12, 13, 14, 15, 16, 17, 18, 25] j)) _  T hT hfo (YE_of hk hfo)) (⟨va_cnB 1 hts (gwN a122) rfl rfl rfl (hE.2.2.2.1 (.methodLinkNest RX2 126 yX1_doPlan RX2) (by decide +kernel)).2 (hts _ a80) (by decide +kernel) ⟨by decide, by decide⟩, hts _ a120, hts _ a121⟩) (gc_preV hK hP hD hS hA hE rfl rfl rfl rfl) rfl rfl hl.1 rfl (lv_room (Nat.le_of_ble_eq_true rfl)) dX2_saw_26 ⟨by decide, by decide⟩) hP hD hS hA rfl (fun v7 sp8 sg9 H locs hp10 ha11 hb12 hP hD hS => ?_)
    obtain ⟨rfl, hY2⟩ := hp10
    have hk : EC (tLo (tSt T 4) (yN T.1)) sg9 := do_EC hk hY2 rfl hfo ha11 hb12 rfl
    refine W.eq (g2 := F0 m 29 ls []) rfl ?_
    refine lv_aload_n hx hb dX2_saw_29 rfl (lv_at hl 1 rfl) ?_
    refine lv_dup hx hb dX2_saw_30 rfl ?_
    refine gw_geti (C := RX2) (T := TX2) (N := 6) hx hb hts inwX2 hown hK hP 0 5 rfl rfl rfl (by decide) (hts _ a123) (fun _ h9 => h9) dX2_saw_31 ?_
    refine gw_top (y := T.2.2.2.2.2) (hk.2.2.2.2) ?_
    refine lv_iload_n hx hb dX2_saw_34 rfl (lv_at hl 0 rfl) ?_
    refine lv_iadd hx hb dX2_saw_35 ?_
    refine gw_put (C := RX2) (T := TX2) (N := 6) (ty := .int) hx hb hts inwX2 tyX2 tyX2_ok nmX2 hown hK hP hD hS 0 5 rfl rfl rfl (by decide) (hts _ a123) (fun _ h9 => h9) rfl (by decide +kernel) rfl rfl dX2_saw_36 (fun H locs hP hD hS => ?_)
    obtain ⟨sg13, esg13⟩ : ∃ z : Nat → Nat → Int32, z = gw_u sg9 0 (upd (sg9 0) 5 (T.2.2.2.2.2 + T.2.2.1)) := ⟨_, rfl⟩
    rw [← esg13] at hP hD
    have hk : EC (sEr (tLo (tSt T 4) (yN T.1)) (T.2.2.2.2.2 + T.2.2.1)) sg13 := by rw [esg13]; exact cw_er hk
    refine lv_aload_n hx hb dX2_saw_39 rfl (lv_at hl 1 rfl) ?_
    refine lv_dup hx hb dX2_saw_40 rfl ?_
    refine gw_geti (C := RX2) (T := TX2) (N := 6) hx hb hts inwX2 hown hK hP 0 4 rfl rfl rfl (by decide) (hts _ a124) (fun _ h9 => h9) dX2_saw_41 ?_
    refine gw_top (y := T.2.2.2.2.1) (hk.2.2.2.1) ?_
    refine lv_iconst (v := (nI 1)) hx hb dX2_saw_44 (by decide) ?_
    refine lv_iadd hx hb dX2_saw_45 ?_
    refine gw_put (C := RX2) (T := TX2) (N := 6) (ty := .int) hx hb hts inwX2 tyX2 tyX2_ok nmX2 hown hK hP hD hS 0 4 rfl rfl rfl (by decide) (hts _ a124) (fun _ h9 => h9) rfl (by decide +kernel) rfl rfl dX2_saw_46 (fun H locs hP hD hS => ?_)
    obtain ⟨sg14, esg14⟩ : ∃ z : Nat → Nat → Int32, z = gw_u sg13 0 (upd (sg13 0) 4 (T.2.2.2.2.1 + (nI 1))) := ⟨_, rfl⟩
    rw [← esg14] at hP hD
    have hk : EC (sDy (sEr (tLo (tSt T 4) (yN T.1)) (T.2.2.2.2.2 + T.2.2.1)) (T.2.2.2.2.1 + (nI 1))) sg14 := by rw [esg14]; exact cw_dy hk
    refine lv_aload_n hx hb dX2_saw_49 rfl (lv_at hl 1 rfl) ?_
    refine gw_getr (C := RX2) (T := TX2) (N := 6) hx hb hts inwX2 hown hK hP 0 1 2 rfl rfl rfl (by decide) (hts _ a94) (fun _ h9 => h9) dX2_saw_50 ?_
    refine lv_iconst (v := (nI 0)) hx hb dX2_saw_53 (by decide) ?_
    refine gw_putN (C := RX0) (T := TX0) (N := 15) (ty := .boolean) hx hb hts inwX0 tyX0 tyX0_ok nmX0 hown hK hP hD hS 2 12 rfl rfl rfl (by decide) (hE.nest _ (.fieldLinkNest RX2 93 RX0 "found" "Z" RX2) (by decide +kernel) rfl) (fun _ h9 => h9) rfl (by decide +kernel) rfl rfl dX2_saw_54 (fun H locs hP hD hS => ?_)
    obtain ⟨sg15, esg15⟩ : ∃ z : Nat → Nat → Int32, z = gw_u sg14 2 (upd (sg14 2) 12 (nI 0)) := ⟨_, rfl⟩
    rw [← esg15] at hP hD
    have hk : EC (sFo (sDy (sEr (tLo (tSt T 4) (yN T.1)) (T.2.2.2.2.2 + T.2.2.1)) (T.2.2.2.2.1 + (nI 1))) false) sg15 := by rw [esg15]; exact cw_fo hk
    refine lv_iload_n hx hb dX2_saw_57 rfl (lv_at hl 0 rfl) ?_
    exact hret _ _ _ _ _ _ hP hS dX2_saw_58 (⟨hk, hk9, rfl⟩)
  · obtain ⟨rfl, hq1, hq2⟩ := hp4
    rw [gw_same hq1 ha5 hb6 rfl] at hP hD
    have hfo : ¬ T.2.1 = true := (EC_fo hk).mp hq2
    exact kt _ _ _ _ _ _ _ _ _ _ _ (⟨hk, ⟨rfl, by simp [qSaw, kif, hfo]⟩⟩) hc1 hc2 hc3 hP hS (by decide) (by decide)
abbrev rmf_X2_mill : Room := { frames := 7, cells := 1, slots := 6, locals := 103 }
set_option maxRecDepth 100000 in
set_option maxHeartbeats 4000000 in
theorem m_f_X2_mill (l : Launch) (hl9 : l.stackTraces = false) (D : va_G) (cI : ClassId) (cJ : ClassId × ClassId) (ad : Nat → Nat) (sg0 : Nat → Nat → Int32) (sz : Nat) (x1 : Int32) (T : TS) (hT : TOk T) (hC : EC T sg0) : gc_B l yX2_mill wsX2_mill rmf_X2_mill D vwCl (tyS cI cJ) cI cJ gxT gxN SC [.ref (ad 0), .int x1] ad sg0 sz 1 6 (fun v sg2 => EC (T) sg2 ∧ kMill x1 = nI 0 ∧ v = some (.int (aMill T x1))) (fun E sg2 => EC T sg2 ∧ ((E = "java/lang/IndexOutOfBoundsException" ∧ kMill x1 = nI 1))) := by
  refine gc_Bi_of (cc := cX2_mill) (maxL := 2) (by decide) rfl (Nat.le_of_ble_eq_true rfl) ?_
  intro p e s m below meth c A ls Q hin hE hret kt kx
  obtain ⟨⟨hx, hb, hml, hown, hts⟩, -, hlocks, -, hA, hP, hK, hD, hS, hl⟩ := hin
  have hts : ∀ w ∈ wsAll, w.before ([.ref (ad 0), .int x1] : List Value).toArray s = true := fun w h => hts w (List.mem_cons_of_mem _ h)
  have hl : lv_has ls 2 [(0, .ref (ad 0)), (1, .int x1)] := hl
  have hk := hC
  have hN6 := hC.1.1.1
  refine lv_iload_n hx hb dX2_mill_0 rfl (lv_at hl 1 rfl) ?_
  refine lv_bipush (v := (nI 6)) hx hb dX2_mill_1 (by decide) ?_
  refine gc_goB (pl := []) (S2 := SE) (ad := ad) (sg := sg0) (vx_runS (As := [.int x1, .int (nI 6)]) (rest := []) ⟨hx, hb, hml, hown, hts⟩ (m_X2_needIndex l hl9 D cI cJ (fun j => ad (gw_p [] j)) (fun j => sg0 (gw_p [] j)) _ x1 (nI 6) ) (cwS 2 hts (gwS a95 a96 a97 a98) rfl rfl rfl (by decide +kernel) ⟨by decide, by decide⟩) (gc_preS hK hP hD hS hA hE rfl) rfl rfl hl.1 rfl (lv_room (Nat.le_of_ble_eq_true rfl)) dX2_mill_3 ⟨by decide, by decide⟩) hP hD hS hA rfl (fun v1 sp2 sg3 H locs hp4 ha5 hb6 hP hD hS => ?_) (fun E9 x9 ce9 sp2 sg3 H locs hp4 hc1 hc2 hc3 ha5 hb6 hP hD hS => ?_)
  · obtain ⟨rfl, ha1⟩ := hp4
    rw [show sg3 = sg0 from funext (fun k => hb6 k (by simp))] at hP hD
    refine W.eq (g2 := F0 m 6 ls []) rfl ?_
    have hk9 : kMill x1 = nI 0 := by simp [kMill, kif, ix6.mp ha1]
    obtain ⟨j1, hj1, rfl⟩ := ixof6 ha1
    have hnj1 : nt (nI j1) = j1 := nt_nI (by omega)
    refine lv_iload_n hx hb dX2_mill_6 rfl (lv_at hl 1 rfl) ?_
    rcases (show j1 = 0 ∨ j1 = 1 ∨ 2 ≤ j1 by omega) with rfl | rfl | hj2
    · refine lv_lookup (tgt := 32) (off := 25) hx hb dX2_mill_7 rfl (by decide) (by decide) ?_
      refine lv_aload_n hx hb dX2_mill_32 rfl (lv_at hl 0 rfl) ?_
      refine gw_geti (C := RX2) (T := TX2) (N := 6) hx hb hts inwX2 hown hK hP 0 4 rfl rfl rfl (by decide) (hts _ a124) (fun _ h9 => h9) dX2_mill_33 ?_
      refine gw_top (y := T.2.2.2.2.1) (hk.2.2.2.1) ?_
      exact hret _ _ _ _ _ _ hP hS dX2_mill_36 (⟨hk, hk9, by unfold aMill; rw [hnj1]; first | rfl | rw [if_neg (by omega), if_neg (by omega)]⟩)
    · refine lv_lookup (tgt := 37) (off := 30) hx hb dX2_mill_7 rfl (by decide) (by decide) ?_
      refine lv_aload_n hx hb dX2_mill_37 rfl (lv_at hl 0 rfl) ?_
      refine gw_geti (C := RX2) (T := TX2) (N := 6) hx hb hts inwX2 hown hK hP 0 5 rfl rfl rfl (by decide) (hts _ a123) (fun _ h9 => h9) dX2_mill_38 ?_
      refine gw_top (y := T.2.2.2.2.2) (hk.2.2.2.2) ?_
      exact hret _ _ _ _ _ _ hP hS dX2_mill_41 (⟨hk, hk9, by unfold aMill; rw [hnj1]; first | rfl | rw [if_neg (by omega), if_neg (by omega)]⟩)
    · refine lv_lookup (tgt := 42) (off := 35) hx hb dX2_mill_7 rfl (mill_off hj1 hj2) (by decide) ?_
      refine lv_aload_n hx hb dX2_mill_42 rfl (lv_at hl 0 rfl) ?_
      refine gw_getr (C := RX2) (T := TX2) (N := 6) hx hb hts inwX2 hown hK hP 0 0 1 rfl rfl rfl (by decide) (hts _ a103) (fun _ h9 => h9) dX2_mill_43 ?_
      refine gw_getrN (C := RX1) (T := TX1) (N := 12) hx hb hts inwX1 hown hK hP 1 8 12 rfl rfl rfl (by decide) (hE.nest _ (.fieldLinkNest RX2 136 RX1 "stock" "[I" RX2) (by decide +kernel) rfl) (fun _ h9 => h9) dX2_mill_46 ?_
      refine lv_iload_n hx hb dX2_mill_49 rfl (lv_at hl 1 rfl) ?_
      refine lv_iconst (v := (nI 2)) hx hb dX2_mill_50 (by decide) ?_
      refine lv_isub hx hb dX2_mill_51 ?_
      refine gw_top (y := (nI (j1 - 2))) (nI_sub hj2) ?_
      refine gw_ald hx hb hK hP 12 0 (n := 4) rfl rfl (i := j1 - 2) (by omega) (by decide) dX2_mill_52 ?_
      refine gw_top (y := (ySk T.1 (j1 - 2))) (hk.1.2.2.2.2.2.2.2.1 (j1 - 2) (by omega)) ?_
      exact hret _ _ _ _ _ _ hP hS dX2_mill_53 (⟨hk, hk9, by unfold aMill; rw [hnj1]; first | rfl | rw [if_neg (by omega), if_neg (by omega)]⟩)
  · obtain ⟨rfl, hq⟩ := hp4
    rw [show sg3 = sg0 from funext (fun k => hb6 k (by simp))] at hP hD
    exact kt _ _ _ _ _ _ _ _ _ _ _ (⟨hk, ⟨rfl, by simp [kMill, kif, (not_congr ix6).mp hq]⟩⟩) hc1 hc2 hc3 hP hS (by decide) (by decide)
abbrev rmf_X2_gainOfTrial : Room := { frames := 17, cells := 1, slots := 6, locals := 366 }
set_option maxRecDepth 100000 in
set_option maxHeartbeats 4000000 in
theorem m_f_X2_gainOfTrial (l : Launch) (hl9 : l.stackTraces = false) (D : va_G) (cI : ClassId) (cJ : ClassId × ClassId) (ad : Nat → Nat) (sg0 : Nat → Nat → Int32) (sz : Nat) (lim : Nat) (hlim : lim < 20001) (x2 : Int32) (T : TS) (hC : EC T sg0) (Y2 : YT) (hYd : EY Y2 (fun j => sg0 (gw_p [3, 26, 27, 28, 29, 30, 31, 32, 1, 4, 5, 6, 7, 8, 9, 10, 11, 12, 13, 14, 15, 16, 17, 18] j))) (hyl : yLim Y2 = lim) (hQ : EQ Y2 x2 (fun j => sg0 (gw_p [3, 26, 27, 28, 29, 30, 31, 32, 1, 4, 5, 6, 7, 8, 9, 10, 11, 12, 13, 14, 15, 16, 17, 18] j))) : gc_B l yX2_gainOfTrial wsX2_gainOfTrial rmf_X2_gainOfTrial D vwCl (tyS cI cJ) cI cJ gxT gxN SC [.ref (ad 0), .int (nI lim), .int x2] ad sg0 sz 1 6 (fun v sg2 => EC T sg2 ∧ (cR Y2).2.2.1 = true ∧ v = some (.int (cR Y2).2.2.2.1)) (fun E sg2 => EC T sg2 ∧ E = "java/lang/IllegalStateException" ∧ ¬ (cR Y2).2.2.1 = true) := by
  refine gc_Bi_of (cc := cX2_gainOfTrial) (maxL := 3) (by decide) rfl (Nat.le_of_ble_eq_true rfl) ?_
  intro p e s m below meth c A ls Q hin hE hret kt kx
  obtain ⟨⟨hx, hb, hml, hown, hts⟩, -, hlocks, -, hA, hP, hK, hD, hS, hl⟩ := hin
  have hts : ∀ w ∈ wsAll, w.before ([.ref (ad 0), .int (nI lim), .int x2] : List Value).toArray s = true := fun w h => hts w (List.mem_cons_of_mem _ h)
  have hl : lv_has ls 3 [(0, .ref (ad 0)), (1, .int (nI lim)), (2, .int x2)] := hl
  have hk := hC
  refine lv_aload_n hx hb dX2_gainOfTrial_0 rfl (lv_at hl 0 rfl) ?_
  refine gw_getr (C := RX2) (T := TX2) (N := 6) hx hb hts inwX2 hown hK hP 0 2 3 rfl rfl rfl (by decide) (hts _ a125) (fun _ h9 => h9) dX2_gainOfTrial_1 ?_
  refine lv_iload_n hx hb dX2_gainOfTrial_4 rfl (lv_at hl 1 rfl) ?_
  refine lv_iload_n hx hb dX2_gainOfTrial_5 rfl (lv_at hl 2 rfl) ?_
  refine gc_go (pl := [3, 26, 27, 28, 29, 30, 31, 32, 1, 4, 5, 6, 7, 8, 9, 10, 11, 12, 13, 14, 15, 16, 17, 18]) (S2 := SS) (ad := ad) (sg := sg0) (va_runVN (As := [.int (nI lim), .int x2]) (rest := []) ⟨hx, hb, hml, hown, hts⟩ (m_f_X0_goThroughPlans l hl9 D cI cJ (fun j => ad (gw_p [3, 26, 27, 28, 29, 30, 31, 32, 1, 4, 5, 6, 7, 8, 9, 10, 11, 12, 13, 14, 15, 16, 17, 18] j)) (fun j => sg0 (gw_p [3, 26, 27, 28, 29, 30, 31, 32, 1, 4, 5, 6, 7, 8, 9, 10, 11, 12, 13, 14, 15, 16, 17, 18] j)) _ lim (by omega) x2 Y2 hYd hyl hQ) (⟨va_cnB 2 hts (gwN a110) rfl rfl rfl (hE.2.2.2.1 (.methodLinkNest RX2 83 yX0_goThroughPlans RX2) (by decide +kernel)).2 (hts _ a18) (by decide +kernel) ⟨by decide, by decide⟩, hts _ a108, hts _ a109⟩) (gc_preV hK hP hD hS hA hE rfl rfl rfl rfl) rfl rfl hl.1 rfl (lv_room (Nat.le_of_ble_eq_true rfl)) dX2_gainOfTrial_6 ⟨by decide, by decide⟩) hP hD hS hA rfl (fun v1 sp2 sg3 H locs hp4 ha5 hb6 hP hD hS => ?_)
  obtain ⟨rfl, hZ9⟩ := hp4
  obtain ⟨hk, hf9, hg9⟩ := tri_EC hk hZ9 ha5 hb6 rfl
  have hS9 := cR_sim Y2 ((fun j => sg0 (gw_p [3, 26, 27, 28, 29, 30, 31, 32, 1, 4, 5, 6, 7, 8, 9, 10, 11, 12, 13, 14, 15, 16, 17, 18] j)) 0 13) ((fun j => sg0 (gw_p [3, 26, 27, 28, 29, 30, 31, 32, 1, 4, 5, 6, 7, 8, 9, 10, 11, 12, 13, 14, 15, 16, 17, 18] j)) 7)
  refine W.eq (g2 := F0 m 9 ls []) rfl ?_
  refine lv_aload_n hx hb dX2_gainOfTrial_9 rfl (lv_at hl 0 rfl) ?_
  refine gw_getr (C := RX2) (T := TX2) (N := 6) hx hb hts inwX2 hown hK hP 0 2 3 rfl rfl rfl (by decide) (hts _ a125) (fun _ h9 => h9) dX2_gainOfTrial_10 ?_
  refine gc_goB (pl := [3, 26, 27, 28, 29, 30, 31, 32, 1, 4, 5, 6, 7, 8, 9, 10, 11, 12, 13, 14, 15, 16, 17, 18]) (S2 := SS) (ad := ad) (sg := sg3) (vx_runS (As := [.ref (ad 3)]) (rest := []) ⟨hx, hb, hml, hown, hts⟩ (m_X2_needBest l hl9 D cI cJ (fun j => ad (gw_p [3, 26, 27, 28, 29, 30, 31, 32, 1, 4, 5, 6, 7, 8, 9, 10, 11, 12, 13, 14, 15, 16, 17, 18] j)) (fun j => sg3 (gw_p [3, 26, 27, 28, 29, 30, 31, 32, 1, 4, 5, 6, 7, 8, 9, 10, 11, 12, 13, 14, 15, 16, 17, 18] j)) _  ) (cwS 1 hts (gwS a114 a115 a97 a116) rfl rfl rfl (by decide +kernel) ⟨by decide, by decide⟩) (gc_preS hK hP hD hS hA hE rfl) rfl rfl hl.1 rfl (lv_room (Nat.le_of_ble_eq_true rfl)) dX2_gainOfTrial_13 ⟨by decide, by decide⟩) hP hD hS hA rfl (fun v7 sp8 sg9 H locs hp10 ha11 hb12 hP hD hS => ?_) (fun E9 x9 ce9 sp8 sg9 H locs hp10 hc1 hc2 hc3 ha11 hb12 hP hD hS => ?_)
  · obtain ⟨rfl, hq1, hq2⟩ := hp10
    rw [gw_same hq1 ha11 hb12 rfl] at hP hD
    have hfo : (cR Y2).2.2.1 = true := by rw [← hS9.2.2.1]; exact Classical.byContradiction (fun q9 => hq2 (hf9.trans (b2_0.mpr (by simpa using q9))))
    refine W.eq (g2 := F0 m 16 ls []) rfl ?_
    refine lv_aload_n hx hb dX2_gainOfTrial_16 rfl (lv_at hl 0 rfl) ?_
    refine gw_getr (C := RX2) (T := TX2) (N := 6) hx hb hts inwX2 hown hK hP 0 2 3 rfl rfl rfl (by decide) (hts _ a125) (fun _ h9 => h9) dX2_gainOfTrial_17 ?_
    refine gw_getiN (C := RX0) (T := TX0) (N := 15) hx hb hts inwX0 hown hK hP 3 13 rfl rfl rfl (by decide) (hE.nest _ (.fieldLinkNest RX2 112 RX0 "bestGain" "I" RX2) (by decide +kernel) rfl) (fun _ h9 => h9) dX2_gainOfTrial_20 ?_
    refine gw_top (y := ((cR Y2).2.2.2.1)) (by rw [hg9, hS9.2.2.2 hfo]) ?_
    exact hret _ _ _ _ _ _ hP hS dX2_gainOfTrial_23 (⟨hk, hfo, rfl⟩)
  · obtain ⟨rfl, hq1, hq2⟩ := hp10
    rw [gw_same hq1 ha11 hb12 rfl] at hP hD
    have hfo : ¬ (cR Y2).2.2.1 = true := by rw [← hS9.2.2.1, b2_0.mp (hf9.symm.trans hq2)]; decide
    exact kt _ _ _ _ _ _ _ _ _ _ _ ⟨hk, rfl, hfo⟩ hc1 hc2 hc3 hP hS (by decide) (by decide)
abbrev rmf_X2_cost : Room := { frames := 18, cells := 4, slots := 24, locals := 388 }
set_option maxRecDepth 100000 in
set_option maxHeartbeats 4000000 in
theorem m_f_X2_cost (l : Launch) (hl9 : l.stackTraces = false) (D : va_G) (cI : ClassId) (cJ : ClassId × ClassId) (ad : Nat → Nat) (sg0 : Nat → Nat → Int32) (sz : Nat) (x1 : Int32) (x2 : Int32) (T : TS) (hT : TOk T) (hC : EC T sg0) : gc_B l yX2_cost wsX2_cost rmf_X2_cost D vwCl (tyS cI cJ) cI cJ gxT gxN SC [.ref (ad 0), .int x1, .int x2] ad sg0 sz 4 24 (fun v sg2 => EC (T) sg2 ∧ qCost T x1 x2 = nI 0 ∧ v = some (.int (aCost T x1 x2))) (fun E sg2 => EC T sg2 ∧ ((E = "java/lang/IndexOutOfBoundsException" ∧ qCost T x1 x2 = nI 1) ∨ (E = "java/lang/IllegalArgumentException" ∧ qCost T x1 x2 = nI 2) ∨ (E = "java/lang/IllegalStateException" ∧ qCost T x1 x2 = nI 3))) := by
  refine gc_Bi_of (cc := cX2_cost) (maxL := 5) (by decide) rfl (Nat.le_of_ble_eq_true rfl) ?_
  intro p e s m below meth c A ls Q hin hE hret kt kx
  obtain ⟨⟨hx, hb, hml, hown, hts⟩, -, hlocks, -, hA, hP, hK, hD, hS, hl⟩ := hin
  have hts : ∀ w ∈ wsAll, w.before ([.ref (ad 0), .int x1, .int x2] : List Value).toArray s = true := fun w h => hts w (List.mem_cons_of_mem _ h)
  have hl : lv_has ls 5 [(0, .ref (ad 0)), (1, .int x1), (2, .int x2)] := hl
  have hk := hC
  have hN6 := hC.1.1.1
  refine lv_iload_n hx hb dX2_cost_0 rfl (lv_at hl 1 rfl) ?_
  refine lv_iconst (v := (nI 4)) hx hb dX2_cost_1 (by decide) ?_
  refine gc_goB (pl := []) (S2 := SE) (ad := ad) (sg := sg0) (vx_runS (As := [.int x1, .int (nI 4)]) (rest := []) ⟨hx, hb, hml, hown, hts⟩ (m_X2_needIndex l hl9 D cI cJ (fun j => ad (gw_p [] j)) (fun j => sg0 (gw_p [] j)) _ x1 (nI 4) ) (cwS 2 hts (gwS a95 a96 a97 a98) rfl rfl rfl (by decide +kernel) ⟨by decide, by decide⟩) (gc_preS hK hP hD hS hA hE rfl) rfl rfl hl.1 rfl (lv_room (Nat.le_of_ble_eq_true rfl)) dX2_cost_2 ⟨by decide, by decide⟩) hP hD hS hA rfl (fun v1 sp2 sg3 H locs hp4 ha5 hb6 hP hD hS => ?_) (fun E9 x9 ce9 sp2 sg3 H locs hp4 hc1 hc2 hc3 ha5 hb6 hP hD hS => ?_)
  · obtain ⟨rfl, ha1⟩ := hp4
    rw [show sg3 = sg0 from funext (fun k => hb6 k (by simp))] at hP hD
    refine W.eq (g2 := F0 m 5 ls []) rfl ?_
    refine lv_iload_n hx hb dX2_cost_5 rfl (lv_at hl 2 rfl) ?_
    refine lv_iconst (v := (nI 0)) hx hb dX2_cost_6 (by decide) ?_
    refine lv_sipush (v := (nI 20000)) hx hb dX2_cost_7 (by decide) ?_
    refine gc_goB (pl := []) (S2 := SE) (ad := ad) (sg := sg0) (vx_runS (As := [.int x2, .int (nI 0), .int (nI 20000)]) (rest := []) ⟨hx, hb, hml, hown, hts⟩ (m_X2_needRange l hl9 D cI cJ (fun j => ad (gw_p [] j)) (fun j => sg0 (gw_p [] j)) _ x2 (nI 0) (nI 20000) ) (cwS 3 hts (gwS a99 a100 a97 a101) rfl rfl rfl (by decide +kernel) ⟨by decide, by decide⟩) (gc_preS hK hP hD hS hA hE rfl) rfl rfl hl.1 rfl (lv_room (Nat.le_of_ble_eq_true rfl)) dX2_cost_10 ⟨by decide, by decide⟩) hP hD hS hA rfl (fun v7 sp8 sg9 H locs hp10 ha11 hb12 hP hD hS => ?_) (fun E9 x9 ce9 sp8 sg9 H locs hp10 hc1 hc2 hc3 ha11 hb12 hP hD hS => ?_)
    · obtain ⟨rfl, ha2⟩ := hp10
      rw [show sg9 = sg0 from funext (fun k => hb12 k (by simp))] at hP hD
      refine W.eq (g2 := F0 m 13 ls []) rfl ?_
      have hi1 := ix4.mp ha1
      have hi2 := ha2
      obtain ⟨j1, hj1, rfl⟩ := ixof4 ha1
      have hnj1 : nt (nI j1) = j1 := nt_nI (by omega)
      obtain ⟨j2, hj2, rfl⟩ := inof20000 ha2
      have hnj2 : nt (nI j2) = j2 := nt_nI (by omega)
      refine lv_aload_n hx hb dX2_cost_13 rfl (lv_at hl 0 rfl) ?_
      refine lv_iload_n hx hb dX2_cost_14 rfl (lv_at hl 2 rfl) ?_
      refine lv_iconst (v := (-1)) hx hb dX2_cost_15 (by decide) ?_
      refine gc_goB (pl := [0, 1, 2, 3, 4, 5, 6, 7, 8, 9, 10, 11, 12, 13, 14, 15, 16, 17, 18, 19, 20, 21, 22, 23, 24, 25, 26, 27, 28, 29, 30, 31, 32]) (S2 := SC) (ad := ad) (sg := sg0) (vx_runV (As := [.int (nI j2), .int (-1)]) (rest := []) ⟨hx, hb, hml, hown, hts⟩ (m_f_X2_gainOfTrial l hl9 D cI cJ (fun j => ad (gw_p [0, 1, 2, 3, 4, 5, 6, 7, 8, 9, 10, 11, 12, 13, 14, 15, 16, 17, 18, 19, 20, 21, 22, 23, 24, 25, 26, 27, 28, 29, 30, 31, 32] j)) (fun j => sg0 (gw_p [0, 1, 2, 3, 4, 5, 6, 7, 8, 9, 10, 11, 12, 13, 14, 15, 16, 17, 18, 19, 20, 21, 22, 23, 24, 25, 26, 27, 28, 29, 30, 31, 32] j)) _ j2 (by omega) (-1) T (cls_in hk) (yL T.1 j2) (EY_trial (cls_in hk).1) rfl (EQ_none (EC_ord hk))) (cwV 2 hts (gwV a126 a127 a128 a97 a129) rfl rfl rfl (by decide +kernel) ⟨by decide, by decide⟩) (gc_preV hK hP hD hS hA hE rfl rfl rfl rfl) rfl rfl hl.1 rfl (lv_room (Nat.le_of_ble_eq_true rfl)) dX2_cost_16 ⟨by decide, by decide⟩) hP hD hS hA rfl (fun v13 sp14 sg15 H locs hp16 ha17 hb18 hP hD hS => ?_) (fun E9 x9 ce9 sp14 sg15 H locs hp16 hc1 hc2 hc3 ha17 hb18 hP hD hS => ?_)
      · obtain ⟨hk1, hfa, rfl⟩ := hp16
        have hk : EC T sg15 := cls_out hk1 ha17 rfl
        refine W.eq (g2 := F0 m 19 ls [.int ((cR (yL T.1 j2)).2.2.2.1)]) rfl ?_
        refine lv_istore_n (lv' := [(3, .int ((cR (yL T.1 j2)).2.2.2.1)), (0, .ref (ad 0)), (1, .int (nI j1)), (2, .int (nI j2))]) hx hb dX2_cost_19 rfl hl (by decide) rfl (fun ls hl => ?_)
        refine lv_aload_n hx hb dX2_cost_20 rfl (lv_at hl 1 rfl) ?_
        refine lv_iload_n hx hb dX2_cost_21 rfl (lv_at hl 3 rfl) ?_
        refine lv_iload_n hx hb dX2_cost_22 rfl (lv_at hl 2 rfl) ?_
        refine gc_goB (pl := [0, 1, 2, 3, 4, 5, 6, 7, 8, 9, 10, 11, 12, 13, 14, 15, 16, 17, 18, 19, 20, 21, 22, 23, 24, 25, 26, 27, 28, 29, 30, 31, 32]) (S2 := SC) (ad := ad) (sg := sg15) (vx_runV (As := [.int (nI j2), .int (nI j1)]) (rest := []) ⟨hx, hb, hml, hown, hts⟩ (m_f_X2_gainOfTrial l hl9 D cI cJ (fun j => ad (gw_p [0, 1, 2, 3, 4, 5, 6, 7, 8, 9, 10, 11, 12, 13, 14, 15, 16, 17, 18, 19, 20, 21, 22, 23, 24, 25, 26, 27, 28, 29, 30, 31, 32] j)) (fun j => sg15 (gw_p [0, 1, 2, 3, 4, 5, 6, 7, 8, 9, 10, 11, 12, 13, 14, 15, 16, 17, 18, 19, 20, 21, 22, 23, 24, 25, 26, 27, 28, 29, 30, 31, 32] j)) _ j2 (by omega) (nI j1) T (cls_in hk) (yQ T.1 j1 j2) (EY_trial (cls_in hk).1) rfl (EQ_one (by omega) (EC_ord hk))) (cwV 2 hts (gwV a126 a127 a128 a97 a129) rfl rfl rfl (by decide +kernel) ⟨by decide, by decide⟩) (gc_preV hK hP hD hS hA hE rfl rfl rfl rfl) rfl rfl hl.1 rfl (lv_room (Nat.le_of_ble_eq_true rfl)) dX2_cost_23 ⟨by decide, by decide⟩) hP hD hS hA rfl (fun v19 sp20 sg21 H locs hp22 ha23 hb24 hP hD hS => ?_) (fun E9 x9 ce9 sp20 sg21 H locs hp22 hc1 hc2 hc3 ha23 hb24 hP hD hS => ?_)
        · obtain ⟨hk1, hfb, rfl⟩ := hp22
          have hk : EC T sg21 := cls_out hk1 ha23 rfl
          refine W.eq (g2 := F0 m 26 ls [.int ((cR (yQ T.1 j1 j2)).2.2.2.1)]) rfl ?_
          refine lv_istore (lv' := [(4, .int ((cR (yQ T.1 j1 j2)).2.2.2.1)), (3, .int ((cR (yL T.1 j2)).2.2.2.1)), (0, .ref (ad 0)), (1, .int (nI j1)), (2, .int (nI j2))]) hx hb dX2_cost_26 hl (by decide) rfl (fun ls hl => ?_)
          refine lv_iload_n hx hb dX2_cost_28 rfl (lv_at hl 1 rfl) ?_
          refine lv_iload hx hb dX2_cost_29 (lv_at hl 0 rfl) ?_
          refine lv_isub hx hb dX2_cost_31 ?_
          exact hret _ _ _ _ _ _ hP hS dX2_cost_32 (⟨hk, by simp [qCost, kif, hi1, hi2, hnj1, hnj2, hfa, hfb], by unfold aCost; rw [hnj1, hnj2]⟩)
        · obtain ⟨hk1, rfl, hq⟩ := hp22
          have hk : EC T sg21 := cls_out hk1 ha23 rfl
          exact kt _ _ _ _ _ _ _ _ _ _ _ (⟨hk, Or.inr (Or.inr (⟨rfl, by simp [qCost, kif, hi1, hi2, hnj1, hnj2, hq, hfa]⟩))⟩) hc1 hc2 hc3 hP hS (by decide) (by decide)
      · obtain ⟨hk1, rfl, hq⟩ := hp16
        have hk : EC T sg15 := cls_out hk1 ha17 rfl
        exact kt _ _ _ _ _ _ _ _ _ _ _ (⟨hk, Or.inr (Or.inr (⟨rfl, by simp [qCost, kif, hi1, hi2, hnj1, hnj2, hq]⟩))⟩) hc1 hc2 hc3 hP hS (by decide) (by decide)
    · obtain ⟨rfl, hq⟩ := hp10
      rw [show sg9 = sg0 from funext (fun k => hb12 k (by simp))] at hP hD
      exact kt _ _ _ _ _ _ _ _ _ _ _ (⟨hk, Or.inr (Or.inl ⟨rfl, by simp [qCost, kif, ix4.mp ha1, hq]⟩)⟩) hc1 hc2 hc3 hP hS (by decide) (by decide)
  · obtain ⟨rfl, hq⟩ := hp4
    rw [show sg3 = sg0 from funext (fun k => hb6 k (by simp))] at hP hD
    exact kt _ _ _ _ _ _ _ _ _ _ _ (⟨hk, Or.inl ⟨rfl, by simp [qCost, kif, (not_congr ix4).mp hq]⟩⟩) hc1 hc2 hc3 hP hS (by decide) (by decide)
