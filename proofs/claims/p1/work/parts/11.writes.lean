abbrev rmX2_forgetSearch : Room := { frames := 0, cells := 0, slots := 0, locals := 0 }
set_option maxRecDepth 100000 in
set_option maxHeartbeats 4000000 in
theorem m_X2_forgetSearch (l : Launch) (hl9 : l.stackTraces = false) (D : va_G) (cI : ClassId) (cJ : ClassId × ClassId) (ad : Nat → Nat) (sg0 : Nat → Nat → Int32) (sz : Nat) : gc_M l yX2_forgetSearch wsX2_forgetSearch rmX2_forgetSearch D vwCl (tyS cI cJ) cI cJ gxT gxN SC [.ref (ad 0)] ad sg0 sz 0 0 (fun v sg2 => v = none) := by
  refine gc_Mv_of (cc := cX2_forgetSearch) (maxL := 1) (by decide) rfl (Nat.le_of_ble_eq_true rfl) ?_
  intro p e s m below meth c A ls Q hin hE hret
  obtain ⟨⟨hx, hb, hml, hown, hts⟩, -, hlocks, -, hA, hP, hK, hD, hS, hl⟩ := hin
  have hts : ∀ w ∈ wsAll, w.before ([.ref (ad 0)] : List Value).toArray s = true := fun w h => hts w (List.mem_cons_of_mem _ h)
  have hl : lv_has ls 1 [(0, .ref (ad 0))] := hl
  refine lv_aload_n hx hb dX2_forgetSearch_0 rfl (lv_at hl 0 rfl) ?_
  refine lv_iconst (v := (nI 0)) hx hb dX2_forgetSearch_1 (by decide) ?_
  refine gw_put (C := RX2) (T := TX2) (N := 6) (ty := .boolean) hx hb hts inwX2 tyX2 tyX2_ok nmX2 hown hK hP hD hS 0 3 rfl rfl rfl (by decide) (hts _ a6) (fun _ h9 => h9) rfl (by decide +kernel) rfl rfl dX2_forgetSearch_2 (fun H locs hP hD hS => ?_)
  obtain ⟨sg1, esg1⟩ : ∃ z : Nat → Nat → Int32, z = gw_u sg0 0 (upd (sg0 0) 3 (nI 0)) := ⟨_, rfl⟩
  rw [← esg1] at hP hD
  refine lv_aload_n hx hb dX2_forgetSearch_5 rfl (lv_at hl 0 rfl) ?_
  refine gw_getr (C := RX2) (T := TX2) (N := 6) hx hb hts inwX2 hown hK hP 0 1 2 rfl rfl rfl (by decide) (hts _ a7) (fun _ h9 => h9) dX2_forgetSearch_6 ?_
  refine lv_iconst (v := (nI 0)) hx hb dX2_forgetSearch_9 (by decide) ?_
  refine gw_putN (C := RX0) (T := TX0) (N := 15) (ty := .boolean) hx hb hts inwX0 tyX0 tyX0_ok nmX0 hown hK hP hD hS 2 12 rfl rfl rfl (by decide) (hE.nest _ (.fieldLinkNest RX2 93 RX0 "found" "Z" RX2) (by decide +kernel) rfl) (fun _ h9 => h9) rfl (by decide +kernel) rfl rfl dX2_forgetSearch_10 (fun H locs hP hD hS => ?_)
  obtain ⟨sg2, esg2⟩ : ∃ z : Nat → Nat → Int32, z = gw_u sg1 2 (upd (sg1 2) 12 (nI 0)) := ⟨_, rfl⟩
  rw [← esg2] at hP hD
  exact hret _ _ _ _ _ hP hS dX2_forgetSearch_13 rfl
abbrev rmX2_logs : Room := { frames := 7, cells := 3, slots := 18, locals := 104 }
set_option maxRecDepth 100000 in
set_option maxHeartbeats 4000000 in
theorem m_X2_logs (l : Launch) (hl9 : l.stackTraces = false) (D : va_G) (cI : ClassId) (cJ : ClassId × ClassId) (ad : Nat → Nat) (sg0 : Nat → Nat → Int32) (sz : Nat) (x1 : Int32) (x2 : Int32) (x3 : Int32) : gc_B l yX2_logs wsX2_logs rmX2_logs D vwCl (tyS cI cJ) cI cJ gxT gxN SC [.ref (ad 0), .int x1, .int x2, .int x3] ad sg0 sz 3 18 (fun v sg2 => v = none ∧ kLogs x1 x2 x3 = nI 0) (fun E sg2 => (E = "java/lang/IndexOutOfBoundsException" ∧ kLogs x1 x2 x3 = nI 1) ∨ (E = "java/lang/IllegalArgumentException" ∧ kLogs x1 x2 x3 = nI 2)) := by
  refine gc_Bv_of (cc := cX2_logs) (maxL := 4) (by decide) rfl (Nat.le_of_ble_eq_true rfl) ?_
  intro p e s m below meth c A ls Q hin hE hret kt kx
  obtain ⟨⟨hx, hb, hml, hown, hts⟩, -, hlocks, -, hA, hP, hK, hD, hS, hl⟩ := hin
  have hts : ∀ w ∈ wsAll, w.before ([.ref (ad 0), .int x1, .int x2, .int x3] : List Value).toArray s = true := fun w h => hts w (List.mem_cons_of_mem _ h)
  have hl : lv_has ls 4 [(0, .ref (ad 0)), (1, .int x1), (2, .int x2), (3, .int x3)] := hl
  refine lv_iload_n hx hb dX2_logs_0 rfl (lv_at hl 1 rfl) ?_
  refine lv_iconst (v := (nI 4)) hx hb dX2_logs_1 (by decide) ?_
  refine gc_goB (pl := []) (S2 := SE) (ad := ad) (sg := sg0) (vx_runS (As := [.int x1, .int (nI 4)]) (rest := []) ⟨hx, hb, hml, hown, hts⟩ (m_X2_needIndex l hl9 D cI cJ (fun j => ad (gw_p [] j)) (fun j => sg0 (gw_p [] j)) _ x1 (nI 4) ) (cwS 2 hts (gwS a8 a9 a10 a11) rfl rfl rfl (by decide +kernel) ⟨by decide, by decide⟩) (gc_preS hK hP hD hS hA hE rfl) rfl rfl hl.1 rfl (lv_room (Nat.le_of_ble_eq_true rfl)) dX2_logs_2 ⟨by decide, by decide⟩) hP hD hS hA rfl (fun v1 sp2 sg3 H locs hp4 ha5 hb6 hP hD hS => ?_) (fun E9 x9 ce9 sp2 sg3 H locs hp4 hc1 hc2 hc3 ha5 hb6 hP hD hS => ?_)
  · obtain ⟨rfl, ha1⟩ := hp4
    rw [show sg3 = sg0 from funext (fun k => hb6 k (by simp))] at hP hD
    refine W.eq (g2 := F0 m 5 ls []) rfl ?_
    refine lv_iload_n hx hb dX2_logs_5 rfl (lv_at hl 2 rfl) ?_
    refine lv_iconst (v := (nI 0)) hx hb dX2_logs_6 (by decide) ?_
    refine lv_sipush (v := (nI 1000)) hx hb dX2_logs_7 (by decide) ?_
    refine gc_goB (pl := []) (S2 := SE) (ad := ad) (sg := sg0) (vx_runS (As := [.int x2, .int (nI 0), .int (nI 1000)]) (rest := []) ⟨hx, hb, hml, hown, hts⟩ (m_X2_needRange l hl9 D cI cJ (fun j => ad (gw_p [] j)) (fun j => sg0 (gw_p [] j)) _ x2 (nI 0) (nI 1000) ) (cwS 3 hts (gwS a12 a13 a10 a14) rfl rfl rfl (by decide +kernel) ⟨by decide, by decide⟩) (gc_preS hK hP hD hS hA hE rfl) rfl rfl hl.1 rfl (lv_room (Nat.le_of_ble_eq_true rfl)) dX2_logs_10 ⟨by decide, by decide⟩) hP hD hS hA rfl (fun v7 sp8 sg9 H locs hp10 ha11 hb12 hP hD hS => ?_) (fun E9 x9 ce9 sp8 sg9 H locs hp10 hc1 hc2 hc3 ha11 hb12 hP hD hS => ?_)
    · obtain ⟨rfl, ha2⟩ := hp10
      rw [show sg9 = sg0 from funext (fun k => hb12 k (by simp))] at hP hD
      refine W.eq (g2 := F0 m 13 ls []) rfl ?_
      refine lv_iload_n hx hb dX2_logs_13 rfl (lv_at hl 3 rfl) ?_
      refine lv_iconst (v := (nI 0)) hx hb dX2_logs_14 (by decide) ?_
      refine lv_ldc (v := (nI 100000)) hx hb hown (hts _ a15) dX2_logs_15 ?_
      refine gc_goB (pl := []) (S2 := SE) (ad := ad) (sg := sg0) (vx_runS (As := [.int x3, .int (nI 0), .int (nI 100000)]) (rest := []) ⟨hx, hb, hml, hown, hts⟩ (m_X2_needRange l hl9 D cI cJ (fun j => ad (gw_p [] j)) (fun j => sg0 (gw_p [] j)) _ x3 (nI 0) (nI 100000) ) (cwS 3 hts (gwS a12 a13 a10 a14) rfl rfl rfl (by decide +kernel) ⟨by decide, by decide⟩) (gc_preS hK hP hD hS hA hE rfl) rfl rfl hl.1 rfl (lv_room (Nat.le_of_ble_eq_true rfl)) dX2_logs_17 ⟨by decide, by decide⟩) hP hD hS hA rfl (fun v13 sp14 sg15 H locs hp16 ha17 hb18 hP hD hS => ?_) (fun E9 x9 ce9 sp14 sg15 H locs hp16 hc1 hc2 hc3 ha17 hb18 hP hD hS => ?_)
      · obtain ⟨rfl, ha3⟩ := hp16
        rw [show sg15 = sg0 from funext (fun k => hb18 k (by simp))] at hP hD
        refine W.eq (g2 := F0 m 20 ls []) rfl ?_
        have hk9 : kLogs x1 x2 x3 = nI 0 := by simp [kLogs, kif, ix4.mp ha1, ha2, ha3]
        obtain ⟨j1, hj1, rfl⟩ := ixof4 ha1
        refine lv_aload_n hx hb dX2_logs_20 rfl (lv_at hl 0 rfl) ?_
        refine gw_getr (C := RX2) (T := TX2) (N := 6) hx hb hts inwX2 hown hK hP 0 0 1 rfl rfl rfl (by decide) (hts _ a16) (fun _ h9 => h9) dX2_logs_21 ?_
        refine gw_getrN (C := RX1) (T := TX1) (N := 12) hx hb hts inwX1 hown hK hP 1 0 4 rfl rfl rfl (by decide) (hE.nest _ (.fieldLinkNest RX2 37 RX1 "logsLeft" "[I" RX2) (by decide +kernel) rfl) (fun _ h9 => h9) dX2_logs_24 ?_
        refine lv_iload_n hx hb dX2_logs_27 rfl (lv_at hl 1 rfl) ?_
        refine lv_iload_n hx hb dX2_logs_28 rfl (lv_at hl 2 rfl) ?_
        refine gw_ast hx hb hK hP hD hS 4 0 (n := 4) rfl rfl (i := j1) (by omega) (by decide) dX2_logs_29 (fun H locs hP hD hS => ?_)
        obtain ⟨sg19, esg19⟩ : ∃ z : Nat → Nat → Int32, z = gw_u sg0 4 (upd (sg0 4) j1 x2) := ⟨_, rfl⟩
        rw [← esg19] at hP hD
        refine lv_aload_n hx hb dX2_logs_30 rfl (lv_at hl 0 rfl) ?_
        refine gw_getr (C := RX2) (T := TX2) (N := 6) hx hb hts inwX2 hown hK hP 0 0 1 rfl rfl rfl (by decide) (hts _ a16) (fun _ h9 => h9) dX2_logs_31 ?_
        refine gw_getrN (C := RX1) (T := TX1) (N := 12) hx hb hts inwX1 hown hK hP 1 1 5 rfl rfl rfl (by decide) (hE.nest _ (.fieldLinkNest RX2 41 RX1 "centsALog" "[I" RX2) (by decide +kernel) rfl) (fun _ h9 => h9) dX2_logs_34 ?_
        refine lv_iload_n hx hb dX2_logs_37 rfl (lv_at hl 1 rfl) ?_
        refine lv_iload_n hx hb dX2_logs_38 rfl (lv_at hl 3 rfl) ?_
        refine gw_ast hx hb hK hP hD hS 5 0 (n := 4) rfl rfl (i := j1) (by omega) (by decide) dX2_logs_39 (fun H locs hP hD hS => ?_)
        obtain ⟨sg20, esg20⟩ : ∃ z : Nat → Nat → Int32, z = gw_u sg19 5 (upd (sg19 5) j1 x3) := ⟨_, rfl⟩
        rw [← esg20] at hP hD
        refine lv_aload_n hx hb dX2_logs_40 rfl (lv_at hl 0 rfl) ?_
        refine gc_go0 (va_runV (As := []) (rest := []) ⟨hx, hb, hml, hown, hts⟩ (m_X2_forgetSearch l hl9 D cI cJ ad sg20 _  ) (cwV 0 hts (gwV a17 a18 a19 a10 a20) rfl rfl rfl (by decide +kernel) ⟨by decide, by decide⟩) (gc_preV0 hK hP hD hS hA hE rfl rfl rfl) rfl rfl hl.1 rfl (lv_room (Nat.le_of_ble_eq_true rfl)) dX2_logs_41 ⟨by decide, by decide⟩) hD hS hA (fun v21 sg23 H locs hp24 hP hD hS => ?_)
        obtain rfl := hp24
        refine W.eq (g2 := F0 m 44 ls []) rfl ?_
        exact hret _ _ _ _ _ hP hS dX2_logs_44 (⟨rfl, hk9⟩)
      · obtain ⟨rfl, hq⟩ := hp16
        exact kt _ _ _ _ _ _ _ _ _ _ _ (Or.inr ⟨rfl, by simp [kLogs, kif, ix4.mp ha1, ha2, hq]⟩) hc1 hc2 hc3 hP hS (by decide) (by decide)
    · obtain ⟨rfl, hq⟩ := hp10
      exact kt _ _ _ _ _ _ _ _ _ _ _ (Or.inr ⟨rfl, by simp [kLogs, kif, ix4.mp ha1, hq]⟩) hc1 hc2 hc3 hP hS (by decide) (by decide)
  · obtain ⟨rfl, hq⟩ := hp4
    exact kt _ _ _ _ _ _ _ _ _ _ _ (Or.inl ⟨rfl, by simp [kLogs, kif, (not_congr ix4).mp hq]⟩) hc1 hc2 hc3 hP hS (by decide) (by decide)
abbrev rmX2_pattern : Room := { frames := 7, cells := 2, slots := 12, locals := 104 }
set_option maxRecDepth 100000 in
set_option maxHeartbeats 4000000 in
theorem m_X2_pattern (l : Launch) (hl9 : l.stackTraces = false) (D : va_G) (cI : ClassId) (cJ : ClassId × ClassId) (ad : Nat → Nat) (sg0 : Nat → Nat → Int32) (sz : Nat) (x1 : Int32) (x2 : Int32) (hF : ∀ k j : Nat, k < 33 → sg0 k j = fr k j) : gc_B l yX2_pattern wsX2_pattern rmX2_pattern D vwCl (tyS cI cJ) cI cJ gxT gxN SC [.ref (ad 0), .int x1, .int x2] ad sg0 sz 2 12 (fun v sg2 => v = some (.int (nI 0)) ∧ kPattern x1 x2 = nI 0) (fun E sg2 => (E = "java/lang/IndexOutOfBoundsException" ∧ kPattern x1 x2 = nI 1) ∨ (E = "java/lang/IllegalArgumentException" ∧ kPattern x1 x2 = nI 2)) := by
  refine gc_Bi_of (cc := cX2_pattern) (maxL := 4) (by decide) rfl (Nat.le_of_ble_eq_true rfl) ?_
  intro p e s m below meth c A ls Q hin hE hret kt kx
  obtain ⟨⟨hx, hb, hml, hown, hts⟩, -, hlocks, -, hA, hP, hK, hD, hS, hl⟩ := hin
  have hts : ∀ w ∈ wsAll, w.before ([.ref (ad 0), .int x1, .int x2] : List Value).toArray s = true := fun w h => hts w (List.mem_cons_of_mem _ h)
  have hl : lv_has ls 4 [(0, .ref (ad 0)), (1, .int x1), (2, .int x2)] := hl
  refine lv_iload_n hx hb dX2_pattern_0 rfl (lv_at hl 1 rfl) ?_
  refine lv_iconst (v := (nI 4)) hx hb dX2_pattern_1 (by decide) ?_
  refine gc_goB (pl := []) (S2 := SE) (ad := ad) (sg := sg0) (vx_runS (As := [.int x1, .int (nI 4)]) (rest := []) ⟨hx, hb, hml, hown, hts⟩ (m_X2_needIndex l hl9 D cI cJ (fun j => ad (gw_p [] j)) (fun j => sg0 (gw_p [] j)) _ x1 (nI 4) ) (cwS 2 hts (gwS a8 a9 a10 a11) rfl rfl rfl (by decide +kernel) ⟨by decide, by decide⟩) (gc_preS hK hP hD hS hA hE rfl) rfl rfl hl.1 rfl (lv_room (Nat.le_of_ble_eq_true rfl)) dX2_pattern_2 ⟨by decide, by decide⟩) hP hD hS hA rfl (fun v1 sp2 sg3 H locs hp4 ha5 hb6 hP hD hS => ?_) (fun E9 x9 ce9 sp2 sg3 H locs hp4 hc1 hc2 hc3 ha5 hb6 hP hD hS => ?_)
  · obtain ⟨rfl, ha1⟩ := hp4
    rw [show sg3 = sg0 from funext (fun k => hb6 k (by simp))] at hP hD
    refine W.eq (g2 := F0 m 5 ls []) rfl ?_
    refine lv_iload_n hx hb dX2_pattern_5 rfl (lv_at hl 2 rfl) ?_
    refine lv_iconst (v := (nI 1)) hx hb dX2_pattern_6 (by decide) ?_
    refine lv_sipush (v := (nI 480)) hx hb dX2_pattern_7 (by decide) ?_
    refine gc_goB (pl := []) (S2 := SE) (ad := ad) (sg := sg0) (vx_runS (As := [.int x2, .int (nI 1), .int (nI 480)]) (rest := []) ⟨hx, hb, hml, hown, hts⟩ (m_X2_needRange l hl9 D cI cJ (fun j => ad (gw_p [] j)) (fun j => sg0 (gw_p [] j)) _ x2 (nI 1) (nI 480) ) (cwS 3 hts (gwS a12 a13 a10 a14) rfl rfl rfl (by decide +kernel) ⟨by decide, by decide⟩) (gc_preS hK hP hD hS hA hE rfl) rfl rfl hl.1 rfl (lv_room (Nat.le_of_ble_eq_true rfl)) dX2_pattern_10 ⟨by decide, by decide⟩) hP hD hS hA rfl (fun v7 sp8 sg9 H locs hp10 ha11 hb12 hP hD hS => ?_) (fun E9 x9 ce9 sp8 sg9 H locs hp10 hc1 hc2 hc3 ha11 hb12 hP hD hS => ?_)
    · obtain ⟨rfl, ha2⟩ := hp10
      rw [show sg9 = sg0 from funext (fun k => hb12 k (by simp))] at hP hD
      refine W.eq (g2 := F0 m 13 ls []) rfl ?_
      have hk9 : kPattern x1 x2 = nI 0 := by simp [kPattern, kif, ix4.mp ha1, ha2]
      refine lv_aload_n hx hb dX2_pattern_13 rfl (lv_at hl 0 rfl) ?_
      refine gw_getr (C := RX2) (T := TX2) (N := 6) hx hb hts inwX2 hown hK hP 0 0 1 rfl rfl rfl (by decide) (hts _ a16) (fun _ h9 => h9) dX2_pattern_14 ?_
      refine gw_getiN (C := RX1) (T := TX1) (N := 12) hx hb hts inwX1 hown hK hP 1 9 rfl rfl rfl (by decide) (hE.nest _ (.fieldLinkNest RX2 47 RX1 "patterns" "I" RX2) (by decide +kernel) rfl) (fun _ h9 => h9) dX2_pattern_17 ?_
      refine gw_top (y := (nI 0)) ((hF 1 9 (by decide)).trans (by decide)) ?_
      refine lv_istore_n (lv' := [(3, .int (nI 0)), (0, .ref (ad 0)), (1, .int x1), (2, .int x2)]) hx hb dX2_pattern_20 rfl hl (by decide) rfl (fun ls hl => ?_)
      refine lv_iload_n hx hb dX2_pattern_21 rfl (lv_at hl 0 rfl) ?_
      refine lv_bipush (v := (nI 6)) hx hb dX2_pattern_22 (by decide) ?_
      refine lv_icmp_lt (tgt := 37) hx hb dX2_pattern_24 (by decide) (fun hc13 => ?_) (fun hc13 => ?_)
      · refine lv_aload_n hx hb dX2_pattern_37 rfl (lv_at hl 1 rfl) ?_
        refine gw_getr (C := RX2) (T := TX2) (N := 6) hx hb hts inwX2 hown hK hP 0 0 1 rfl rfl rfl (by decide) (hts _ a16) (fun _ h9 => h9) dX2_pattern_38 ?_
        refine gw_getrN (C := RX1) (T := TX1) (N := 12) hx hb hts inwX1 hown hK hP 1 2 6 rfl rfl rfl (by decide) (hE.nest _ (.fieldLinkNest RX2 58 RX1 "classOf" "[I" RX2) (by decide +kernel) rfl) (fun _ h9 => h9) dX2_pattern_41 ?_
        refine lv_iload_n hx hb dX2_pattern_44 rfl (lv_at hl 0 rfl) ?_
        refine lv_iload_n hx hb dX2_pattern_45 rfl (lv_at hl 2 rfl) ?_
        refine gw_ast hx hb hK hP hD hS 6 0 (n := 6) rfl rfl (i := 0) (by omega) (by decide) dX2_pattern_46 (fun H locs hP hD hS => ?_)
        obtain ⟨sg14, esg14⟩ : ∃ z : Nat → Nat → Int32, z = gw_u sg0 6 (upd (sg0 6) 0 x1) := ⟨_, rfl⟩
        rw [← esg14] at hP hD
        refine lv_aload_n hx hb dX2_pattern_47 rfl (lv_at hl 1 rfl) ?_
        refine gw_getr (C := RX2) (T := TX2) (N := 6) hx hb hts inwX2 hown hK hP 0 0 1 rfl rfl rfl (by decide) (hts _ a16) (fun _ h9 => h9) dX2_pattern_48 ?_
        refine gw_getrN (C := RX1) (T := TX1) (N := 12) hx hb hts inwX1 hown hK hP 1 3 7 rfl rfl rfl (by decide) (hE.nest _ (.fieldLinkNest RX2 61 RX1 "minutesALog" "[I" RX2) (by decide +kernel) rfl) (fun _ h9 => h9) dX2_pattern_51 ?_
        refine lv_iload_n hx hb dX2_pattern_54 rfl (lv_at hl 0 rfl) ?_
        refine lv_iload_n hx hb dX2_pattern_55 rfl (lv_at hl 3 rfl) ?_
        refine gw_ast hx hb hK hP hD hS 7 0 (n := 6) rfl rfl (i := 0) (by omega) (by decide) dX2_pattern_56 (fun H locs hP hD hS => ?_)
        obtain ⟨sg15, esg15⟩ : ∃ z : Nat → Nat → Int32, z = gw_u sg14 7 (upd (sg14 7) 0 x2) := ⟨_, rfl⟩
        rw [← esg15] at hP hD
        refine lv_aload_n hx hb dX2_pattern_57 rfl (lv_at hl 1 rfl) ?_
        refine gw_getr (C := RX2) (T := TX2) (N := 6) hx hb hts inwX2 hown hK hP 0 0 1 rfl rfl rfl (by decide) (hts _ a16) (fun _ h9 => h9) dX2_pattern_58 ?_
        refine lv_iload_n hx hb dX2_pattern_61 rfl (lv_at hl 0 rfl) ?_
        refine lv_iconst (v := (nI 1)) hx hb dX2_pattern_62 (by decide) ?_
        refine lv_iadd hx hb dX2_pattern_63 ?_
        refine gw_top (y := (nI 1)) (by decide) ?_
        refine gw_putN (C := RX1) (T := TX1) (N := 12) (ty := .int) hx hb hts inwX1 tyX1 tyX1_ok nmX1 hown hK hP hD hS 1 9 rfl rfl rfl (by decide) (hE.nest _ (.fieldLinkNest RX2 47 RX1 "patterns" "I" RX2) (by decide +kernel) rfl) (fun _ h9 => h9) rfl (by decide +kernel) rfl rfl dX2_pattern_64 (fun H locs hP hD hS => ?_)
        obtain ⟨sg16, esg16⟩ : ∃ z : Nat → Nat → Int32, z = gw_u sg15 1 (upd (sg15 1) 9 (nI 1)) := ⟨_, rfl⟩
        rw [← esg16] at hP hD
        refine lv_aload_n hx hb dX2_pattern_67 rfl (lv_at hl 1 rfl) ?_
        refine gc_go0 (va_runV (As := []) (rest := []) ⟨hx, hb, hml, hown, hts⟩ (m_X2_forgetSearch l hl9 D cI cJ ad sg16 _  ) (cwV 0 hts (gwV a17 a18 a19 a10 a20) rfl rfl rfl (by decide +kernel) ⟨by decide, by decide⟩) (gc_preV0 hK hP hD hS hA hE rfl rfl rfl) rfl rfl hl.1 rfl (lv_room (Nat.le_of_ble_eq_true rfl)) dX2_pattern_68 ⟨by decide, by decide⟩) hD hS hA (fun v17 sg19 H locs hp20 hP hD hS => ?_)
        obtain rfl := hp20
        refine W.eq (g2 := F0 m 71 ls []) rfl ?_
        refine lv_iload_n hx hb dX2_pattern_71 rfl (lv_at hl 0 rfl) ?_
        exact hret _ _ _ _ _ _ hP hS dX2_pattern_72 (⟨rfl, hk9⟩)
      · exact absurd hc13 (by decide)
    · obtain ⟨rfl, hq⟩ := hp10
      exact kt _ _ _ _ _ _ _ _ _ _ _ (Or.inr ⟨rfl, by simp [kPattern, kif, ix4.mp ha1, hq]⟩) hc1 hc2 hc3 hP hS (by decide) (by decide)
  · obtain ⟨rfl, hq⟩ := hp4
    exact kt _ _ _ _ _ _ _ _ _ _ _ (Or.inl ⟨rfl, by simp [kPattern, kif, (not_congr ix4).mp hq]⟩) hc1 hc2 hc3 hP hS (by decide) (by decide)
abbrev rmX2_gives : Room := { frames := 7, cells := 1, slots := 6, locals := 103 }
set_option maxRecDepth 100000 in
set_option maxHeartbeats 4000000 in
theorem m_X2_gives (l : Launch) (hl9 : l.stackTraces = false) (D : va_G) (cI : ClassId) (cJ : ClassId × ClassId) (ad : Nat → Nat) (sg0 : Nat → Nat → Int32) (sz : Nat) (x1 : Int32) (x2 : Int32) (x3 : Int32) (hF : ∀ k j : Nat, k < 33 → sg0 k j = fr k j) : gc_B l yX2_gives wsX2_gives rmX2_gives D vwCl (tyS cI cJ) cI cJ gxT gxN SC [.ref (ad 0), .int x1, .int x2, .int x3] ad sg0 sz 1 6 (fun v sg2 => False) (fun E sg2 => E = "java/lang/IndexOutOfBoundsException") := by
  refine gc_Bv_of (cc := cX2_gives) (maxL := 4) (by decide) rfl (Nat.le_of_ble_eq_true rfl) ?_
  intro p e s m below meth c A ls Q hin hE hret kt kx
  obtain ⟨⟨hx, hb, hml, hown, hts⟩, -, hlocks, -, hA, hP, hK, hD, hS, hl⟩ := hin
  have hts : ∀ w ∈ wsAll, w.before ([.ref (ad 0), .int x1, .int x2, .int x3] : List Value).toArray s = true := fun w h => hts w (List.mem_cons_of_mem _ h)
  have hl : lv_has ls 4 [(0, .ref (ad 0)), (1, .int x1), (2, .int x2), (3, .int x3)] := hl
  refine lv_iload_n hx hb dX2_gives_0 rfl (lv_at hl 1 rfl) ?_
  refine lv_aload_n hx hb dX2_gives_1 rfl (lv_at hl 0 rfl) ?_
  refine gw_getr (C := RX2) (T := TX2) (N := 6) hx hb hts inwX2 hown hK hP 0 0 1 rfl rfl rfl (by decide) (hts _ a16) (fun _ h9 => h9) dX2_gives_2 ?_
  refine gw_getiN (C := RX1) (T := TX1) (N := 12) hx hb hts inwX1 hown hK hP 1 9 rfl rfl rfl (by decide) (hE.nest _ (.fieldLinkNest RX2 47 RX1 "patterns" "I" RX2) (by decide +kernel) rfl) (fun _ h9 => h9) dX2_gives_5 ?_
  refine gw_top (y := (nI 0)) ((hF 1 9 (by decide)).trans (by decide)) ?_
  refine gc_goB (pl := []) (S2 := SE) (ad := ad) (sg := sg0) (vx_runS (As := [.int x1, .int (nI 0)]) (rest := []) ⟨hx, hb, hml, hown, hts⟩ (m_X2_needIndex l hl9 D cI cJ (fun j => ad (gw_p [] j)) (fun j => sg0 (gw_p [] j)) _ x1 (nI 0) ) (cwS 2 hts (gwS a8 a9 a10 a11) rfl rfl rfl (by decide +kernel) ⟨by decide, by decide⟩) (gc_preS hK hP hD hS hA hE rfl) rfl rfl hl.1 rfl (lv_room (Nat.le_of_ble_eq_true rfl)) dX2_gives_8 ⟨by decide, by decide⟩) hP hD hS hA rfl (fun v1 sp2 sg3 H locs hp4 ha5 hb6 hP hD hS => ?_) (fun E9 x9 ce9 sp2 sg3 H locs hp4 hc1 hc2 hc3 ha5 hb6 hP hD hS => ?_)
  · exact absurd hp4.2 ix0
  · obtain ⟨rfl, hq⟩ := hp4
    exact kt _ _ _ _ _ _ _ _ _ _ _ rfl hc1 hc2 hc3 hP hS (by decide) (by decide)
abbrev rmX2_order : Room := { frames := 7, cells := 4, slots := 24, locals := 104 }
set_option maxRecDepth 100000 in
set_option maxHeartbeats 4000000 in
theorem m_X2_order (l : Launch) (hl9 : l.stackTraces = false) (D : va_G) (cI : ClassId) (cJ : ClassId × ClassId) (ad : Nat → Nat) (sg0 : Nat → Nat → Int32) (sz : Nat) (x1 : Int32) (x2 : Int32) (x3 : Int32) (x4 : Int32) : gc_B l yX2_order wsX2_order rmX2_order D vwCl (tyS cI cJ) cI cJ gxT gxN SC [.ref (ad 0), .int x1, .int x2, .int x3, .int x4] ad sg0 sz 4 24 (fun v sg2 => v = none ∧ kOrder x1 x2 x3 x4 = nI 0) (fun E sg2 => (E = "java/lang/IndexOutOfBoundsException" ∧ kOrder x1 x2 x3 x4 = nI 1) ∨ (E = "java/lang/IllegalArgumentException" ∧ kOrder x1 x2 x3 x4 = nI 2)) := by
  refine gc_Bv_of (cc := cX2_order) (maxL := 5) (by decide) rfl (Nat.le_of_ble_eq_true rfl) ?_
  intro p e s m below meth c A ls Q hin hE hret kt kx
  obtain ⟨⟨hx, hb, hml, hown, hts⟩, -, hlocks, -, hA, hP, hK, hD, hS, hl⟩ := hin
  have hts : ∀ w ∈ wsAll, w.before ([.ref (ad 0), .int x1, .int x2, .int x3, .int x4] : List Value).toArray s = true := fun w h => hts w (List.mem_cons_of_mem _ h)
  have hl : lv_has ls 5 [(0, .ref (ad 0)), (1, .int x1), (2, .int x2), (3, .int x3), (4, .int x4)] := hl
  refine lv_iload_n hx hb dX2_order_0 rfl (lv_at hl 1 rfl) ?_
  refine lv_iconst (v := (nI 4)) hx hb dX2_order_1 (by decide) ?_
  refine gc_goB (pl := []) (S2 := SE) (ad := ad) (sg := sg0) (vx_runS (As := [.int x1, .int (nI 4)]) (rest := []) ⟨hx, hb, hml, hown, hts⟩ (m_X2_needIndex l hl9 D cI cJ (fun j => ad (gw_p [] j)) (fun j => sg0 (gw_p [] j)) _ x1 (nI 4) ) (cwS 2 hts (gwS a8 a9 a10 a11) rfl rfl rfl (by decide +kernel) ⟨by decide, by decide⟩) (gc_preS hK hP hD hS hA hE rfl) rfl rfl hl.1 rfl (lv_room (Nat.le_of_ble_eq_true rfl)) dX2_order_2 ⟨by decide, by decide⟩) hP hD hS hA rfl (fun v1 sp2 sg3 H locs hp4 ha5 hb6 hP hD hS => ?_) (fun E9 x9 ce9 sp2 sg3 H locs hp4 hc1 hc2 hc3 ha5 hb6 hP hD hS => ?_)
  · obtain ⟨rfl, ha1⟩ := hp4
    rw [show sg3 = sg0 from funext (fun k => hb6 k (by simp))] at hP hD
    refine W.eq (g2 := F0 m 5 ls []) rfl ?_
    refine lv_iload_n hx hb dX2_order_5 rfl (lv_at hl 2 rfl) ?_
    refine lv_iconst (v := (nI 0)) hx hb dX2_order_6 (by decide) ?_
    refine lv_sipush (v := (nI 1000)) hx hb dX2_order_7 (by decide) ?_
    refine gc_goB (pl := []) (S2 := SE) (ad := ad) (sg := sg0) (vx_runS (As := [.int x2, .int (nI 0), .int (nI 1000)]) (rest := []) ⟨hx, hb, hml, hown, hts⟩ (m_X2_needRange l hl9 D cI cJ (fun j => ad (gw_p [] j)) (fun j => sg0 (gw_p [] j)) _ x2 (nI 0) (nI 1000) ) (cwS 3 hts (gwS a12 a13 a10 a14) rfl rfl rfl (by decide +kernel) ⟨by decide, by decide⟩) (gc_preS hK hP hD hS hA hE rfl) rfl rfl hl.1 rfl (lv_room (Nat.le_of_ble_eq_true rfl)) dX2_order_10 ⟨by decide, by decide⟩) hP hD hS hA rfl (fun v7 sp8 sg9 H locs hp10 ha11 hb12 hP hD hS => ?_) (fun E9 x9 ce9 sp8 sg9 H locs hp10 hc1 hc2 hc3 ha11 hb12 hP hD hS => ?_)
    · obtain ⟨rfl, ha2⟩ := hp10
      rw [show sg9 = sg0 from funext (fun k => hb12 k (by simp))] at hP hD
      refine W.eq (g2 := F0 m 13 ls []) rfl ?_
      refine lv_iload_n hx hb dX2_order_13 rfl (lv_at hl 3 rfl) ?_
      refine lv_iload_n hx hb dX2_order_14 rfl (lv_at hl 2 rfl) ?_
      refine lv_sipush (v := (nI 1000)) hx hb dX2_order_15 (by decide) ?_
      refine gc_goB (pl := []) (S2 := SE) (ad := ad) (sg := sg0) (vx_runS (As := [.int x3, .int x2, .int (nI 1000)]) (rest := []) ⟨hx, hb, hml, hown, hts⟩ (m_X2_needRange l hl9 D cI cJ (fun j => ad (gw_p [] j)) (fun j => sg0 (gw_p [] j)) _ x3 x2 (nI 1000) ) (cwS 3 hts (gwS a12 a13 a10 a14) rfl rfl rfl (by decide +kernel) ⟨by decide, by decide⟩) (gc_preS hK hP hD hS hA hE rfl) rfl rfl hl.1 rfl (lv_room (Nat.le_of_ble_eq_true rfl)) dX2_order_18 ⟨by decide, by decide⟩) hP hD hS hA rfl (fun v13 sp14 sg15 H locs hp16 ha17 hb18 hP hD hS => ?_) (fun E9 x9 ce9 sp14 sg15 H locs hp16 hc1 hc2 hc3 ha17 hb18 hP hD hS => ?_)
      · obtain ⟨rfl, ha3⟩ := hp16
        rw [show sg15 = sg0 from funext (fun k => hb18 k (by simp))] at hP hD
        refine W.eq (g2 := F0 m 21 ls []) rfl ?_
        refine lv_iload hx hb dX2_order_21 (lv_at hl 4 rfl) ?_
        refine lv_iconst (v := (nI 0)) hx hb dX2_order_23 (by decide) ?_
        refine lv_sipush (v := (nI 1000)) hx hb dX2_order_24 (by decide) ?_
        refine gc_goB (pl := []) (S2 := SE) (ad := ad) (sg := sg0) (vx_runS (As := [.int x4, .int (nI 0), .int (nI 1000)]) (rest := []) ⟨hx, hb, hml, hown, hts⟩ (m_X2_needRange l hl9 D cI cJ (fun j => ad (gw_p [] j)) (fun j => sg0 (gw_p [] j)) _ x4 (nI 0) (nI 1000) ) (cwS 3 hts (gwS a12 a13 a10 a14) rfl rfl rfl (by decide +kernel) ⟨by decide, by decide⟩) (gc_preS hK hP hD hS hA hE rfl) rfl rfl hl.1 rfl (lv_room (Nat.le_of_ble_eq_true rfl)) dX2_order_27 ⟨by decide, by decide⟩) hP hD hS hA rfl (fun v19 sp20 sg21 H locs hp22 ha23 hb24 hP hD hS => ?_) (fun E9 x9 ce9 sp20 sg21 H locs hp22 hc1 hc2 hc3 ha23 hb24 hP hD hS => ?_)
        · obtain ⟨rfl, ha4⟩ := hp22
          rw [show sg21 = sg0 from funext (fun k => hb24 k (by simp))] at hP hD
          refine W.eq (g2 := F0 m 30 ls []) rfl ?_
          have hk9 : kOrder x1 x2 x3 x4 = nI 0 := by simp [kOrder, kif, ix4.mp ha1, ha2, ha3, ha4]
          obtain ⟨j1, hj1, rfl⟩ := ixof4 ha1
          refine lv_aload_n hx hb dX2_order_30 rfl (lv_at hl 0 rfl) ?_
          refine gw_getr (C := RX2) (T := TX2) (N := 6) hx hb hts inwX2 hown hK hP 0 0 1 rfl rfl rfl (by decide) (hts _ a16) (fun _ h9 => h9) dX2_order_31 ?_
          refine gw_getrN (C := RX1) (T := TX1) (N := 12) hx hb hts inwX1 hown hK hP 1 5 9 rfl rfl rfl (by decide) (hE.nest _ (.fieldLinkNest RX2 68 RX1 "least" "[I" RX2) (by decide +kernel) rfl) (fun _ h9 => h9) dX2_order_34 ?_
          refine lv_iload_n hx hb dX2_order_37 rfl (lv_at hl 1 rfl) ?_
          refine lv_iload_n hx hb dX2_order_38 rfl (lv_at hl 2 rfl) ?_
          refine gw_ast hx hb hK hP hD hS 9 0 (n := 4) rfl rfl (i := j1) (by omega) (by decide) dX2_order_39 (fun H locs hP hD hS => ?_)
          obtain ⟨sg25, esg25⟩ : ∃ z : Nat → Nat → Int32, z = gw_u sg0 9 (upd (sg0 9) j1 x2) := ⟨_, rfl⟩
          rw [← esg25] at hP hD
          refine lv_aload_n hx hb dX2_order_40 rfl (lv_at hl 0 rfl) ?_
          refine gw_getr (C := RX2) (T := TX2) (N := 6) hx hb hts inwX2 hown hK hP 0 0 1 rfl rfl rfl (by decide) (hts _ a16) (fun _ h9 => h9) dX2_order_41 ?_
          refine gw_getrN (C := RX1) (T := TX1) (N := 12) hx hb hts inwX1 hown hK hP 1 6 10 rfl rfl rfl (by decide) (hE.nest _ (.fieldLinkNest RX2 71 RX1 "most" "[I" RX2) (by decide +kernel) rfl) (fun _ h9 => h9) dX2_order_44 ?_
          refine lv_iload_n hx hb dX2_order_47 rfl (lv_at hl 1 rfl) ?_
          refine lv_iload_n hx hb dX2_order_48 rfl (lv_at hl 3 rfl) ?_
          refine gw_ast hx hb hK hP hD hS 10 0 (n := 4) rfl rfl (i := j1) (by omega) (by decide) dX2_order_49 (fun H locs hP hD hS => ?_)
          obtain ⟨sg26, esg26⟩ : ∃ z : Nat → Nat → Int32, z = gw_u sg25 10 (upd (sg25 10) j1 x3) := ⟨_, rfl⟩
          rw [← esg26] at hP hD
          refine lv_aload_n hx hb dX2_order_50 rfl (lv_at hl 0 rfl) ?_
          refine gw_getr (C := RX2) (T := TX2) (N := 6) hx hb hts inwX2 hown hK hP 0 0 1 rfl rfl rfl (by decide) (hts _ a16) (fun _ h9 => h9) dX2_order_51 ?_
          refine gw_getrN (C := RX1) (T := TX1) (N := 12) hx hb hts inwX1 hown hK hP 1 7 11 rfl rfl rfl (by decide) (hE.nest _ (.fieldLinkNest RX2 74 RX1 "worth" "[I" RX2) (by decide +kernel) rfl) (fun _ h9 => h9) dX2_order_54 ?_
          refine lv_iload_n hx hb dX2_order_57 rfl (lv_at hl 1 rfl) ?_
          refine lv_iload hx hb dX2_order_58 (lv_at hl 4 rfl) ?_
          refine gw_ast hx hb hK hP hD hS 11 0 (n := 4) rfl rfl (i := j1) (by omega) (by decide) dX2_order_60 (fun H locs hP hD hS => ?_)
          obtain ⟨sg27, esg27⟩ : ∃ z : Nat → Nat → Int32, z = gw_u sg26 11 (upd (sg26 11) j1 x4) := ⟨_, rfl⟩
          rw [← esg27] at hP hD
          refine lv_aload_n hx hb dX2_order_61 rfl (lv_at hl 0 rfl) ?_
          refine gc_go0 (va_runV (As := []) (rest := []) ⟨hx, hb, hml, hown, hts⟩ (m_X2_forgetSearch l hl9 D cI cJ ad sg27 _  ) (cwV 0 hts (gwV a17 a18 a19 a10 a20) rfl rfl rfl (by decide +kernel) ⟨by decide, by decide⟩) (gc_preV0 hK hP hD hS hA hE rfl rfl rfl) rfl rfl hl.1 rfl (lv_room (Nat.le_of_ble_eq_true rfl)) dX2_order_62 ⟨by decide, by decide⟩) hD hS hA (fun v28 sg30 H locs hp31 hP hD hS => ?_)
          obtain rfl := hp31
          refine W.eq (g2 := F0 m 65 ls []) rfl ?_
          exact hret _ _ _ _ _ hP hS dX2_order_65 (⟨rfl, hk9⟩)
        · obtain ⟨rfl, hq⟩ := hp22
          exact kt _ _ _ _ _ _ _ _ _ _ _ (Or.inr ⟨rfl, by simp [kOrder, kif, ix4.mp ha1, ha2, ha3, hq]⟩) hc1 hc2 hc3 hP hS (by decide) (by decide)
      · obtain ⟨rfl, hq⟩ := hp16
        exact kt _ _ _ _ _ _ _ _ _ _ _ (Or.inr ⟨rfl, by simp [kOrder, kif, ix4.mp ha1, ha2, hq]⟩) hc1 hc2 hc3 hP hS (by decide) (by decide)
    · obtain ⟨rfl, hq⟩ := hp10
      exact kt _ _ _ _ _ _ _ _ _ _ _ (Or.inr ⟨rfl, by simp [kOrder, kif, ix4.mp ha1, hq]⟩) hc1 hc2 hc3 hP hS (by decide) (by decide)
  · obtain ⟨rfl, hq⟩ := hp4
    exact kt _ _ _ _ _ _ _ _ _ _ _ (Or.inl ⟨rfl, by simp [kOrder, kif, (not_congr ix4).mp hq]⟩) hc1 hc2 hc3 hP hS (by decide) (by decide)
abbrev rmX2_hours : Room := { frames := 7, cells := 2, slots := 12, locals := 104 }
set_option maxRecDepth 100000 in
set_option maxHeartbeats 4000000 in
theorem m_X2_hours (l : Launch) (hl9 : l.stackTraces = false) (D : va_G) (cI : ClassId) (cJ : ClassId × ClassId) (ad : Nat → Nat) (sg0 : Nat → Nat → Int32) (sz : Nat) (x1 : Int32) (x2 : Int32) : gc_B l yX2_hours wsX2_hours rmX2_hours D vwCl (tyS cI cJ) cI cJ gxT gxN SC [.ref (ad 0), .int x1, .int x2] ad sg0 sz 2 12 (fun v sg2 => v = none ∧ kHours x1 x2 = nI 0) (fun E sg2 => E = "java/lang/IllegalArgumentException" ∧ kHours x1 x2 = nI 1) := by
  refine gc_Bv_of (cc := cX2_hours) (maxL := 3) (by decide) rfl (Nat.le_of_ble_eq_true rfl) ?_
  intro p e s m below meth c A ls Q hin hE hret kt kx
  obtain ⟨⟨hx, hb, hml, hown, hts⟩, -, hlocks, -, hA, hP, hK, hD, hS, hl⟩ := hin
  have hts : ∀ w ∈ wsAll, w.before ([.ref (ad 0), .int x1, .int x2] : List Value).toArray s = true := fun w h => hts w (List.mem_cons_of_mem _ h)
  have hl : lv_has ls 3 [(0, .ref (ad 0)), (1, .int x1), (2, .int x2)] := hl
  refine lv_iload_n hx hb dX2_hours_0 rfl (lv_at hl 1 rfl) ?_
  refine lv_iconst (v := (nI 0)) hx hb dX2_hours_1 (by decide) ?_
  refine lv_sipush (v := (nI 1440)) hx hb dX2_hours_2 (by decide) ?_
  refine gc_goB (pl := []) (S2 := SE) (ad := ad) (sg := sg0) (vx_runS (As := [.int x1, .int (nI 0), .int (nI 1440)]) (rest := []) ⟨hx, hb, hml, hown, hts⟩ (m_X2_needRange l hl9 D cI cJ (fun j => ad (gw_p [] j)) (fun j => sg0 (gw_p [] j)) _ x1 (nI 0) (nI 1440) ) (cwS 3 hts (gwS a12 a13 a10 a14) rfl rfl rfl (by decide +kernel) ⟨by decide, by decide⟩) (gc_preS hK hP hD hS hA hE rfl) rfl rfl hl.1 rfl (lv_room (Nat.le_of_ble_eq_true rfl)) dX2_hours_5 ⟨by decide, by decide⟩) hP hD hS hA rfl (fun v1 sp2 sg3 H locs hp4 ha5 hb6 hP hD hS => ?_) (fun E9 x9 ce9 sp2 sg3 H locs hp4 hc1 hc2 hc3 ha5 hb6 hP hD hS => ?_)
  · obtain ⟨rfl, ha1⟩ := hp4
    rw [show sg3 = sg0 from funext (fun k => hb6 k (by simp))] at hP hD
    refine W.eq (g2 := F0 m 8 ls []) rfl ?_
    refine lv_iload_n hx hb dX2_hours_8 rfl (lv_at hl 2 rfl) ?_
    refine lv_iconst (v := (nI 0)) hx hb dX2_hours_9 (by decide) ?_
    refine lv_sipush (v := (nI 1440)) hx hb dX2_hours_10 (by decide) ?_
    refine gc_goB (pl := []) (S2 := SE) (ad := ad) (sg := sg0) (vx_runS (As := [.int x2, .int (nI 0), .int (nI 1440)]) (rest := []) ⟨hx, hb, hml, hown, hts⟩ (m_X2_needRange l hl9 D cI cJ (fun j => ad (gw_p [] j)) (fun j => sg0 (gw_p [] j)) _ x2 (nI 0) (nI 1440) ) (cwS 3 hts (gwS a12 a13 a10 a14) rfl rfl rfl (by decide +kernel) ⟨by decide, by decide⟩) (gc_preS hK hP hD hS hA hE rfl) rfl rfl hl.1 rfl (lv_room (Nat.le_of_ble_eq_true rfl)) dX2_hours_13 ⟨by decide, by decide⟩) hP hD hS hA rfl (fun v7 sp8 sg9 H locs hp10 ha11 hb12 hP hD hS => ?_) (fun E9 x9 ce9 sp8 sg9 H locs hp10 hc1 hc2 hc3 ha11 hb12 hP hD hS => ?_)
    · obtain ⟨rfl, ha2⟩ := hp10
      rw [show sg9 = sg0 from funext (fun k => hb12 k (by simp))] at hP hD
      refine W.eq (g2 := F0 m 16 ls []) rfl ?_
      refine lv_aload_n hx hb dX2_hours_16 rfl (lv_at hl 0 rfl) ?_
      refine gw_getr (C := RX2) (T := TX2) (N := 6) hx hb hts inwX2 hown hK hP 0 0 1 rfl rfl rfl (by decide) (hts _ a16) (fun _ h9 => h9) dX2_hours_17 ?_
      refine lv_iload_n hx hb dX2_hours_20 rfl (lv_at hl 1 rfl) ?_
      refine gw_putN (C := RX1) (T := TX1) (N := 12) (ty := .int) hx hb hts inwX1 tyX1 tyX1_ok nmX1 hown hK hP hD hS 1 10 rfl rfl rfl (by decide) (hE.nest _ (.fieldLinkNest RX2 77 RX1 "minutesADay" "I" RX2) (by decide +kernel) rfl) (fun _ h9 => h9) rfl (by decide +kernel) rfl rfl dX2_hours_21 (fun H locs hP hD hS => ?_)
      obtain ⟨sg13, esg13⟩ : ∃ z : Nat → Nat → Int32, z = gw_u sg0 1 (upd (sg0 1) 10 x1) := ⟨_, rfl⟩
      rw [← esg13] at hP hD
      refine lv_aload_n hx hb dX2_hours_24 rfl (lv_at hl 0 rfl) ?_
      refine gw_getr (C := RX2) (T := TX2) (N := 6) hx hb hts inwX2 hown hK hP 0 0 1 rfl rfl rfl (by decide) (hts _ a16) (fun _ h9 => h9) dX2_hours_25 ?_
      refine lv_iload_n hx hb dX2_hours_28 rfl (lv_at hl 2 rfl) ?_
      refine gw_putN (C := RX1) (T := TX1) (N := 12) (ty := .int) hx hb hts inwX1 tyX1 tyX1_ok nmX1 hown hK hP hD hS 1 11 rfl rfl rfl (by decide) (hE.nest _ (.fieldLinkNest RX2 80 RX1 "change" "I" RX2) (by decide +kernel) rfl) (fun _ h9 => h9) rfl (by decide +kernel) rfl rfl dX2_hours_29 (fun H locs hP hD hS => ?_)
      obtain ⟨sg14, esg14⟩ : ∃ z : Nat → Nat → Int32, z = gw_u sg13 1 (upd (sg13 1) 11 x2) := ⟨_, rfl⟩
      rw [← esg14] at hP hD
      refine lv_aload_n hx hb dX2_hours_32 rfl (lv_at hl 0 rfl) ?_
      refine gc_go0 (va_runV (As := []) (rest := []) ⟨hx, hb, hml, hown, hts⟩ (m_X2_forgetSearch l hl9 D cI cJ ad sg14 _  ) (cwV 0 hts (gwV a17 a18 a19 a10 a20) rfl rfl rfl (by decide +kernel) ⟨by decide, by decide⟩) (gc_preV0 hK hP hD hS hA hE rfl rfl rfl) rfl rfl hl.1 rfl (lv_room (Nat.le_of_ble_eq_true rfl)) dX2_hours_33 ⟨by decide, by decide⟩) hD hS hA (fun v15 sg17 H locs hp18 hP hD hS => ?_)
      obtain rfl := hp18
      refine W.eq (g2 := F0 m 36 ls []) rfl ?_
      exact hret _ _ _ _ _ hP hS dX2_hours_36 (⟨rfl, by simp [kHours, kif, ha1, ha2]⟩)
    · obtain ⟨rfl, hq⟩ := hp10
      exact kt _ _ _ _ _ _ _ _ _ _ _ (⟨rfl, by simp [kHours, kif, ha1, hq]⟩) hc1 hc2 hc3 hP hS (by decide) (by decide)
  · obtain ⟨rfl, hq⟩ := hp4
    exact kt _ _ _ _ _ _ _ _ _ _ _ (⟨rfl, by simp [kHours, kif, hq]⟩) hc1 hc2 hc3 hP hS (by decide) (by decide)
