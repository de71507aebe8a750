abbrev rmX2_search : Room := { frames := 7, cells := 2, slots := 12, locals := 103 }
set_option maxRecDepth 100000 in
set_option maxHeartbeats 4000000 in
theorem m_X2_search (l : Launch) (hl9 : l.stackTraces = false) (D : va_G) (cI : ClassId) (cJ : ClassId × ClassId) (ad : Nat → Nat) (sg0 : Nat → Nat → Int32) (sz : Nat) (x1 : Int32) (hF : ∀ k j : Nat, k < 33 → sg0 k j = fr k j) : gc_B l yX2_search wsX2_search rmX2_search D vwCl (tyS cI cJ) cI cJ gxT gxN SC [.ref (ad 0), .int x1] ad sg0 sz 2 12 (fun v sg2 => False) (fun E sg2 => (E = "java/lang/IndexOutOfBoundsException" ∧ kSearch x1 = nI 1) ∨ (E = "java/lang/IllegalStateException" ∧ kSearch x1 = nI 2)) := by
  refine gc_Bi_of (cc := cX2_search) (maxL := 2) (by decide) rfl (Nat.le_of_ble_eq_true rfl) ?_
  intro p e s m below meth c A ls Q hin hE hret kt kx
  obtain ⟨⟨hx, hb, hml, hown, hts⟩, -, hlocks, -, hA, hP, hK, hD, hS, hl⟩ := hin
  have hts : ∀ w ∈ wsAll, w.before ([.ref (ad 0), .int x1] : List Value).toArray s = true := fun w h => hts w (List.mem_cons_of_mem _ h)
  have hl : lv_has ls 2 [(0, .ref (ad 0)), (1, .int x1)] := hl
  refine lv_iload_n hx hb dX2_search_0 rfl (lv_at hl 1 rfl) ?_
  refine lv_iconst (v := (nI 4)) hx hb dX2_search_1 (by decide) ?_
  refine gc_goB (pl := []) (S2 := SE) (ad := ad) (sg := sg0) (vx_runS (As := [.int x1, .int (nI 4)]) (rest := []) ⟨hx, hb, hml, hown, hts⟩ (m_X2_needIndex l hl9 D cI cJ (fun j => ad (gw_p [] j)) (fun j => sg0 (gw_p [] j)) _ x1 (nI 4) ) (cwS 2 hts (gwS a8 a9 a10 a11) rfl rfl rfl (by decide +kernel) ⟨by decide, by decide⟩) (gc_preS hK hP hD hS hA hE rfl) rfl rfl hl.1 rfl (lv_room (Nat.le_of_ble_eq_true rfl)) dX2_search_2 ⟨by decide, by decide⟩) hP hD hS hA rfl (fun v1 sp2 sg3 H locs hp4 ha5 hb6 hP hD hS => ?_) (fun E9 x9 ce9 sp2 sg3 H locs hp4 hc1 hc2 hc3 ha5 hb6 hP hD hS => ?_)
  · obtain ⟨rfl, ha1⟩ := hp4
    rw [show sg3 = sg0 from funext (fun k => hb6 k (by simp))] at hP hD
    refine W.eq (g2 := F0 m 5 ls []) rfl ?_
    refine lv_aload_n hx hb dX2_search_5 rfl (lv_at hl 0 rfl) ?_
    refine gw_geti (C := RX2) (T := TX2) (N := 6) hx hb hts inwX2 hown hK hP 0 3 rfl rfl rfl (by decide) (hts _ a6) (fun _ h9 => h9) dX2_search_6 ?_
    refine gw_top (y := (nI 0)) ((hF 0 3 (by decide)).trans (by decide)) ?_
    refine lv_if_ne (tgt := 22) hx hb dX2_search_9 (by decide) (fun hc7 => ?_) (fun hc7 => ?_)
    · exact absurd hc7 (by decide)
    · obtain ⟨sa9, hstr⟩ := hE.2.2.1 (RX2, 96, "there was no search since something was told") (by decide)
      exact kx "java/lang/IllegalStateException" "there was no search since something was told" ["java/lang/RuntimeException", "java/lang/Exception"] 51 96 55 sa9 _ _ _ _ _ 12 ls hl9 (by decide) (by decide) (hts _ a4) (hts _ a5) hstr (vx_hat (B := .castable "java/lang/IllegalStateException" "java/lang/IllegalStateException" :: vxD) (fun w hw => hts w (vxg_55 w hw)) vxb_55 (vx_c (hE.nest _ (.castable "java/lang/IllegalStateException" "java/lang/IllegalStateException") (by decide) rfl) (fun w hw => hE.nest _ w (vxDN w hw) (vxDT w hw)))) (by decide +kernel) (hl.1.trans hml.symm) dX2_search_12 dX2_search_15 dX2_search_16 dX2_search_18 dX2_search_21 (by decide) (by decide) (by decide) (by decide) (by decide) (by decide) (Or.inr ⟨rfl, by simp [kSearch, kif, ix4.mp ha1]⟩) hP hS
  · obtain ⟨rfl, hq⟩ := hp4
    exact kt _ _ _ _ _ _ _ _ _ _ _ (Or.inl ⟨rfl, by simp [kSearch, kif, (not_congr ix4).mp hq]⟩) hc1 hc2 hc3 hP hS (by decide) (by decide)
abbrev rmX2_used : Room := { frames := 7, cells := 1, slots := 6, locals := 103 }
set_option maxRecDepth 100000 in
set_option maxHeartbeats 4000000 in
theorem m_X2_used (l : Launch) (hl9 : l.stackTraces = false) (D : va_G) (cI : ClassId) (cJ : ClassId × ClassId) (ad : Nat → Nat) (sg0 : Nat → Nat → Int32) (sz : Nat) (x1 : Int32) (hF : ∀ k j : Nat, k < 33 → sg0 k j = fr k j) : gc_B l yX2_used wsX2_used rmX2_used D vwCl (tyS cI cJ) cI cJ gxT gxN SC [.ref (ad 0), .int x1] ad sg0 sz 1 6 (fun v sg2 => False) (fun E sg2 => E = "java/lang/IndexOutOfBoundsException") := by
  refine gc_Bi_of (cc := cX2_used) (maxL := 2) (by decide) rfl (Nat.le_of_ble_eq_true rfl) ?_
  intro p e s m below meth c A ls Q hin hE hret kt kx
  obtain ⟨⟨hx, hb, hml, hown, hts⟩, -, hlocks, -, hA, hP, hK, hD, hS, hl⟩ := hin
  have hts : ∀ w ∈ wsAll, w.before ([.ref (ad 0), .int x1] : List Value).toArray s = true := fun w h => hts w (List.mem_cons_of_mem _ h)
  have hl : lv_has ls 2 [(0, .ref (ad 0)), (1, .int x1)] := hl
  refine lv_iload_n hx hb dX2_used_0 rfl (lv_at hl 1 rfl) ?_
  refine lv_aload_n hx hb dX2_used_1 rfl (lv_at hl 0 rfl) ?_
  refine gw_getr (C := RX2) (T := TX2) (N := 6) hx hb hts inwX2 hown hK hP 0 0 1 rfl rfl rfl (by decide) (hts _ a16) (fun _ h9 => h9) dX2_used_2 ?_
  refine gw_getiN (C := RX1) (T := TX1) (N := 12) hx hb hts inwX1 hown hK hP 1 9 rfl rfl rfl (by decide) (hE.nest _ (.fieldLinkNest RX2 47 RX1 "patterns" "I" RX2) (by decide +kernel) rfl) (fun _ h9 => h9) dX2_used_5 ?_
  refine gw_top (y := (nI 0)) ((hF 1 9 (by decide)).trans (by decide)) ?_
  refine gc_goB (pl := []) (S2 := SE) (ad := ad) (sg := sg0) (vx_runS (As := [.int x1, .int (nI 0)]) (rest := []) ⟨hx, hb, hml, hown, hts⟩ (m_X2_needIndex l hl9 D cI cJ (fun j => ad (gw_p [] j)) (fun j => sg0 (gw_p [] j)) _ x1 (nI 0) ) (cwS 2 hts (gwS a8 a9 a10 a11) rfl rfl rfl (by decide +kernel) ⟨by decide, by decide⟩) (gc_preS hK hP hD hS hA hE rfl) rfl rfl hl.1 rfl (lv_room (Nat.le_of_ble_eq_true rfl)) dX2_used_8 ⟨by decide, by decide⟩) hP hD hS hA rfl (fun v1 sp2 sg3 H locs hp4 ha5 hb6 hP hD hS => ?_) (fun E9 x9 ce9 sp2 sg3 H locs hp4 hc1 hc2 hc3 ha5 hb6 hP hD hS => ?_)
  · exact absurd hp4.2 ix0
  · obtain ⟨rfl, hq⟩ := hp4
    exact kt _ _ _ _ _ _ _ _ _ _ _ rfl hc1 hc2 hc3 hP hS (by decide) (by decide)
abbrev rmX2_best : Room := { frames := 7, cells := 2, slots := 12, locals := 103 }
set_option maxRecDepth 100000 in
set_option maxHeartbeats 4000000 in
theorem m_X2_best (l : Launch) (hl9 : l.stackTraces = false) (D : va_G) (cI : ClassId) (cJ : ClassId × ClassId) (ad : Nat → Nat) (sg0 : Nat → Nat → Int32) (sz : Nat) (x1 : Int32) (hF : ∀ k j : Nat, k < 33 → sg0 k j = fr k j) : gc_B l yX2_best wsX2_best rmX2_best D vwCl (tyS cI cJ) cI cJ gxT gxN SC [.ref (ad 0), .int x1] ad sg0 sz 2 12 (fun v sg2 => False) (fun E sg2 => (E = "java/lang/IndexOutOfBoundsException" ∧ kBest x1 = nI 1) ∨ (E = "java/lang/IllegalStateException" ∧ kBest x1 = nI 2)) := by
  refine gc_Bi_of (cc := cX2_best) (maxL := 2) (by decide) rfl (Nat.le_of_ble_eq_true rfl) ?_
  intro p e s m below meth c A ls Q hin hE hret kt kx
  obtain ⟨⟨hx, hb, hml, hown, hts⟩, -, hlocks, -, hA, hP, hK, hD, hS, hl⟩ := hin
  have hts : ∀ w ∈ wsAll, w.before ([.ref (ad 0), .int x1] : List Value).toArray s = true := fun w h => hts w (List.mem_cons_of_mem _ h)
  have hl : lv_has ls 2 [(0, .ref (ad 0)), (1, .int x1)] := hl
  refine lv_iload_n hx hb dX2_best_0 rfl (lv_at hl 1 rfl) ?_
  refine lv_iconst (v := (nI 3)) hx hb dX2_best_1 (by decide) ?_
  refine gc_goB (pl := []) (S2 := SE) (ad := ad) (sg := sg0) (vx_runS (As := [.int x1, .int (nI 3)]) (rest := []) ⟨hx, hb, hml, hown, hts⟩ (m_X2_needIndex l hl9 D cI cJ (fun j => ad (gw_p [] j)) (fun j => sg0 (gw_p [] j)) _ x1 (nI 3) ) (cwS 2 hts (gwS a8 a9 a10 a11) rfl rfl rfl (by decide +kernel) ⟨by decide, by decide⟩) (gc_preS hK hP hD hS hA hE rfl) rfl rfl hl.1 rfl (lv_room (Nat.le_of_ble_eq_true rfl)) dX2_best_2 ⟨by decide, by decide⟩) hP hD hS hA rfl (fun v1 sp2 sg3 H locs hp4 ha5 hb6 hP hD hS => ?_) (fun E9 x9 ce9 sp2 sg3 H locs hp4 hc1 hc2 hc3 ha5 hb6 hP hD hS => ?_)
  · obtain ⟨rfl, ha1⟩ := hp4
    rw [show sg3 = sg0 from funext (fun k => hb6 k (by simp))] at hP hD
    refine W.eq (g2 := F0 m 5 ls []) rfl ?_
    refine lv_aload_n hx hb dX2_best_5 rfl (lv_at hl 0 rfl) ?_
    refine gw_getr (C := RX2) (T := TX2) (N := 6) hx hb hts inwX2 hown hK hP 0 1 2 rfl rfl rfl (by decide) (hts _ a7) (fun _ h9 => h9) dX2_best_6 ?_
    refine gc_goB (pl := [2, 19, 20, 21, 22, 23, 24, 25, 1, 4, 5, 6, 7, 8, 9, 10, 11, 12, 13, 14, 15, 16, 17, 18]) (S2 := SS) (ad := ad) (sg := sg0) (vx_runS (As := [.ref (ad 2)]) (rest := []) ⟨hx, hb, hml, hown, hts⟩ (m_X2_needBest l hl9 D cI cJ (fun j => ad (gw_p [2, 19, 20, 21, 22, 23, 24, 25, 1, 4, 5, 6, 7, 8, 9, 10, 11, 12, 13, 14, 15, 16, 17, 18] j)) (fun j => sg0 (gw_p [2, 19, 20, 21, 22, 23, 24, 25, 1, 4, 5, 6, 7, 8, 9, 10, 11, 12, 13, 14, 15, 16, 17, 18] j)) _  ) (cwS 1 hts (gwS a69 a70 a10 a71) rfl rfl rfl (by decide +kernel) ⟨by decide, by decide⟩) (gc_preS hK hP hD hS hA hE rfl) rfl rfl hl.1 rfl (lv_room (Nat.le_of_ble_eq_true rfl)) dX2_best_9 ⟨by decide, by decide⟩) hP hD hS hA rfl (fun v7 sp8 sg9 H locs hp10 ha11 hb12 hP hD hS => ?_) (fun E9 x9 ce9 sp8 sg9 H locs hp10 hc1 hc2 hc3 ha11 hb12 hP hD hS => ?_)
    · exact absurd ((hF 2 12 (by decide)).trans (by decide)) hp10.2.2
    · obtain ⟨rfl, hq1, hq2⟩ := hp10
      exact kt _ _ _ _ _ _ _ _ _ _ _ (Or.inr ⟨rfl, by simp [kBest, kif, ix3.mp ha1]⟩) hc1 hc2 hc3 hP hS (by decide) (by decide)
  · obtain ⟨rfl, hq⟩ := hp4
    exact kt _ _ _ _ _ _ _ _ _ _ _ (Or.inl ⟨rfl, by simp [kBest, kif, (not_congr ix3).mp hq]⟩) hc1 hc2 hc3 hP hS (by decide) (by decide)
abbrev rmX2_made : Room := { frames := 7, cells := 2, slots := 12, locals := 103 }
set_option maxRecDepth 100000 in
set_option maxHeartbeats 4000000 in
theorem m_X2_made (l : Launch) (hl9 : l.stackTraces = false) (D : va_G) (cI : ClassId) (cJ : ClassId × ClassId) (ad : Nat → Nat) (sg0 : Nat → Nat → Int32) (sz : Nat) (x1 : Int32) (hF : ∀ k j : Nat, k < 33 → sg0 k j = fr k j) : gc_B l yX2_made wsX2_made rmX2_made D vwCl (tyS cI cJ) cI cJ gxT gxN SC [.ref (ad 0), .int x1] ad sg0 sz 2 12 (fun v sg2 => False) (fun E sg2 => (E = "java/lang/IndexOutOfBoundsException" ∧ kMade x1 = nI 1) ∨ (E = "java/lang/IllegalStateException" ∧ kMade x1 = nI 2)) := by
  refine gc_Bi_of (cc := cX2_made) (maxL := 2) (by decide) rfl (Nat.le_of_ble_eq_true rfl) ?_
  intro p e s m below meth c A ls Q hin hE hret kt kx
  obtain ⟨⟨hx, hb, hml, hown, hts⟩, -, hlocks, -, hA, hP, hK, hD, hS, hl⟩ := hin
  have hts : ∀ w ∈ wsAll, w.before ([.ref (ad 0), .int x1] : List Value).toArray s = true := fun w h => hts w (List.mem_cons_of_mem _ h)
  have hl : lv_has ls 2 [(0, .ref (ad 0)), (1, .int x1)] := hl
  refine lv_iload_n hx hb dX2_made_0 rfl (lv_at hl 1 rfl) ?_
  refine lv_iconst (v := (nI 4)) hx hb dX2_made_1 (by decide) ?_
  refine gc_goB (pl := []) (S2 := SE) (ad := ad) (sg := sg0) (vx_runS (As := [.int x1, .int (nI 4)]) (rest := []) ⟨hx, hb, hml, hown, hts⟩ (m_X2_needIndex l hl9 D cI cJ (fun j => ad (gw_p [] j)) (fun j => sg0 (gw_p [] j)) _ x1 (nI 4) ) (cwS 2 hts (gwS a8 a9 a10 a11) rfl rfl rfl (by decide +kernel) ⟨by decide, by decide⟩) (gc_preS hK hP hD hS hA hE rfl) rfl rfl hl.1 rfl (lv_room (Nat.le_of_ble_eq_true rfl)) dX2_made_2 ⟨by decide, by decide⟩) hP hD hS hA rfl (fun v1 sp2 sg3 H locs hp4 ha5 hb6 hP hD hS => ?_) (fun E9 x9 ce9 sp2 sg3 H locs hp4 hc1 hc2 hc3 ha5 hb6 hP hD hS => ?_)
  · obtain ⟨rfl, ha1⟩ := hp4
    rw [show sg3 = sg0 from funext (fun k => hb6 k (by simp))] at hP hD
    refine W.eq (g2 := F0 m 5 ls []) rfl ?_
    refine lv_aload_n hx hb dX2_made_5 rfl (lv_at hl 0 rfl) ?_
    refine gw_getr (C := RX2) (T := TX2) (N := 6) hx hb hts inwX2 hown hK hP 0 1 2 rfl rfl rfl (by decide) (hts _ a7) (fun _ h9 => h9) dX2_made_6 ?_
    refine gc_goB (pl := [2, 19, 20, 21, 22, 23, 24, 25, 1, 4, 5, 6, 7, 8, 9, 10, 11, 12, 13, 14, 15, 16, 17, 18]) (S2 := SS) (ad := ad) (sg := sg0) (vx_runS (As := [.ref (ad 2)]) (rest := []) ⟨hx, hb, hml, hown, hts⟩ (m_X2_needBest l hl9 D cI cJ (fun j => ad (gw_p [2, 19, 20, 21, 22, 23, 24, 25, 1, 4, 5, 6, 7, 8, 9, 10, 11, 12, 13, 14, 15, 16, 17, 18] j)) (fun j => sg0 (gw_p [2, 19, 20, 21, 22, 23, 24, 25, 1, 4, 5, 6, 7, 8, 9, 10, 11, 12, 13, 14, 15, 16, 17, 18] j)) _  ) (cwS 1 hts (gwS a69 a70 a10 a71) rfl rfl rfl (by decide +kernel) ⟨by decide, by decide⟩) (gc_preS hK hP hD hS hA hE rfl) rfl rfl hl.1 rfl (lv_room (Nat.le_of_ble_eq_true rfl)) dX2_made_9 ⟨by decide, by decide⟩) hP hD hS hA rfl (fun v7 sp8 sg9 H locs hp10 ha11 hb12 hP hD hS => ?_) (fun E9 x9 ce9 sp8 sg9 H locs hp10 hc1 hc2 hc3 ha11 hb12 hP hD hS => ?_)
    · exact absurd ((hF 2 12 (by decide)).trans (by decide)) hp10.2.2
    · obtain ⟨rfl, hq1, hq2⟩ := hp10
      exact kt _ _ _ _ _ _ _ _ _ _ _ (Or.inr ⟨rfl, by simp [kMade, kif, ix4.mp ha1]⟩) hc1 hc2 hc3 hP hS (by decide) (by decide)
  · obtain ⟨rfl, hq⟩ := hp4
    exact kt _ _ _ _ _ _ _ _ _ _ _ (Or.inl ⟨rfl, by simp [kMade, kif, (not_congr ix4).mp hq]⟩) hc1 hc2 hc3 hP hS (by decide) (by decide)
abbrev rmX2_saw : Room := { frames := 7, cells := 1, slots := 6, locals := 102 }
set_option maxRecDepth 100000 in
set_option maxHeartbeats 4000000 in
theorem m_X2_saw (l : Launch) (hl9 : l.stackTraces = false) (D : va_G) (cI : ClassId) (cJ : ClassId × ClassId) (ad : Nat → Nat) (sg0 : Nat → Nat → Int32) (sz : Nat) (hF : ∀ k j : Nat, k < 33 → sg0 k j = fr k j) : gc_B l yX2_saw wsX2_saw rmX2_saw D vwCl (tyS cI cJ) cI cJ gxT gxN SC [.ref (ad 0)] ad sg0 sz 1 6 (fun v sg2 => False) (fun E sg2 => E = "java/lang/IllegalStateException") := by
  refine gc_Bi_of (cc := cX2_saw) (maxL := 2) (by decide) rfl (Nat.le_of_ble_eq_true rfl) ?_
  intro p e s m below meth c A ls Q hin hE hret kt kx
  obtain ⟨⟨hx, hb, hml, hown, hts⟩, -, hlocks, -, hA, hP, hK, hD, hS, hl⟩ := hin
  have hts : ∀ w ∈ wsAll, w.before ([.ref (ad 0)] : List Value).toArray s = true := fun w h => hts w (List.mem_cons_of_mem _ h)
  have hl : lv_has ls 2 [(0, .ref (ad 0))] := hl
  refine lv_aload_n hx hb dX2_saw_0 rfl (lv_at hl 0 rfl) ?_
  refine gw_getr (C := RX2) (T := TX2) (N := 6) hx hb hts inwX2 hown hK hP 0 1 2 rfl rfl rfl (by decide) (hts _ a7) (fun _ h9 => h9) dX2_saw_1 ?_
  refine gc_goB (pl := [2, 19, 20, 21, 22, 23, 24, 25, 1, 4, 5, 6, 7, 8, 9, 10, 11, 12, 13, 14, 15, 16, 17, 18]) (S2 := SS) (ad := ad) (sg := sg0) (vx_runS (As := [.ref (ad 2)]) (rest := []) ⟨hx, hb, hml, hown, hts⟩ (m_X2_needBest l hl9 D cI cJ (fun j => ad (gw_p [2, 19, 20, 21, 22, 23, 24, 25, 1, 4, 5, 6, 7, 8, 9, 10, 11, 12, 13, 14, 15, 16, 17, 18] j)) (fun j => sg0 (gw_p [2, 19, 20, 21, 22, 23, 24, 25, 1, 4, 5, 6, 7, 8, 9, 10, 11, 12, 13, 14, 15, 16, 17, 18] j)) _  ) (cwS 1 hts (gwS a69 a70 a10 a71) rfl rfl rfl (by decide +kernel) ⟨by decide, by decide⟩) (gc_preS hK hP hD hS hA hE rfl) rfl rfl hl.1 rfl (lv_room (Nat.le_of_ble_eq_true rfl)) dX2_saw_4 ⟨by decide, by decide⟩) hP hD hS hA rfl (fun v1 sp2 sg3 H locs hp4 ha5 hb6 hP hD hS => ?_) (fun E9 x9 ce9 sp2 sg3 H locs hp4 hc1 hc2 hc3 ha5 hb6 hP hD hS => ?_)
  · exact absurd ((hF 2 12 (by decide)).trans (by decide)) hp4.2.2
  · obtain ⟨rfl, hq1, hq2⟩ := hp4
    exact kt _ _ _ _ _ _ _ _ _ _ _ (rfl) hc1 hc2 hc3 hP hS (by decide) (by decide)
abbrev rmX2_mill : Room := { frames := 7, cells := 1, slots := 6, locals := 103 }
set_option maxRecDepth 100000 in
set_option maxHeartbeats 4000000 in
theorem m_X2_mill (l : Launch) (hl9 : l.stackTraces = false) (D : va_G) (cI : ClassId) (cJ : ClassId × ClassId) (ad : Nat → Nat) (sg0 : Nat → Nat → Int32) (sz : Nat) (x1 : Int32) (hF : ∀ k j : Nat, k < 33 → sg0 k j = fr k j) : gc_B l yX2_mill wsX2_mill rmX2_mill D vwCl (tyS cI cJ) cI cJ gxT gxN SC [.ref (ad 0), .int x1] ad sg0 sz 1 6 (fun v sg2 => v = some (.int (nI 0)) ∧ kMill x1 = nI 0) (fun E sg2 => E = "java/lang/IndexOutOfBoundsException" ∧ kMill x1 = nI 1) := by
  refine gc_Bi_of (cc := cX2_mill) (maxL := 2) (by decide) rfl (Nat.le_of_ble_eq_true rfl) ?_
  intro p e s m below meth c A ls Q hin hE hret kt kx
  obtain ⟨⟨hx, hb, hml, hown, hts⟩, -, hlocks, -, hA, hP, hK, hD, hS, hl⟩ := hin
  have hts : ∀ w ∈ wsAll, w.before ([.ref (ad 0), .int x1] : List Value).toArray s = true := fun w h => hts w (List.mem_cons_of_mem _ h)
  have hl : lv_has ls 2 [(0, .ref (ad 0)), (1, .int x1)] := hl
  refine lv_iload_n hx hb dX2_mill_0 rfl (lv_at hl 1 rfl) ?_
  refine lv_bipush (v := (nI 6)) hx hb dX2_mill_1 (by decide) ?_
  refine gc_goB (pl := []) (S2 := SE) (ad := ad) (sg := sg0) (vx_runS (As := [.int x1, .int (nI 6)]) (rest := []) ⟨hx, hb, hml, hown, hts⟩ (m_X2_needIndex l hl9 D cI cJ (fun j => ad (gw_p [] j)) (fun j => sg0 (gw_p [] j)) _ x1 (nI 6) ) (cwS 2 hts (gwS a8 a9 a10 a11) rfl rfl rfl (by decide +kernel) ⟨by decide, by decide⟩) (gc_preS hK hP hD hS hA hE rfl) rfl rfl hl.1 rfl (lv_room (Nat.le_of_ble_eq_true rfl)) dX2_mill_3 ⟨by decide, by decide⟩) hP hD hS hA rfl (fun v1 sp2 sg3 H locs hp4 ha5 hb6 hP hD hS => ?_) (fun E9 x9 ce9 sp2 sg3 H locs hp4 hc1 hc2 hc3 ha5 hb6 hP hD hS => ?_)
  · obtain ⟨rfl, ha1⟩ := hp4
    rw [show sg3 = sg0 from funext (fun k => hb6 k (by simp))] at hP hD
    refine W.eq (g2 := F0 m 6 ls []) rfl ?_
    have hk9 : kMill x1 = nI 0 := by simp [kMill, kif, ix6.mp ha1]
    obtain ⟨j1, hj1, rfl⟩ := ixof6 ha1
    refine lv_iload_n hx hb dX2_mill_6 rfl (lv_at hl 1 rfl) ?_
    rcases (show j1 = 0 ∨ j1 = 1 ∨ 2 ≤ j1 by omega) with rfl | rfl | hj2
    · refine lv_lookup (tgt := 32) (off := 25) hx hb dX2_mill_7 rfl (by decide) (by decide) ?_
      refine lv_aload_n hx hb dX2_mill_32 rfl (lv_at hl 0 rfl) ?_
      refine gw_geti (C := RX2) (T := TX2) (N := 6) hx hb hts inwX2 hown hK hP 0 4 rfl rfl rfl (by decide) (hts _ a72) (fun _ h9 => h9) dX2_mill_33 ?_
      refine gw_top (y := (nI 0)) ((hF 0 4 (by decide)).trans (by decide)) ?_
      exact hret _ _ _ _ _ _ hP hS dX2_mill_36 (⟨rfl, hk9⟩)
    · refine lv_lookup (tgt := 37) (off := 30) hx hb dX2_mill_7 rfl (by decide) (by decide) ?_
      refine lv_aload_n hx hb dX2_mill_37 rfl (lv_at hl 0 rfl) ?_
      refine gw_geti (C := RX2) (T := TX2) (N := 6) hx hb hts inwX2 hown hK hP 0 5 rfl rfl rfl (by decide) (hts _ a73) (fun _ h9 => h9) dX2_mill_38 ?_
      refine gw_top (y := (nI 0)) ((hF 0 5 (by decide)).trans (by decide)) ?_
      exact hret _ _ _ _ _ _ hP hS dX2_mill_41 (⟨rfl, hk9⟩)
    · refine lv_lookup (tgt := 42) (off := 35) hx hb dX2_mill_7 rfl (mill_off hj1 hj2) (by decide) ?_
      refine lv_aload_n hx hb dX2_mill_42 rfl (lv_at hl 0 rfl) ?_
      refine gw_getr (C := RX2) (T := TX2) (N := 6) hx hb hts inwX2 hown hK hP 0 0 1 rfl rfl rfl (by decide) (hts _ a16) (fun _ h9 => h9) dX2_mill_43 ?_
      refine gw_getrN (C := RX1) (T := TX1) (N := 12) hx hb hts inwX1 hown hK hP 1 8 12 rfl rfl rfl (by decide) (hE.nest _ (.fieldLinkNest RX2 136 RX1 "stock" "[I" RX2) (by decide +kernel) rfl) (fun _ h9 => h9) dX2_mill_46 ?_
      refine lv_iload_n hx hb dX2_mill_49 rfl (lv_at hl 1 rfl) ?_
      refine lv_iconst (v := (nI 2)) hx hb dX2_mill_50 (by decide) ?_
      refine lv_isub hx hb dX2_mill_51 ?_
      refine gw_top (y := (nI (j1 - 2))) (nI_sub hj2) ?_
      refine gw_ald hx hb hK hP 12 0 (n := 4) rfl rfl (i := j1 - 2) (by omega) (by decide) dX2_mill_52 ?_
      refine gw_top (y := (nI 0)) ((hF 12 _ (by decide)).trans rfl) ?_
      exact hret _ _ _ _ _ _ hP hS dX2_mill_53 (⟨rfl, hk9⟩)
  · obtain ⟨rfl, hq⟩ := hp4
    exact kt _ _ _ _ _ _ _ _ _ _ _ (⟨rfl, by simp [kMill, kif, (not_congr ix6).mp hq]⟩) hc1 hc2 hc3 hP hS (by decide) (by decide)
abbrev rmX2_run : Room := { frames := 7, cells := 1, slots := 6, locals := 108 }
set_option maxRecDepth 100000 in
set_option maxHeartbeats 4000000 in
theorem m_X2_run (l : Launch) (hl9 : l.stackTraces = false) (D : va_G) (cI : ClassId) (cJ : ClassId × ClassId) (ad : Nat → Nat) (sg0 : Nat → Nat → Int32) (sz : Nat) (x1 : Int32) (hF : ∀ k j : Nat, k < 33 → sg0 k j = fr k j) : gc_B l yX2_run wsX2_run rmX2_run D vwCl (tyS cI cJ) cI cJ gxT gxN SC [.ref (ad 0), .int x1] ad sg0 sz 1 6 (fun v sg2 => v = some (.int (nI 0)) ∧ kRun x1 = nI 0) (fun E sg2 => E = "java/lang/IllegalArgumentException" ∧ kRun x1 = nI 1) := by
  refine gc_Bi_of (cc := cX2_run) (maxL := 2) (by decide) rfl (Nat.le_of_ble_eq_true rfl) ?_
  intro p e s m below meth c A ls Q hin hE hret kt kx
  obtain ⟨⟨hx, hb, hml, hown, hts⟩, -, hlocks, -, hA, hP, hK, hD, hS, hl⟩ := hin
  have hts : ∀ w ∈ wsAll, w.before ([.ref (ad 0), .int x1] : List Value).toArray s = true := fun w h => hts w (List.mem_cons_of_mem _ h)
  have hl : lv_has ls 2 [(0, .ref (ad 0)), (1, .int x1)] := hl
  refine lv_iload_n hx hb dX2_run_0 rfl (lv_at hl 1 rfl) ?_
  refine lv_iconst (v := (nI 0)) hx hb dX2_run_1 (by decide) ?_
  refine lv_sipush (v := (nI 20000)) hx hb dX2_run_2 (by decide) ?_
  refine gc_goB (pl := []) (S2 := SE) (ad := ad) (sg := sg0) (vx_runS (As := [.int x1, .int (nI 0), .int (nI 20000)]) (rest := []) ⟨hx, hb, hml, hown, hts⟩ (m_X2_needRange l hl9 D cI cJ (fun j => ad (gw_p [] j)) (fun j => sg0 (gw_p [] j)) _ x1 (nI 0) (nI 20000) ) (cwS 3 hts (gwS a12 a13 a10 a14) rfl rfl rfl (by decide +kernel) ⟨by decide, by decide⟩) (gc_preS hK hP hD hS hA hE rfl) rfl rfl hl.1 rfl (lv_room (Nat.le_of_ble_eq_true rfl)) dX2_run_5 ⟨by decide, by decide⟩) hP hD hS hA rfl (fun v1 sp2 sg3 H locs hp4 ha5 hb6 hP hD hS => ?_) (fun E9 x9 ce9 sp2 sg3 H locs hp4 hc1 hc2 hc3 ha5 hb6 hP hD hS => ?_)
  · obtain ⟨rfl, ha1⟩ := hp4
    rw [show sg3 = sg0 from funext (fun k => hb6 k (by simp))] at hP hD
    refine W.eq (g2 := F0 m 8 ls []) rfl ?_
    refine lv_aload_n hx hb dX2_run_8 rfl (lv_at hl 0 rfl) ?_
    refine gw_getr (C := RX2) (T := TX2) (N := 6) hx hb hts inwX2 hown hK hP 0 1 2 rfl rfl rfl (by decide) (hts _ a7) (fun _ h9 => h9) dX2_run_9 ?_
    refine lv_iload_n hx hb dX2_run_12 rfl (lv_at hl 1 rfl) ?_
    refine lv_iconst (v := (-1)) hx hb dX2_run_13 (by decide) ?_
    refine gc_go (pl := [2, 19, 20, 21, 22, 23, 24, 25, 1, 4, 5, 6, 7, 8, 9, 10, 11, 12, 13, 14, 15, 16, 17, 18]) (S2 := SS) (ad := ad) (sg := sg0) (va_runVN (As := [.int x1, .int (-1)]) (rest := []) ⟨hx, hb, hml, hown, hts⟩ (m_X0_goThroughPlans l hl9 D cI cJ (fun j => ad (gw_p [2, 19, 20, 21, 22, 23, 24, 25, 1, 4, 5, 6, 7, 8, 9, 10, 11, 12, 13, 14, 15, 16, 17, 18] j)) (fun j => sg0 (gw_p [2, 19, 20, 21, 22, 23, 24, 25, 1, 4, 5, 6, 7, 8, 9, 10, 11, 12, 13, 14, 15, 16, 17, 18] j)) _ x1 (-1) (zs_latest hF)) (⟨va_cnB 2 hts (gwN a76) rfl rfl rfl (hE.2.2.2.1 (.methodLinkNest RX2 83 yX0_goThroughPlans RX2) (by decide +kernel)).2 (hts _ a37) (by decide +kernel) ⟨by decide, by decide⟩, hts _ a74, hts _ a75⟩) (gc_preV hK hP hD hS hA hE rfl rfl rfl rfl) rfl rfl hl.1 rfl (lv_room (Nat.le_of_ble_eq_true rfl)) dX2_run_14 ⟨by decide, by decide⟩) hP hD hS hA rfl (fun v7 sp8 sg9 H locs hp10 ha11 hb12 hP hD hS => ?_)
    obtain ⟨rfl, hz9, hf9, hg9, hs9⟩ := hp10
    have hs8 : sg9 2 11 = nI 0 := (congrFun (ha11 0 (by decide)) _).trans hs9
    have hf8 : sg9 2 12 = nI 1 := (congrFun (ha11 0 (by decide)) _).trans hf9
    refine W.eq (g2 := F0 m 17 ls []) rfl ?_
    refine lv_aload_n hx hb dX2_run_17 rfl (lv_at hl 0 rfl) ?_
    refine lv_iconst (v := (nI 1)) hx hb dX2_run_18 (by decide) ?_
    refine gw_put (C := RX2) (T := TX2) (N := 6) (ty := .boolean) hx hb hts inwX2 tyX2 tyX2_ok nmX2 hown hK hP hD hS 0 3 rfl rfl rfl (by decide) (hts _ a6) (fun _ h9 => h9) rfl (by decide +kernel) rfl rfl dX2_run_19 (fun H locs hP hD hS => ?_)
    obtain ⟨sg13, esg13⟩ : ∃ z : Nat → Nat → Int32, z = gw_u sg9 0 (upd (sg9 0) 3 (nI 1)) := ⟨_, rfl⟩
    rw [← esg13] at hP hD
    refine lv_aload_n hx hb dX2_run_22 rfl (lv_at hl 0 rfl) ?_
    refine gw_getr (C := RX2) (T := TX2) (N := 6) hx hb hts inwX2 hown hK hP 0 1 2 rfl rfl rfl (by decide) (hts _ a7) (fun _ h9 => h9) dX2_run_23 ?_
    refine gw_getiN (C := RX0) (T := TX0) (N := 15) hx hb hts inwX0 hown hK hP 2 11 rfl rfl rfl (by decide) (hE.nest _ (.fieldLinkNest RX2 90 RX0 "spent" "Z" RX2) (by decide +kernel) rfl) (fun _ h9 => h9) dX2_run_26 ?_
    refine gw_top (y := (nI 0)) (by simp [esg13, gw_u, upd, hs8]) ?_
    refine lv_if_eq (tgt := 34) hx hb dX2_run_29 (by decide) (fun hc14 => ?_) (fun hc14 => ?_)
    · refine lv_aload_n hx hb dX2_run_34 rfl (lv_at hl 0 rfl) ?_
      refine gw_getr (C := RX2) (T := TX2) (N := 6) hx hb hts inwX2 hown hK hP 0 1 2 rfl rfl rfl (by decide) (hts _ a7) (fun _ h9 => h9) dX2_run_35 ?_
      refine gw_getiN (C := RX0) (T := TX0) (N := 15) hx hb hts inwX0 hown hK hP 2 12 rfl rfl rfl (by decide) (hE.nest _ (.fieldLinkNest RX2 93 RX0 "found" "Z" RX2) (by decide +kernel) rfl) (fun _ h9 => h9) dX2_run_38 ?_
      refine gw_top (y := (nI 1)) (by simp [esg13, gw_u, upd, hf8]) ?_
      refine lv_if_eq (tgt := 48) hx hb dX2_run_41 (by decide) (fun hc15 => ?_) (fun hc15 => ?_)
      · exact absurd hc15 (by decide)
      · refine lv_iconst (v := (nI 0)) hx hb dX2_run_44 (by decide) ?_
        refine lv_goto (tgt := 49) hx hb dX2_run_45 (by decide) ?_
        exact hret _ _ _ _ _ _ hP hS dX2_run_49 (⟨rfl, by simp [kRun, kif, ha1]⟩)
    · exact absurd hc14 (by decide)
  · obtain ⟨rfl, hq⟩ := hp4
    exact kt _ _ _ _ _ _ _ _ _ _ _ (⟨rfl, by simp [kRun, kif, hq]⟩) hc1 hc2 hc3 hP hS (by decide) (by decide)
abbrev rmX2_gainOfTrial : Room := { frames := 7, cells := 1, slots := 6, locals := 108 }
set_option maxRecDepth 100000 in
set_option maxHeartbeats 4000000 in
theorem m_X2_gainOfTrial (l : Launch) (hl9 : l.stackTraces = false) (D : va_G) (cI : ClassId) (cJ : ClassId × ClassId) (ad : Nat → Nat) (sg0 : Nat → Nat → Int32) (sz : Nat) (x1 : Int32) (x2 : Int32) (hz : ZSS (fun j => sg0 (gw_p [3, 26, 27, 28, 29, 30, 31, 32, 1, 4, 5, 6, 7, 8, 9, 10, 11, 12, 13, 14, 15, 16, 17, 18] j))) : gc_M l yX2_gainOfTrial wsX2_gainOfTrial rmX2_gainOfTrial D vwCl (tyS cI cJ) cI cJ gxT gxN SC [.ref (ad 0), .int x1, .int x2] ad sg0 sz 1 6 (fun v sg2 => v = some (.int (nI 0)) ∧ ZSS (fun j => sg2 (gw_p [3, 26, 27, 28, 29, 30, 31, 32, 1, 4, 5, 6, 7, 8, 9, 10, 11, 12, 13, 14, 15, 16, 17, 18] j))) := by
  refine gc_Mi_of (cc := cX2_gainOfTrial) (maxL := 3) (by decide) rfl (Nat.le_of_ble_eq_true rfl) ?_
  intro p e s m below meth c A ls Q hin hE hret
  obtain ⟨⟨hx, hb, hml, hown, hts⟩, -, hlocks, -, hA, hP, hK, hD, hS, hl⟩ := hin
  have hts : ∀ w ∈ wsAll, w.before ([.ref (ad 0), .int x1, .int x2] : List Value).toArray s = true := fun w h => hts w (List.mem_cons_of_mem _ h)
  have hl : lv_has ls 3 [(0, .ref (ad 0)), (1, .int x1), (2, .int x2)] := hl
  refine lv_aload_n hx hb dX2_gainOfTrial_0 rfl (lv_at hl 0 rfl) ?_
  refine gw_getr (C := RX2) (T := TX2) (N := 6) hx hb hts inwX2 hown hK hP 0 2 3 rfl rfl rfl (by decide) (hts _ a77) (fun _ h9 => h9) dX2_gainOfTrial_1 ?_
  refine lv_iload_n hx hb dX2_gainOfTrial_4 rfl (lv_at hl 1 rfl) ?_
  refine lv_iload_n hx hb dX2_gainOfTrial_5 rfl (lv_at hl 2 rfl) ?_
  refine gc_go (pl := [3, 26, 27, 28, 29, 30, 31, 32, 1, 4, 5, 6, 7, 8, 9, 10, 11, 12, 13, 14, 15, 16, 17, 18]) (S2 := SS) (ad := ad) (sg := sg0) (va_runVN (As := [.int x1, .int x2]) (rest := []) ⟨hx, hb, hml, hown, hts⟩ (m_X0_goThroughPlans l hl9 D cI cJ (fun j => ad (gw_p [3, 26, 27, 28, 29, 30, 31, 32, 1, 4, 5, 6, 7, 8, 9, 10, 11, 12, 13, 14, 15, 16, 17, 18] j)) (fun j => sg0 (gw_p [3, 26, 27, 28, 29, 30, 31, 32, 1, 4, 5, 6, 7, 8, 9, 10, 11, 12, 13, 14, 15, 16, 17, 18] j)) _ x1 x2 hz) (⟨va_cnB 2 hts (gwN a76) rfl rfl rfl (hE.2.2.2.1 (.methodLinkNest RX2 83 yX0_goThroughPlans RX2) (by decide +kernel)).2 (hts _ a37) (by decide +kernel) ⟨by decide, by decide⟩, hts _ a74, hts _ a75⟩) (gc_preV hK hP hD hS hA hE rfl rfl rfl rfl) rfl rfl hl.1 rfl (lv_room (Nat.le_of_ble_eq_true rfl)) dX2_gainOfTrial_6 ⟨by decide, by decide⟩) hP hD hS hA rfl (fun v1 sp2 sg3 H locs hp4 ha5 hb6 hP hD hS => ?_)
  obtain ⟨rfl, hz9, hf9, hg9, hs9⟩ := hp4
  have hg8 : sg3 3 13 = nI 0 := (congrFun (ha5 0 (by decide)) _).trans hg9
  have hf8 : sg3 3 12 = nI 1 := (congrFun (ha5 0 (by decide)) _).trans hf9
  have hz8 := zs_back ha5 rfl hz9
  refine W.eq (g2 := F0 m 9 ls []) rfl ?_
  refine lv_aload_n hx hb dX2_gainOfTrial_9 rfl (lv_at hl 0 rfl) ?_
  refine gw_getr (C := RX2) (T := TX2) (N := 6) hx hb hts inwX2 hown hK hP 0 2 3 rfl rfl rfl (by decide) (hts _ a77) (fun _ h9 => h9) dX2_gainOfTrial_10 ?_
  refine gc_goB (pl := [3, 26, 27, 28, 29, 30, 31, 32, 1, 4, 5, 6, 7, 8, 9, 10, 11, 12, 13, 14, 15, 16, 17, 18]) (S2 := SS) (ad := ad) (sg := sg3) (vx_runS (As := [.ref (ad 3)]) (rest := []) ⟨hx, hb, hml, hown, hts⟩ (m_X2_needBest l hl9 D cI cJ (fun j => ad (gw_p [3, 26, 27, 28, 29, 30, 31, 32, 1, 4, 5, 6, 7, 8, 9, 10, 11, 12, 13, 14, 15, 16, 17, 18] j)) (fun j => sg3 (gw_p [3, 26, 27, 28, 29, 30, 31, 32, 1, 4, 5, 6, 7, 8, 9, 10, 11, 12, 13, 14, 15, 16, 17, 18] j)) _  ) (cwS 1 hts (gwS a69 a70 a10 a71) rfl rfl rfl (by decide +kernel) ⟨by decide, by decide⟩) (gc_preS hK hP hD hS hA hE rfl) rfl rfl hl.1 rfl (lv_room (Nat.le_of_ble_eq_true rfl)) dX2_gainOfTrial_13 ⟨by decide, by decide⟩) hP hD hS hA rfl (fun v7 sp8 sg9 H locs hp10 ha11 hb12 hP hD hS => ?_) (fun E9 x9 ce9 sp8 sg9 H locs hp10 hc1 hc2 hc3 ha11 hb12 hP hD hS => ?_)
  · obtain ⟨rfl, hq1, hq2⟩ := hp10
    rw [gw_same hq1 ha11 hb12 rfl] at hP hD
    refine W.eq (g2 := F0 m 16 ls []) rfl ?_
    refine lv_aload_n hx hb dX2_gainOfTrial_16 rfl (lv_at hl 0 rfl) ?_
    refine gw_getr (C := RX2) (T := TX2) (N := 6) hx hb hts inwX2 hown hK hP 0 2 3 rfl rfl rfl (by decide) (hts _ a77) (fun _ h9 => h9) dX2_gainOfTrial_17 ?_
    refine gw_getiN (C := RX0) (T := TX0) (N := 15) hx hb hts inwX0 hown hK hP 3 13 rfl rfl rfl (by decide) (hE.nest _ (.fieldLinkNest RX2 112 RX0 "bestGain" "I" RX2) (by decide +kernel) rfl) (fun _ h9 => h9) dX2_gainOfTrial_20 ?_
    refine gw_top (y := (nI 0)) (hg8) ?_
    exact hret _ _ _ _ _ _ hP hS dX2_gainOfTrial_23 (⟨rfl, hz8⟩)
  · exact absurd (hp10.2.2.symm.trans hf8) (by decide)
abbrev rmX2_cost : Room := { frames := 8, cells := 4, slots := 24, locals := 130 }
set_option maxRecDepth 100000 in
set_option maxHeartbeats 4000000 in
theorem m_X2_cost (l : Launch) (hl9 : l.stackTraces = false) (D : va_G) (cI : ClassId) (cJ : ClassId × ClassId) (ad : Nat → Nat) (sg0 : Nat → Nat → Int32) (sz : Nat) (x1 : Int32) (x2 : Int32) (hF : ∀ k j : Nat, k < 33 → sg0 k j = fr k j) : gc_B l yX2_cost wsX2_cost rmX2_cost D vwCl (tyS cI cJ) cI cJ gxT gxN SC [.ref (ad 0), .int x1, .int x2] ad sg0 sz 4 24 (fun v sg2 => v = some (.int (nI 0)) ∧ kCost x1 x2 = nI 0) (fun E sg2 => (E = "java/lang/IndexOutOfBoundsException" ∧ kCost x1 x2 = nI 1) ∨ (E = "java/lang/IllegalArgumentException" ∧ kCost x1 x2 = nI 2)) := by
  refine gc_Bi_of (cc := cX2_cost) (maxL := 5) (by decide) rfl (Nat.le_of_ble_eq_true rfl) ?_
  intro p e s m below meth c A ls Q hin hE hret kt kx
  obtain ⟨⟨hx, hb, hml, hown, hts⟩, -, hlocks, -, hA, hP, hK, hD, hS, hl⟩ := hin
  have hts : ∀ w ∈ wsAll, w.before ([.ref (ad 0), .int x1, .int x2] : List Value).toArray s = true := fun w h => hts w (List.mem_cons_of_mem _ h)
  have hl : lv_has ls 5 [(0, .ref (ad 0)), (1, .int x1), (2, .int x2)] := hl
  refine lv_iload_n hx hb dX2_cost_0 rfl (lv_at hl 1 rfl) ?_
  refine lv_iconst (v := (nI 4)) hx hb dX2_cost_1 (by decide) ?_
  refine gc_goB (pl := []) (S2 := SE) (ad := ad) (sg := sg0) (vx_runS (As := [.int x1, .int (nI 4)]) (rest := []) ⟨hx, hb, hml, hown, hts⟩ (m_X2_needIndex l hl9 D cI cJ (fun j => ad (gw_p [] j)) (fun j => sg0 (gw_p [] j)) _ x1 (nI 4) ) (cwS 2 hts (gwS a8 a9 a10 a11) rfl rfl rfl (by decide +kernel) ⟨by decide, by decide⟩) (gc_preS hK hP hD hS hA hE rfl) rfl rfl hl.1 rfl (lv_room (Nat.le_of_ble_eq_true rfl)) dX2_cost_2 ⟨by decide, by decide⟩) hP hD hS hA rfl (fun v1 sp2 sg3 H locs hp4 ha5 hb6 hP hD hS => ?_) (fun E9 x9 ce9 sp2 sg3 H locs hp4 hc1 hc2 hc3 ha5 hb6 hP hD hS => ?_)
  · obtain ⟨rfl, ha1⟩ := hp4
    rw [show sg3 = sg0 from funext (fun k => hb6 k (by simp))] at hP hD
    refine W.eq (g2 := F0 m 5 ls []) rfl ?_
    refine lv_iload_n hx hb dX2_cost_5 rfl (lv_at hl 2 rfl) ?_
    refine lv_iconst (v := (nI 0)) hx hb dX2_cost_6 (by decide) ?_
    refine lv_sipush (v := (nI 20000)) hx hb dX2_cost_7 (by decide) ?_
    refine gc_goB (pl := []) (S2 := SE) (ad := ad) (sg := sg0) (vx_runS (As := [.int x2, .int (nI 0), .int (nI 20000)]) (rest := []) ⟨hx, hb, hml, hown, hts⟩ (m_X2_needRange l hl9 D cI cJ (fun j => ad (gw_p [] j)) (fun j => sg0 (gw_p [] j)) _ x2 (nI 0) (nI 20000) ) (cwS 3 hts (gwS a12 a13 a10 a14) rfl rfl rfl (by decide +kernel) ⟨by decide, by decide⟩) (gc_preS hK hP hD hS hA hE rfl) rfl rfl hl.1 rfl (lv_room (Nat.le_of_ble_eq_true rfl)) dX2_cost_10 ⟨by decide, by decide⟩) hP hD hS hA rfl (fun v7 sp8 sg9 H locs hp10 ha11 hb12 hP hD hS => ?_) (fun E9 x9 ce9 sp8 sg9 H locs hp10 hc1 hc2 hc3 ha11 hb12 hP hD hS => ?_)
    · obtain ⟨rfl, ha2⟩ := hp10
      rw [show sg9 = sg0 from funext (fun k => hb12 k (by simp))] at hP hD
      refine W.eq (g2 := F0 m 13 ls []) rfl ?_
      refine lv_aload_n hx hb dX2_cost_13 rfl (lv_at hl 0 rfl) ?_
      refine lv_iload_n hx hb dX2_cost_14 rfl (lv_at hl 2 rfl) ?_
      refine lv_iconst (v := (-1)) hx hb dX2_cost_15 (by decide) ?_
      refine gc_go0 (va_runV (As := [.int x2, .int (-1)]) (rest := []) ⟨hx, hb, hml, hown, hts⟩ (m_X2_gainOfTrial l hl9 D cI cJ ad sg0 _ x2 (-1) (zs_trial hF)) (cwV 2 hts (gwV a78 a79 a80 a10 a81) rfl rfl rfl (by decide +kernel) ⟨by decide, by decide⟩) (gc_preV0 hK hP hD hS hA hE rfl rfl rfl) rfl rfl hl.1 rfl (lv_room (Nat.le_of_ble_eq_true rfl)) dX2_cost_16 ⟨by decide, by decide⟩) hD hS hA (fun v13 sg15 H locs hp16 hP hD hS => ?_)
      obtain ⟨rfl, hz⟩ := hp16
      refine W.eq (g2 := F0 m 19 ls [.int (nI 0)]) rfl ?_
      refine lv_istore_n (lv' := [(3, .int (nI 0)), (0, .ref (ad 0)), (1, .int x1), (2, .int x2)]) hx hb dX2_cost_19 rfl hl (by decide) rfl (fun ls hl => ?_)
      refine lv_aload_n hx hb dX2_cost_20 rfl (lv_at hl 1 rfl) ?_
      refine lv_iload_n hx hb dX2_cost_21 rfl (lv_at hl 3 rfl) ?_
      refine lv_iload_n hx hb dX2_cost_22 rfl (lv_at hl 2 rfl) ?_
      refine gc_go0 (va_runV (As := [.int x2, .int x1]) (rest := []) ⟨hx, hb, hml, hown, hts⟩ (m_X2_gainOfTrial l hl9 D cI cJ ad sg15 _ x2 x1 hz) (cwV 2 hts (gwV a78 a79 a80 a10 a81) rfl rfl rfl (by decide +kernel) ⟨by decide, by decide⟩) (gc_preV0 hK hP hD hS hA hE rfl rfl rfl) rfl rfl hl.1 rfl (lv_room (Nat.le_of_ble_eq_true rfl)) dX2_cost_23 ⟨by decide, by decide⟩) hD hS hA (fun v19 sg21 H locs hp22 hP hD hS => ?_)
      obtain ⟨rfl, hz⟩ := hp22
      refine W.eq (g2 := F0 m 26 ls [.int (nI 0)]) rfl ?_
      refine lv_istore (lv' := [(4, .int (nI 0)), (3, .int (nI 0)), (0, .ref (ad 0)), (1, .int x1), (2, .int x2)]) hx hb dX2_cost_26 hl (by decide) rfl (fun ls hl => ?_)
      refine lv_iload_n hx hb dX2_cost_28 rfl (lv_at hl 1 rfl) ?_
      refine lv_iload hx hb dX2_cost_29 (lv_at hl 0 rfl) ?_
      refine lv_isub hx hb dX2_cost_31 ?_
      refine gw_top (y := (nI 0)) (by decide) ?_
      exact hret _ _ _ _ _ _ hP hS dX2_cost_32 (⟨rfl, by simp [kCost, kif, ix4.mp ha1, ha2]⟩)
    · obtain ⟨rfl, hq⟩ := hp10
      exact kt _ _ _ _ _ _ _ _ _ _ _ (Or.inr ⟨rfl, by simp [kCost, kif, ix4.mp ha1, hq]⟩) hc1 hc2 hc3 hP hS (by decide) (by decide)
  · obtain ⟨rfl, hq⟩ := hp4
    exact kt _ _ _ _ _ _ _ _ _ _ _ (Or.inl ⟨rfl, by simp [kCost, kif, (not_congr ix4).mp hq]⟩) hc1 hc2 hc3 hP hS (by decide) (by decide)
