abbrev rmL_logs : Room := { frames := 8, cells := 3, slots := 18, locals := 127 }
set_option maxRecDepth 100000 in
set_option maxHeartbeats 4000000 in
theorem m_L_logs (l : Launch) (hl9 : l.stackTraces = false) (D : va_G) (cI : ClassId) (cJ : ClassId × ClassId) (ad : Nat → Nat) (sg0 : Nat → Nat → Int32) (sz : Nat) (x1 : Int32) (x2 : Int32) (x3 : Int32) (ho : sg0 33 0 = nI 0) : gc_M l yL_logs wsL_logs rmL_logs D vwCl (tyS cI cJ) cI cJ gxT gxN SW [.ref (ad 0), .int x1, .int x2, .int x3] ad sg0 sz 3 18 (fun v sg2 => v = some (.int (kLogs x1 x2 x3)) ∧ sg2 33 0 = nI 0) := by
  refine gc_Wi_of (cc := cL_logs) (maxL := 5) (hh := hhL_logs) (by decide) rfl (Nat.le_of_ble_eq_true rfl) ?_
  intro p e s m below meth c A ls Q hin hTab hE hret
  obtain ⟨⟨hx, hb, hml, hown, hts⟩, -, hlocks, -, hA, hP, hK, hD, hS, hl⟩ := hin
  have hts : ∀ w ∈ wsAll, w.before ([.ref (ad 0), .int x1, .int x2, .int x3] : List Value).toArray s = true := fun w h => hts w (List.mem_cons_of_mem _ h)
  have hl : lv_has ls 5 [(0, .ref (ad 0)), (1, .int x1), (2, .int x2), (3, .int x3)] := hl
  refine lv_aload_n hx hb dL_logs_0 rfl (lv_at hl 0 rfl) ?_
  refine lv_iload_n hx hb dL_logs_1 rfl (lv_at hl 1 rfl) ?_
  refine lv_iload_n hx hb dL_logs_2 rfl (lv_at hl 2 rfl) ?_
  refine lv_iload_n hx hb dL_logs_3 rfl (lv_at hl 3 rfl) ?_
  refine gc_goB (pl := [0, 1, 2, 3, 4, 5, 6, 7, 8, 9, 10, 11, 12, 13, 14, 15, 16, 17, 18, 19, 20, 21, 22, 23, 24, 25, 26, 27, 28, 29, 30, 31, 32]) (S2 := SC) (ad := ad) (sg := sg0) (vx_runV (As := [.int x1, .int x2, .int x3]) (rest := []) ⟨hx, hb, hml, hown, hts⟩ (m_X2_logs l hl9 D cI cJ (fun j => ad (gw_p [0, 1, 2, 3, 4, 5, 6, 7, 8, 9, 10, 11, 12, 13, 14, 15, 16, 17, 18, 19, 20, 21, 22, 23, 24, 25, 26, 27, 28, 29, 30, 31, 32] j)) (fun j => sg0 (gw_p [0, 1, 2, 3, 4, 5, 6, 7, 8, 9, 10, 11, 12, 13, 14, 15, 16, 17, 18, 19, 20, 21, 22, 23, 24, 25, 26, 27, 28, 29, 30, 31, 32] j)) _ x1 x2 x3 ) (cwV 3 hts (gwV a136 a137 a138 a10 a139) rfl rfl rfl (by decide +kernel) ⟨by decide, by decide⟩) (gc_preV hK hP hD hS hA hE rfl rfl rfl rfl) rfl rfl hl.1 rfl (lv_room (Nat.le_of_ble_eq_true rfl)) dL_logs_4 ⟨by decide, by decide⟩) hP hD hS hA rfl (fun v1 sp2 sg3 H locs hp4 ha5 hb6 hP hD hS => ?_) (fun E9 x9 ce9 sp2 sg3 H locs hp4 hc1 hc2 hc3 ha5 hb6 hP hD hS => ?_)
  · obtain ⟨rfl, hk9⟩ := hp4
    have h33 : sg3 33 0 = nI 0 := (congrFun (hb6 33 (by decide)) 0).trans ho
    refine W.eq (g2 := F0 m 7 ls []) rfl ?_
    refine lv_goto (tgt := 18) hx hb dL_logs_7 (by decide) ?_
    refine lv_iconst (v := (nI 0)) hx hb dL_logs_18 (by decide) ?_
    exact hret _ _ _ _ _ _ hP hS dL_logs_19 (⟨by first | rfl | rw [hk9], h33⟩)
  · have h33 : sg3 33 0 = nI 0 := (congrFun (hb6 33 (by decide)) 0).trans ho
    rcases hp4 with ⟨rfl, hk9⟩ | ⟨rfl, hk9⟩
    · refine vx_catch (own := RL) (name := "java/lang/IndexOutOfBoundsException") (E := "java/lang/IndexOutOfBoundsException") hown [] ⟨0, 7, 10, 13⟩ [⟨0, 7, 14, 15⟩] (by rw [hTab]; rfl) (fun z hz => nomatch hz) rfl (by decide) (hts _ a140) (hE.nest _ (.castable "java/lang/IndexOutOfBoundsException" "java/lang/IndexOutOfBoundsException") (by decide) rfl) hc1 hc2 hc3 ?_
      refine lv_astore (lv' := [(4, .ref x9), (0, .ref (ad 0)), (1, .int x1), (2, .int x2), (3, .int x3)]) hx hb dL_logs_10 hl (by decide) rfl (fun ls hl => ?_)
      refine lv_iconst (v := (nI 1)) hx hb dL_logs_12 (by decide) ?_
      exact hret _ _ _ _ _ _ hP hS dL_logs_13 (⟨by first | rfl | rw [hk9], h33⟩)
    · refine vx_catch (own := RL) (name := "java/lang/IllegalArgumentException") (E := "java/lang/IllegalArgumentException") hown [⟨0, 7, 10, 13⟩] ⟨0, 7, 14, 15⟩ [] (by rw [hTab]; rfl) (fun z hz => by obtain rfl := List.mem_singleton.mp hz; exact Or.inr ⟨by decide, "java/lang/IndexOutOfBoundsException", hts _ a140, hE.2.2.2.2 ("java/lang/IllegalArgumentException", "java/lang/IndexOutOfBoundsException") (by decide)⟩) rfl (by decide) (hts _ a141) (hE.nest _ (.castable "java/lang/IllegalArgumentException" "java/lang/IllegalArgumentException") (by decide) rfl) hc1 hc2 hc3 ?_
      refine lv_astore (lv' := [(4, .ref x9), (0, .ref (ad 0)), (1, .int x1), (2, .int x2), (3, .int x3)]) hx hb dL_logs_14 hl (by decide) rfl (fun ls hl => ?_)
      refine lv_iconst (v := (nI 2)) hx hb dL_logs_16 (by decide) ?_
      exact hret _ _ _ _ _ _ hP hS dL_logs_17 (⟨by first | rfl | rw [hk9], h33⟩)
abbrev rmL_pattern : Room := { frames := 8, cells := 2, slots := 12, locals := 127 }
set_option maxRecDepth 100000 in
set_option maxHeartbeats 4000000 in
theorem m_L_pattern (l : Launch) (hl9 : l.stackTraces = false) (D : va_G) (cI : ClassId) (cJ : ClassId × ClassId) (ad : Nat → Nat) (sg0 : Nat → Nat → Int32) (sz : Nat) (x1 : Int32) (x2 : Int32) (ho : sg0 33 0 = nI 0) (hF : ∀ k j : Nat, k < 33 → sg0 k j = fr k j) : gc_M l yL_pattern wsL_pattern rmL_pattern D vwCl (tyS cI cJ) cI cJ gxT gxN SW [.ref (ad 0), .int x1, .int x2, .ref (ad 33)] ad sg0 sz 2 12 (fun v sg2 => v = some (.int (kPattern x1 x2)) ∧ sg2 33 0 = nI 0) := by
  refine gc_Wi_of (cc := cL_pattern) (maxL := 5) (hh := hhL_pattern) (by decide) rfl (Nat.le_of_ble_eq_true rfl) ?_
  intro p e s m below meth c A ls Q hin hTab hE hret
  obtain ⟨⟨hx, hb, hml, hown, hts⟩, -, hlocks, -, hA, hP, hK, hD, hS, hl⟩ := hin
  have hts : ∀ w ∈ wsAll, w.before ([.ref (ad 0), .int x1, .int x2, .ref (ad 33)] : List Value).toArray s = true := fun w h => hts w (List.mem_cons_of_mem _ h)
  have hl : lv_has ls 5 [(0, .ref (ad 0)), (1, .int x1), (2, .int x2), (3, .ref (ad 33))] := hl
  refine lv_aload_n hx hb dL_pattern_0 rfl (lv_at hl 3 rfl) ?_
  refine lv_iconst (v := (nI 0)) hx hb dL_pattern_1 (by decide) ?_
  refine lv_aload_n hx hb dL_pattern_2 rfl (lv_at hl 0 rfl) ?_
  refine lv_iload_n hx hb dL_pattern_3 rfl (lv_at hl 1 rfl) ?_
  refine lv_iload_n hx hb dL_pattern_4 rfl (lv_at hl 2 rfl) ?_
  refine gc_goB (pl := [0, 1, 2, 3, 4, 5, 6, 7, 8, 9, 10, 11, 12, 13, 14, 15, 16, 17, 18, 19, 20, 21, 22, 23, 24, 25, 26, 27, 28, 29, 30, 31, 32]) (S2 := SC) (ad := ad) (sg := sg0) (vx_runV (As := [.int x1, .int x2]) (rest := [.int (nI 0), .ref (ad 33)]) ⟨hx, hb, hml, hown, hts⟩ (m_X2_pattern l hl9 D cI cJ (fun j => ad (gw_p [0, 1, 2, 3, 4, 5, 6, 7, 8, 9, 10, 11, 12, 13, 14, 15, 16, 17, 18, 19, 20, 21, 22, 23, 24, 25, 26, 27, 28, 29, 30, 31, 32] j)) (fun j => sg0 (gw_p [0, 1, 2, 3, 4, 5, 6, 7, 8, 9, 10, 11, 12, 13, 14, 15, 16, 17, 18, 19, 20, 21, 22, 23, 24, 25, 26, 27, 28, 29, 30, 31, 32] j)) _ x1 x2 (fun k j hk => (wr_at hF k j hk))) (cwV 2 hts (gwV a142 a143 a144 a10 a145) rfl rfl rfl (by decide +kernel) ⟨by decide, by decide⟩) (gc_preV hK hP hD hS hA hE rfl rfl rfl rfl) rfl rfl hl.1 rfl (lv_room (Nat.le_of_ble_eq_true rfl)) dL_pattern_5 ⟨by decide, by decide⟩) hP hD hS hA rfl (fun v1 sp2 sg3 H locs hp4 ha5 hb6 hP hD hS => ?_) (fun E9 x9 ce9 sp2 sg3 H locs hp4 hc1 hc2 hc3 ha5 hb6 hP hD hS => ?_)
  · obtain ⟨rfl, hk9⟩ := hp4
    have h33 : sg3 33 0 = nI 0 := (congrFun (hb6 33 (by decide)) 0).trans ho
    refine W.eq (g2 := F0 m 8 ls [.int (nI 0), .int (nI 0), .ref (ad 33)]) rfl ?_
    refine lv_i2l hx hb dL_pattern_8 rfl ?_
    refine gw_last hx hb hK hP hD hS 33 2 (n := 1) rfl rfl (i := 0) (x := nI 0) (by decide) (by decide) dL_pattern_9 (fun H locs hP hD hS => ?_)
    obtain ⟨sg7, esg7⟩ : ∃ z : Nat → Nat → Int32, z = gw_u sg3 33 (upd (sg3 33) 0 (nI 0)) := ⟨_, rfl⟩
    rw [← esg7] at hP hD
    have h33 : sg7 33 0 = nI 0 := by simp [esg7, gw_u, upd]
    refine lv_goto (tgt := 25) hx hb dL_pattern_10 (by decide) ?_
    refine lv_iconst (v := (nI 0)) hx hb dL_pattern_25 (by decide) ?_
    exact hret _ _ _ _ _ _ hP hS dL_pattern_26 (⟨by first | rfl | rw [hk9], h33⟩)
  · have h33 : sg3 33 0 = nI 0 := (congrFun (hb6 33 (by decide)) 0).trans ho
    rcases hp4 with ⟨rfl, hk9⟩ | ⟨rfl, hk9⟩
    · refine vx_catch (own := RL) (name := "java/lang/IndexOutOfBoundsException") (E := "java/lang/IndexOutOfBoundsException") hown [] ⟨0, 10, 13, 13⟩ [⟨0, 10, 17, 15⟩, ⟨0, 10, 21, 21⟩] (by rw [hTab]; rfl) (fun z hz => nomatch hz) rfl (by decide) (hts _ a140) (hE.nest _ (.castable "java/lang/IndexOutOfBoundsException" "java/lang/IndexOutOfBoundsException") (by decide) rfl) hc1 hc2 hc3 ?_
      refine lv_astore (lv' := [(4, .ref x9), (0, .ref (ad 0)), (1, .int x1), (2, .int x2), (3, .ref (ad 33))]) hx hb dL_pattern_13 hl (by decide) rfl (fun ls hl => ?_)
      refine lv_iconst (v := (nI 1)) hx hb dL_pattern_15 (by decide) ?_
      exact hret _ _ _ _ _ _ hP hS dL_pattern_16 (⟨by first | rfl | rw [hk9], h33⟩)
    · refine vx_catch (own := RL) (name := "java/lang/IllegalArgumentException") (E := "java/lang/IllegalArgumentException") hown [⟨0, 10, 13, 13⟩] ⟨0, 10, 17, 15⟩ [⟨0, 10, 21, 21⟩] (by rw [hTab]; rfl) (fun z hz => by obtain rfl := List.mem_singleton.mp hz; exact Or.inr ⟨by decide, "java/lang/IndexOutOfBoundsException", hts _ a140, hE.2.2.2.2 ("java/lang/IllegalArgumentException", "java/lang/IndexOutOfBoundsException") (by decide)⟩) rfl (by decide) (hts _ a141) (hE.nest _ (.castable "java/lang/IllegalArgumentException" "java/lang/IllegalArgumentException") (by decide) rfl) hc1 hc2 hc3 ?_
      refine lv_astore (lv' := [(4, .ref x9), (0, .ref (ad 0)), (1, .int x1), (2, .int x2), (3, .ref (ad 33))]) hx hb dL_pattern_17 hl (by decide) rfl (fun ls hl => ?_)
      refine lv_iconst (v := (nI 2)) hx hb dL_pattern_19 (by decide) ?_
      exact hret _ _ _ _ _ _ hP hS dL_pattern_20 (⟨by first | rfl | rw [hk9], h33⟩)
abbrev rmL_gives : Room := { frames := 8, cells := 1, slots := 6, locals := 126 }
set_option maxRecDepth 100000 in
set_option maxHeartbeats 4000000 in
theorem m_L_gives (l : Launch) (hl9 : l.stackTraces = false) (D : va_G) (cI : ClassId) (cJ : ClassId × ClassId) (ad : Nat → Nat) (sg0 : Nat → Nat → Int32) (sz : Nat) (x1 : Int32) (x2 : Int32) (x3 : Int32) (ho : sg0 33 0 = nI 0) (hF : ∀ k j : Nat, k < 33 → sg0 k j = fr k j) : gc_M l yL_gives wsL_gives rmL_gives D vwCl (tyS cI cJ) cI cJ gxT gxN SW [.ref (ad 0), .int x1, .int x2, .int x3] ad sg0 sz 1 6 (fun v sg2 => v = some (.int (nI 1)) ∧ sg2 33 0 = nI 0) := by
  refine gc_Wi_of (cc := cL_gives) (maxL := 5) (hh := hhL_gives) (by decide) rfl (Nat.le_of_ble_eq_true rfl) ?_
  intro p e s m below meth c A ls Q hin hTab hE hret
  obtain ⟨⟨hx, hb, hml, hown, hts⟩, -, hlocks, -, hA, hP, hK, hD, hS, hl⟩ := hin
  have hts : ∀ w ∈ wsAll, w.before ([.ref (ad 0), .int x1, .int x2, .int x3] : List Value).toArray s = true := fun w h => hts w (List.mem_cons_of_mem _ h)
  have hl : lv_has ls 5 [(0, .ref (ad 0)), (1, .int x1), (2, .int x2), (3, .int x3)] := hl
  refine lv_aload_n hx hb dL_gives_0 rfl (lv_at hl 0 rfl) ?_
  refine lv_iload_n hx hb dL_gives_1 rfl (lv_at hl 1 rfl) ?_
  refine lv_iload_n hx hb dL_gives_2 rfl (lv_at hl 2 rfl) ?_
  refine lv_iload_n hx hb dL_gives_3 rfl (lv_at hl 3 rfl) ?_
  refine gc_goB (pl := [0, 1, 2, 3, 4, 5, 6, 7, 8, 9, 10, 11, 12, 13, 14, 15, 16, 17, 18, 19, 20, 21, 22, 23, 24, 25, 26, 27, 28, 29, 30, 31, 32]) (S2 := SC) (ad := ad) (sg := sg0) (vx_runV (As := [.int x1, .int x2, .int x3]) (rest := []) ⟨hx, hb, hml, hown, hts⟩ (m_X2_gives l hl9 D cI cJ (fun j => ad (gw_p [0, 1, 2, 3, 4, 5, 6, 7, 8, 9, 10, 11, 12, 13, 14, 15, 16, 17, 18, 19, 20, 21, 22, 23, 24, 25, 26, 27, 28, 29, 30, 31, 32] j)) (fun j => sg0 (gw_p [0, 1, 2, 3, 4, 5, 6, 7, 8, 9, 10, 11, 12, 13, 14, 15, 16, 17, 18, 19, 20, 21, 22, 23, 24, 25, 26, 27, 28, 29, 30, 31, 32] j)) _ x1 x2 x3 (fun k j hk => (wr_at hF k j hk))) (cwV 3 hts (gwV a146 a147 a148 a10 a149) rfl rfl rfl (by decide +kernel) ⟨by decide, by decide⟩) (gc_preV hK hP hD hS hA hE rfl rfl rfl rfl) rfl rfl hl.1 rfl (lv_room (Nat.le_of_ble_eq_true rfl)) dL_gives_4 ⟨by decide, by decide⟩) hP hD hS hA rfl (fun v1 sp2 sg3 H locs hp4 ha5 hb6 hP hD hS => ?_) (fun E9 x9 ce9 sp2 sg3 H locs hp4 hc1 hc2 hc3 ha5 hb6 hP hD hS => ?_)
  · exact (hp4).elim
  · have h33 : sg3 33 0 = nI 0 := (congrFun (hb6 33 (by decide)) 0).trans ho
    obtain rfl := hp4
    refine vx_catch (own := RL) (name := "java/lang/IndexOutOfBoundsException") (E := "java/lang/IndexOutOfBoundsException") hown [] ⟨0, 7, 10, 13⟩ [⟨0, 7, 14, 15⟩] (by rw [hTab]; rfl) (fun z hz => nomatch hz) rfl (by decide) (hts _ a140) (hE.nest _ (.castable "java/lang/IndexOutOfBoundsException" "java/lang/IndexOutOfBoundsException") (by decide) rfl) hc1 hc2 hc3 ?_
    refine lv_astore (lv' := [(4, .ref x9), (0, .ref (ad 0)), (1, .int x1), (2, .int x2), (3, .int x3)]) hx hb dL_gives_10 hl (by decide) rfl (fun ls hl => ?_)
    refine lv_iconst (v := (nI 1)) hx hb dL_gives_12 (by decide) ?_
    exact hret _ _ _ _ _ _ hP hS dL_gives_13 (⟨by first | rfl | rw [hk9], h33⟩)
abbrev rmL_order : Room := { frames := 8, cells := 4, slots := 24, locals := 128 }
set_option maxRecDepth 100000 in
set_option maxHeartbeats 4000000 in
theorem m_L_order (l : Launch) (hl9 : l.stackTraces = false) (D : va_G) (cI : ClassId) (cJ : ClassId × ClassId) (ad : Nat → Nat) (sg0 : Nat → Nat → Int32) (sz : Nat) (x1 : Int32) (x2 : Int32) (x3 : Int32) (x4 : Int32) (ho : sg0 33 0 = nI 0) : gc_M l yL_order wsL_order rmL_order D vwCl (tyS cI cJ) cI cJ gxT gxN SW [.ref (ad 0), .int x1, .int x2, .int x3, .int x4] ad sg0 sz 4 24 (fun v sg2 => v = some (.int (kOrder x1 x2 x3 x4)) ∧ sg2 33 0 = nI 0) := by
  refine gc_Wi_of (cc := cL_order) (maxL := 6) (hh := hhL_order) (by decide) rfl (Nat.le_of_ble_eq_true rfl) ?_
  intro p e s m below meth c A ls Q hin hTab hE hret
  obtain ⟨⟨hx, hb, hml, hown, hts⟩, -, hlocks, -, hA, hP, hK, hD, hS, hl⟩ := hin
  have hts : ∀ w ∈ wsAll, w.before ([.ref (ad 0), .int x1, .int x2, .int x3, .int x4] : List Value).toArray s = true := fun w h => hts w (List.mem_cons_of_mem _ h)
  have hl : lv_has ls 6 [(0, .ref (ad 0)), (1, .int x1), (2, .int x2), (3, .int x3), (4, .int x4)] := hl
  refine lv_aload_n hx hb dL_order_0 rfl (lv_at hl 0 rfl) ?_
  refine lv_iload_n hx hb dL_order_1 rfl (lv_at hl 1 rfl) ?_
  refine lv_iload_n hx hb dL_order_2 rfl (lv_at hl 2 rfl) ?_
  refine lv_iload_n hx hb dL_order_3 rfl (lv_at hl 3 rfl) ?_
  refine lv_iload hx hb dL_order_4 (lv_at hl 4 rfl) ?_
  refine gc_goB (pl := [0, 1, 2, 3, 4, 5, 6, 7, 8, 9, 10, 11, 12, 13, 14, 15, 16, 17, 18, 19, 20, 21, 22, 23, 24, 25, 26, 27, 28, 29, 30, 31, 32]) (S2 := SC) (ad := ad) (sg := sg0) (vx_runV (As := [.int x1, .int x2, .int x3, .int x4]) (rest := []) ⟨hx, hb, hml, hown, hts⟩ (m_X2_order l hl9 D cI cJ (fun j => ad (gw_p [0, 1, 2, 3, 4, 5, 6, 7, 8, 9, 10, 11, 12, 13, 14, 15, 16, 17, 18, 19, 20, 21, 22, 23, 24, 25, 26, 27, 28, 29, 30, 31, 32] j)) (fun j => sg0 (gw_p [0, 1, 2, 3, 4, 5, 6, 7, 8, 9, 10, 11, 12, 13, 14, 15, 16, 17, 18, 19, 20, 21, 22, 23, 24, 25, 26, 27, 28, 29, 30, 31, 32] j)) _ x1 x2 x3 x4 ) (cwV 4 hts (gwV a150 a151 a152 a10 a153) rfl rfl rfl (by decide +kernel) ⟨by decide, by decide⟩) (gc_preV hK hP hD hS hA hE rfl rfl rfl rfl) rfl rfl hl.1 rfl (lv_room (Nat.le_of_ble_eq_true rfl)) dL_order_6 ⟨by decide, by decide⟩) hP hD hS hA rfl (fun v1 sp2 sg3 H locs hp4 ha5 hb6 hP hD hS => ?_) (fun E9 x9 ce9 sp2 sg3 H locs hp4 hc1 hc2 hc3 ha5 hb6 hP hD hS => ?_)
  · obtain ⟨rfl, hk9⟩ := hp4
    have h33 : sg3 33 0 = nI 0 := (congrFun (hb6 33 (by decide)) 0).trans ho
    refine W.eq (g2 := F0 m 9 ls []) rfl ?_
    refine lv_goto (tgt := 20) hx hb dL_order_9 (by decide) ?_
    refine lv_iconst (v := (nI 0)) hx hb dL_order_20 (by decide) ?_
    exact hret _ _ _ _ _ _ hP hS dL_order_21 (⟨by first | rfl | rw [hk9], h33⟩)
  · have h33 : sg3 33 0 = nI 0 := (congrFun (hb6 33 (by decide)) 0).trans ho
    rcases hp4 with ⟨rfl, hk9⟩ | ⟨rfl, hk9⟩
    · refine vx_catch (own := RL) (name := "java/lang/IndexOutOfBoundsException") (E := "java/lang/IndexOutOfBoundsException") hown [] ⟨0, 9, 12, 13⟩ [⟨0, 9, 16, 15⟩] (by rw [hTab]; rfl) (fun z hz => nomatch hz) rfl (by decide) (hts _ a140) (hE.nest _ (.castable "java/lang/IndexOutOfBoundsException" "java/lang/IndexOutOfBoundsException") (by decide) rfl) hc1 hc2 hc3 ?_
      refine lv_astore (lv' := [(5, .ref x9), (0, .ref (ad 0)), (1, .int x1), (2, .int x2), (3, .int x3), (4, .int x4)]) hx hb dL_order_12 hl (by decide) rfl (fun ls hl => ?_)
      refine lv_iconst (v := (nI 1)) hx hb dL_order_14 (by decide) ?_
      exact hret _ _ _ _ _ _ hP hS dL_order_15 (⟨by first | rfl | rw [hk9], h33⟩)
    · refine vx_catch (own := RL) (name := "java/lang/IllegalArgumentException") (E := "java/lang/IllegalArgumentException") hown [⟨0, 9, 12, 13⟩] ⟨0, 9, 16, 15⟩ [] (by rw [hTab]; rfl) (fun z hz => by obtain rfl := List.mem_singleton.mp hz; exact Or.inr ⟨by decide, "java/lang/IndexOutOfBoundsException", hts _ a140, hE.2.2.2.2 ("java/lang/IllegalArgumentException", "java/lang/IndexOutOfBoundsException") (by decide)⟩) rfl (by decide) (hts _ a141) (hE.nest _ (.castable "java/lang/IllegalArgumentException" "java/lang/IllegalArgumentException") (by decide) rfl) hc1 hc2 hc3 ?_
      refine lv_astore (lv' := [(5, .ref x9), (0, .ref (ad 0)), (1, .int x1), (2, .int x2), (3, .int x3), (4, .int x4)]) hx hb dL_order_16 hl (by decide) rfl (fun ls hl => ?_)
      refine lv_iconst (v := (nI 2)) hx hb dL_order_18 (by decide) ?_
      exact hret _ _ _ _ _ _ hP hS dL_order_19 (⟨by first | rfl | rw [hk9], h33⟩)
abbrev rmL_hours : Room := { frames := 8, cells := 2, slots := 12, locals := 126 }
set_option maxRecDepth 100000 in
set_option maxHeartbeats 4000000 in
theorem m_L_hours (l : Launch) (hl9 : l.stackTraces = false) (D : va_G) (cI : ClassId) (cJ : ClassId × ClassId) (ad : Nat → Nat) (sg0 : Nat → Nat → Int32) (sz : Nat) (x1 : Int32) (x2 : Int32) (ho : sg0 33 0 = nI 0) : gc_M l yL_hours wsL_hours rmL_hours D vwCl (tyS cI cJ) cI cJ gxT gxN SW [.ref (ad 0), .int x1, .int x2] ad sg0 sz 2 12 (fun v sg2 => v = some (.int (kHours x1 x2)) ∧ sg2 33 0 = nI 0) := by
  refine gc_Wi_of (cc := cL_hours) (maxL := 4) (hh := hhL_hours) (by decide) rfl (Nat.le_of_ble_eq_true rfl) ?_
  intro p e s m below meth c A ls Q hin hTab hE hret
  obtain ⟨⟨hx, hb, hml, hown, hts⟩, -, hlocks, -, hA, hP, hK, hD, hS, hl⟩ := hin
  have hts : ∀ w ∈ wsAll, w.before ([.ref (ad 0), .int x1, .int x2] : List Value).toArray s = true := fun w h => hts w (List.mem_cons_of_mem _ h)
  have hl : lv_has ls 4 [(0, .ref (ad 0)), (1, .int x1), (2, .int x2)] := hl
  refine lv_aload_n hx hb dL_hours_0 rfl (lv_at hl 0 rfl) ?_
  refine lv_iload_n hx hb dL_hours_1 rfl (lv_at hl 1 rfl) ?_
  refine lv_iload_n hx hb dL_hours_2 rfl (lv_at hl 2 rfl) ?_
  refine gc_goB (pl := [0, 1, 2, 3, 4, 5, 6, 7, 8, 9, 10, 11, 12, 13, 14, 15, 16, 17, 18, 19, 20, 21, 22, 23, 24, 25, 26, 27, 28, 29, 30, 31, 32]) (S2 := SC) (ad := ad) (sg := sg0) (vx_runV (As := [.int x1, .int x2]) (rest := []) ⟨hx, hb, hml, hown, hts⟩ (m_X2_hours l hl9 D cI cJ (fun j => ad (gw_p [0, 1, 2, 3, 4, 5, 6, 7, 8, 9, 10, 11, 12, 13, 14, 15, 16, 17, 18, 19, 20, 21, 22, 23, 24, 25, 26, 27, 28, 29, 30, 31, 32] j)) (fun j => sg0 (gw_p [0, 1, 2, 3, 4, 5, 6, 7, 8, 9, 10, 11, 12, 13, 14, 15, 16, 17, 18, 19, 20, 21, 22, 23, 24, 25, 26, 27, 28, 29, 30, 31, 32] j)) _ x1 x2 ) (cwV 2 hts (gwV a154 a155 a156 a10 a157) rfl rfl rfl (by decide +kernel) ⟨by decide, by decide⟩) (gc_preV hK hP hD hS hA hE rfl rfl rfl rfl) rfl rfl hl.1 rfl (lv_room (Nat.le_of_ble_eq_true rfl)) dL_hours_3 ⟨by decide, by decide⟩) hP hD hS hA rfl (fun v1 sp2 sg3 H locs hp4 ha5 hb6 hP hD hS => ?_) (fun E9 x9 ce9 sp2 sg3 H locs hp4 hc1 hc2 hc3 ha5 hb6 hP hD hS => ?_)
  · obtain ⟨rfl, hk9⟩ := hp4
    have h33 : sg3 33 0 = nI 0 := (congrFun (hb6 33 (by decide)) 0).trans ho
    refine W.eq (g2 := F0 m 6 ls []) rfl ?_
    refine lv_goto (tgt := 12) hx hb dL_hours_6 (by decide) ?_
    refine lv_iconst (v := (nI 0)) hx hb dL_hours_12 (by decide) ?_
    exact hret _ _ _ _ _ _ hP hS dL_hours_13 (⟨by first | rfl | rw [hk9], h33⟩)
  · have h33 : sg3 33 0 = nI 0 := (congrFun (hb6 33 (by decide)) 0).trans ho
    obtain ⟨rfl, hk9⟩ := hp4
    refine vx_catch (own := RL) (name := "java/lang/IllegalArgumentException") (E := "java/lang/IllegalArgumentException") hown [] ⟨0, 6, 9, 15⟩ [] (by rw [hTab]; rfl) (fun z hz => nomatch hz) rfl (by decide) (hts _ a141) (hE.nest _ (.castable "java/lang/IllegalArgumentException" "java/lang/IllegalArgumentException") (by decide) rfl) hc1 hc2 hc3 ?_
    refine lv_astore_n (lv' := [(3, .ref x9), (0, .ref (ad 0)), (1, .int x1), (2, .int x2)]) hx hb dL_hours_9 rfl hl (by decide) rfl (fun ls hl => ?_)
    refine lv_iconst (v := (nI 1)) hx hb dL_hours_10 (by decide) ?_
    exact hret _ _ _ _ _ _ hP hS dL_hours_11 (⟨by first | rfl | rw [hk9], h33⟩)
abbrev rmL_run : Room := { frames := 8, cells := 1, slots := 6, locals := 129 }
set_option maxRecDepth 100000 in
set_option maxHeartbeats 4000000 in
theorem m_L_run (l : Launch) (hl9 : l.stackTraces = false) (D : va_G) (cI : ClassId) (cJ : ClassId × ClassId) (ad : Nat → Nat) (sg0 : Nat → Nat → Int32) (sz : Nat) (x1 : Int32) (ho : sg0 33 0 = nI 0) (hF : ∀ k j : Nat, k < 33 → sg0 k j = fr k j) : gc_M l yL_run wsL_run rmL_run D vwCl (tyS cI cJ) cI cJ gxT gxN SW [.ref (ad 0), .int x1, .ref (ad 33)] ad sg0 sz 1 6 (fun v sg2 => v = some (.int (kRun x1)) ∧ sg2 33 0 = nI 0) := by
  refine gc_Wi_of (cc := cL_run) (maxL := 4) (hh := hhL_run) (by decide) rfl (Nat.le_of_ble_eq_true rfl) ?_
  intro p e s m below meth c A ls Q hin hTab hE hret
  obtain ⟨⟨hx, hb, hml, hown, hts⟩, -, hlocks, -, hA, hP, hK, hD, hS, hl⟩ := hin
  have hts : ∀ w ∈ wsAll, w.before ([.ref (ad 0), .int x1, .ref (ad 33)] : List Value).toArray s = true := fun w h => hts w (List.mem_cons_of_mem _ h)
  have hl : lv_has ls 4 [(0, .ref (ad 0)), (1, .int x1), (2, .ref (ad 33))] := hl
  refine lv_aload_n hx hb dL_run_0 rfl (lv_at hl 2 rfl) ?_
  refine lv_iconst (v := (nI 0)) hx hb dL_run_1 (by decide) ?_
  refine lv_aload_n hx hb dL_run_2 rfl (lv_at hl 0 rfl) ?_
  refine lv_iload_n hx hb dL_run_3 rfl (lv_at hl 1 rfl) ?_
  refine gc_goB (pl := [0, 1, 2, 3, 4, 5, 6, 7, 8, 9, 10, 11, 12, 13, 14, 15, 16, 17, 18, 19, 20, 21, 22, 23, 24, 25, 26, 27, 28, 29, 30, 31, 32]) (S2 := SC) (ad := ad) (sg := sg0) (vx_runV (As := [.int x1]) (rest := [.int (nI 0), .ref (ad 33)]) ⟨hx, hb, hml, hown, hts⟩ (m_X2_run l hl9 D cI cJ (fun j => ad (gw_p [0, 1, 2, 3, 4, 5, 6, 7, 8, 9, 10, 11, 12, 13, 14, 15, 16, 17, 18, 19, 20, 21, 22, 23, 24, 25, 26, 27, 28, 29, 30, 31, 32] j)) (fun j => sg0 (gw_p [0, 1, 2, 3, 4, 5, 6, 7, 8, 9, 10, 11, 12, 13, 14, 15, 16, 17, 18, 19, 20, 21, 22, 23, 24, 25, 26, 27, 28, 29, 30, 31, 32] j)) _ x1 (fun k j hk => (wr_at hF k j hk))) (cwV 1 hts (gwV a158 a159 a160 a10 a161) rfl rfl rfl (by decide +kernel) ⟨by decide, by decide⟩) (gc_preV hK hP hD hS hA hE rfl rfl rfl rfl) rfl rfl hl.1 rfl (lv_room (Nat.le_of_ble_eq_true rfl)) dL_run_4 ⟨by decide, by decide⟩) hP hD hS hA rfl (fun v1 sp2 sg3 H locs hp4 ha5 hb6 hP hD hS => ?_) (fun E9 x9 ce9 sp2 sg3 H locs hp4 hc1 hc2 hc3 ha5 hb6 hP hD hS => ?_)
  · obtain ⟨rfl, hk9⟩ := hp4
    have h33 : sg3 33 0 = nI 0 := (congrFun (hb6 33 (by decide)) 0).trans ho
    refine W.eq (g2 := F0 m 7 ls [.int (nI 0), .int (nI 0), .ref (ad 33)]) rfl ?_
    refine lv_i2l hx hb dL_run_7 rfl ?_
    refine gw_last hx hb hK hP hD hS 33 2 (n := 1) rfl rfl (i := 0) (x := nI 0) (by decide) (by decide) dL_run_8 (fun H locs hP hD hS => ?_)
    obtain ⟨sg7, esg7⟩ : ∃ z : Nat → Nat → Int32, z = gw_u sg3 33 (upd (sg3 33) 0 (nI 0)) := ⟨_, rfl⟩
    rw [← esg7] at hP hD
    have h33 : sg7 33 0 = nI 0 := by simp [esg7, gw_u, upd]
    refine lv_goto (tgt := 15) hx hb dL_run_9 (by decide) ?_
    refine lv_iconst (v := (nI 0)) hx hb dL_run_15 (by decide) ?_
    exact hret _ _ _ _ _ _ hP hS dL_run_16 (⟨by first | rfl | rw [hk9], h33⟩)
  · have h33 : sg3 33 0 = nI 0 := (congrFun (hb6 33 (by decide)) 0).trans ho
    obtain ⟨rfl, hk9⟩ := hp4
    refine vx_catch (own := RL) (name := "java/lang/IllegalArgumentException") (E := "java/lang/IllegalArgumentException") hown [] ⟨0, 9, 12, 15⟩ [] (by rw [hTab]; rfl) (fun z hz => nomatch hz) rfl (by decide) (hts _ a141) (hE.nest _ (.castable "java/lang/IllegalArgumentException" "java/lang/IllegalArgumentException") (by decide) rfl) hc1 hc2 hc3 ?_
    refine lv_astore_n (lv' := [(3, .ref x9), (0, .ref (ad 0)), (1, .int x1), (2, .ref (ad 33))]) hx hb dL_run_12 rfl hl (by decide) rfl (fun ls hl => ?_)
    refine lv_iconst (v := (nI 1)) hx hb dL_run_13 (by decide) ?_
    exact hret _ _ _ _ _ _ hP hS dL_run_14 (⟨by first | rfl | rw [hk9], h33⟩)
abbrev rmL_search : Room := { frames := 8, cells := 2, slots := 12, locals := 124 }
set_option maxRecDepth 100000 in
set_option maxHeartbeats 4000000 in
theorem m_L_search (l : Launch) (hl9 : l.stackTraces = false) (D : va_G) (cI : ClassId) (cJ : ClassId × ClassId) (ad : Nat → Nat) (sg0 : Nat → Nat → Int32) (sz : Nat) (x1 : Int32) (ho : sg0 33 0 = nI 0) (hF : ∀ k j : Nat, k < 33 → sg0 k j = fr k j) : gc_M l yL_search wsL_search rmL_search D vwCl (tyS cI cJ) cI cJ gxT gxN SW [.ref (ad 0), .int x1, .ref (ad 33)] ad sg0 sz 2 12 (fun v sg2 => v = some (.int (kSearch x1)) ∧ sg2 33 0 = nI 0) := by
  refine gc_Wi_of (cc := cL_search) (maxL := 4) (hh := hhL_search) (by decide) rfl (Nat.le_of_ble_eq_true rfl) ?_
  intro p e s m below meth c A ls Q hin hTab hE hret
  obtain ⟨⟨hx, hb, hml, hown, hts⟩, -, hlocks, -, hA, hP, hK, hD, hS, hl⟩ := hin
  have hts : ∀ w ∈ wsAll, w.before ([.ref (ad 0), .int x1, .ref (ad 33)] : List Value).toArray s = true := fun w h => hts w (List.mem_cons_of_mem _ h)
  have hl : lv_has ls 4 [(0, .ref (ad 0)), (1, .int x1), (2, .ref (ad 33))] := hl
  refine lv_aload_n hx hb dL_search_0 rfl (lv_at hl 2 rfl) ?_
  refine lv_iconst (v := (nI 0)) hx hb dL_search_1 (by decide) ?_
  refine lv_aload_n hx hb dL_search_2 rfl (lv_at hl 0 rfl) ?_
  refine lv_iload_n hx hb dL_search_3 rfl (lv_at hl 1 rfl) ?_
  refine gc_goB (pl := [0, 1, 2, 3, 4, 5, 6, 7, 8, 9, 10, 11, 12, 13, 14, 15, 16, 17, 18, 19, 20, 21, 22, 23, 24, 25, 26, 27, 28, 29, 30, 31, 32]) (S2 := SC) (ad := ad) (sg := sg0) (vx_runV (As := [.int x1]) (rest := [.int (nI 0), .ref (ad 33)]) ⟨hx, hb, hml, hown, hts⟩ (m_X2_search l hl9 D cI cJ (fun j => ad (gw_p [0, 1, 2, 3, 4, 5, 6, 7, 8, 9, 10, 11, 12, 13, 14, 15, 16, 17, 18, 19, 20, 21, 22, 23, 24, 25, 26, 27, 28, 29, 30, 31, 32] j)) (fun j => sg0 (gw_p [0, 1, 2, 3, 4, 5, 6, 7, 8, 9, 10, 11, 12, 13, 14, 15, 16, 17, 18, 19, 20, 21, 22, 23, 24, 25, 26, 27, 28, 29, 30, 31, 32] j)) _ x1 (fun k j hk => (wr_at hF k j hk))) (cwV 1 hts (gwV a162 a163 a164 a10 a165) rfl rfl rfl (by decide +kernel) ⟨by decide, by decide⟩) (gc_preV hK hP hD hS hA hE rfl rfl rfl rfl) rfl rfl hl.1 rfl (lv_room (Nat.le_of_ble_eq_true rfl)) dL_search_4 ⟨by decide, by decide⟩) hP hD hS hA rfl (fun v1 sp2 sg3 H locs hp4 ha5 hb6 hP hD hS => ?_) (fun E9 x9 ce9 sp2 sg3 H locs hp4 hc1 hc2 hc3 ha5 hb6 hP hD hS => ?_)
  · exact (hp4).elim
  · have h33 : sg3 33 0 = nI 0 := (congrFun (hb6 33 (by decide)) 0).trans ho
    rcases hp4 with ⟨rfl, hk9⟩ | ⟨rfl, hk9⟩
    · refine vx_catch (own := RL) (name := "java/lang/IndexOutOfBoundsException") (E := "java/lang/IndexOutOfBoundsException") hown [] ⟨0, 9, 12, 13⟩ [⟨0, 9, 15, 21⟩] (by rw [hTab]; rfl) (fun z hz => nomatch hz) rfl (by decide) (hts _ a140) (hE.nest _ (.castable "java/lang/IndexOutOfBoundsException" "java/lang/IndexOutOfBoundsException") (by decide) rfl) hc1 hc2 hc3 ?_
      refine lv_astore_n (lv' := [(3, .ref x9), (0, .ref (ad 0)), (1, .int x1), (2, .ref (ad 33))]) hx hb dL_search_12 rfl hl (by decide) rfl (fun ls hl => ?_)
      refine lv_iconst (v := (nI 1)) hx hb dL_search_13 (by decide) ?_
      exact hret _ _ _ _ _ _ hP hS dL_search_14 (⟨by first | rfl | rw [hk9], h33⟩)
    · refine vx_catch (own := RL) (name := "java/lang/IllegalStateException") (E := "java/lang/IllegalStateException") hown [⟨0, 9, 12, 13⟩] ⟨0, 9, 15, 21⟩ [] (by rw [hTab]; rfl) (fun z hz => by obtain rfl := List.mem_singleton.mp hz; exact Or.inr ⟨by decide, "java/lang/IndexOutOfBoundsException", hts _ a140, hE.2.2.2.2 ("java/lang/IllegalStateException", "java/lang/IndexOutOfBoundsException") (by decide)⟩) rfl (by decide) (hts _ a166) (hE.nest _ (.castable "java/lang/IllegalStateException" "java/lang/IllegalStateException") (by decide) rfl) hc1 hc2 hc3 ?_
      refine lv_astore_n (lv' := [(3, .ref x9), (0, .ref (ad 0)), (1, .int x1), (2, .ref (ad 33))]) hx hb dL_search_15 rfl hl (by decide) rfl (fun ls hl => ?_)
      refine lv_iconst (v := (nI 2)) hx hb dL_search_16 (by decide) ?_
      exact hret _ _ _ _ _ _ hP hS dL_search_17 (⟨by first | rfl | rw [hk9], h33⟩)
abbrev rmL_used : Room := { frames := 8, cells := 1, slots := 6, locals := 124 }
set_option maxRecDepth 100000 in
set_option maxHeartbeats 4000000 in
theorem m_L_used (l : Launch) (hl9 : l.stackTraces = false) (D : va_G) (cI : ClassId) (cJ : ClassId × ClassId) (ad : Nat → Nat) (sg0 : Nat → Nat → Int32) (sz : Nat) (x1 : Int32) (ho : sg0 33 0 = nI 0) (hF : ∀ k j : Nat, k < 33 → sg0 k j = fr k j) : gc_M l yL_used wsL_used rmL_used D vwCl (tyS cI cJ) cI cJ gxT gxN SW [.ref (ad 0), .int x1, .ref (ad 33)] ad sg0 sz 1 6 (fun v sg2 => v = some (.int (nI 1)) ∧ sg2 33 0 = nI 0) := by
  refine gc_Wi_of (cc := cL_used) (maxL := 4) (hh := hhL_used) (by decide) rfl (Nat.le_of_ble_eq_true rfl) ?_
  intro p e s m below meth c A ls Q hin hTab hE hret
  obtain ⟨⟨hx, hb, hml, hown, hts⟩, -, hlocks, -, hA, hP, hK, hD, hS, hl⟩ := hin
  have hts : ∀ w ∈ wsAll, w.before ([.ref (ad 0), .int x1, .ref (ad 33)] : List Value).toArray s = true := fun w h => hts w (List.mem_cons_of_mem _ h)
  have hl : lv_has ls 4 [(0, .ref (ad 0)), (1, .int x1), (2, .ref (ad 33))] := hl
  refine lv_aload_n hx hb dL_used_0 rfl (lv_at hl 2 rfl) ?_
  refine lv_iconst (v := (nI 0)) hx hb dL_used_1 (by decide) ?_
  refine lv_aload_n hx hb dL_used_2 rfl (lv_at hl 0 rfl) ?_
  refine lv_iload_n hx hb dL_used_3 rfl (lv_at hl 1 rfl) ?_
  refine gc_goB (pl := [0, 1, 2, 3, 4, 5, 6, 7, 8, 9, 10, 11, 12, 13, 14, 15, 16, 17, 18, 19, 20, 21, 22, 23, 24, 25, 26, 27, 28, 29, 30, 31, 32]) (S2 := SC) (ad := ad) (sg := sg0) (vx_runV (As := [.int x1]) (rest := [.int (nI 0), .ref (ad 33)]) ⟨hx, hb, hml, hown, hts⟩ (m_X2_used l hl9 D cI cJ (fun j => ad (gw_p [0, 1, 2, 3, 4, 5, 6, 7, 8, 9, 10, 11, 12, 13, 14, 15, 16, 17, 18, 19, 20, 21, 22, 23, 24, 25, 26, 27, 28, 29, 30, 31, 32] j)) (fun j => sg0 (gw_p [0, 1, 2, 3, 4, 5, 6, 7, 8, 9, 10, 11, 12, 13, 14, 15, 16, 17, 18, 19, 20, 21, 22, 23, 24, 25, 26, 27, 28, 29, 30, 31, 32] j)) _ x1 (fun k j hk => (wr_at hF k j hk))) (cwV 1 hts (gwV a167 a168 a169 a10 a170) rfl rfl rfl (by decide +kernel) ⟨by decide, by decide⟩) (gc_preV hK hP hD hS hA hE rfl rfl rfl rfl) rfl rfl hl.1 rfl (lv_room (Nat.le_of_ble_eq_true rfl)) dL_used_4 ⟨by decide, by decide⟩) hP hD hS hA rfl (fun v1 sp2 sg3 H locs hp4 ha5 hb6 hP hD hS => ?_) (fun E9 x9 ce9 sp2 sg3 H locs hp4 hc1 hc2 hc3 ha5 hb6 hP hD hS => ?_)
  · exact (hp4).elim
  · have h33 : sg3 33 0 = nI 0 := (congrFun (hb6 33 (by decide)) 0).trans ho
    obtain rfl := hp4
    refine vx_catch (own := RL) (name := "java/lang/IndexOutOfBoundsException") (E := "java/lang/IndexOutOfBoundsException") hown [] ⟨0, 9, 12, 13⟩ [⟨0, 9, 15, 21⟩] (by rw [hTab]; rfl) (fun z hz => nomatch hz) rfl (by decide) (hts _ a140) (hE.nest _ (.castable "java/lang/IndexOutOfBoundsException" "java/lang/IndexOutOfBoundsException") (by decide) rfl) hc1 hc2 hc3 ?_
    refine lv_astore_n (lv' := [(3, .ref x9), (0, .ref (ad 0)), (1, .int x1), (2, .ref (ad 33))]) hx hb dL_used_12 rfl hl (by decide) rfl (fun ls hl => ?_)
    refine lv_iconst (v := (nI 1)) hx hb dL_used_13 (by decide) ?_
    exact hret _ _ _ _ _ _ hP hS dL_used_14 (⟨by first | rfl | rw [hk9], h33⟩)
abbrev rmL_best : Room := { frames := 8, cells := 2, slots := 12, locals := 124 }
set_option maxRecDepth 100000 in
set_option maxHeartbeats 4000000 in
theorem m_L_best (l : Launch) (hl9 : l.stackTraces = false) (D : va_G) (cI : ClassId) (cJ : ClassId × ClassId) (ad : Nat → Nat) (sg0 : Nat → Nat → Int32) (sz : Nat) (x1 : Int32) (ho : sg0 33 0 = nI 0) (hF : ∀ k j : Nat, k < 33 → sg0 k j = fr k j) : gc_M l yL_best wsL_best rmL_best D vwCl (tyS cI cJ) cI cJ gxT gxN SW [.ref (ad 0), .int x1, .ref (ad 33)] ad sg0 sz 2 12 (fun v sg2 => v = some (.int (kBest x1)) ∧ sg2 33 0 = nI 0) := by
  refine gc_Wi_of (cc := cL_best) (maxL := 4) (hh := hhL_best) (by decide) rfl (Nat.le_of_ble_eq_true rfl) ?_
  intro p e s m below meth c A ls Q hin hTab hE hret
  obtain ⟨⟨hx, hb, hml, hown, hts⟩, -, hlocks, -, hA, hP, hK, hD, hS, hl⟩ := hin
  have hts : ∀ w ∈ wsAll, w.before ([.ref (ad 0), .int x1, .ref (ad 33)] : List Value).toArray s = true := fun w h => hts w (List.mem_cons_of_mem _ h)
  have hl : lv_has ls 4 [(0, .ref (ad 0)), (1, .int x1), (2, .ref (ad 33))] := hl
  refine lv_aload_n hx hb dL_best_0 rfl (lv_at hl 2 rfl) ?_
  refine lv_iconst (v := (nI 0)) hx hb dL_best_1 (by decide) ?_
  refine lv_aload_n hx hb dL_best_2 rfl (lv_at hl 0 rfl) ?_
  refine lv_iload_n hx hb dL_best_3 rfl (lv_at hl 1 rfl) ?_
  refine gc_goB (pl := [0, 1, 2, 3, 4, 5, 6, 7, 8, 9, 10, 11, 12, 13, 14, 15, 16, 17, 18, 19, 20, 21, 22, 23, 24, 25, 26, 27, 28, 29, 30, 31, 32]) (S2 := SC) (ad := ad) (sg := sg0) (vx_runV (As := [.int x1]) (rest := [.int (nI 0), .ref (ad 33)]) ⟨hx, hb, hml, hown, hts⟩ (m_X2_best l hl9 D cI cJ (fun j => ad (gw_p [0, 1, 2, 3, 4, 5, 6, 7, 8, 9, 10, 11, 12, 13, 14, 15, 16, 17, 18, 19, 20, 21, 22, 23, 24, 25, 26, 27, 28, 29, 30, 31, 32] j)) (fun j => sg0 (gw_p [0, 1, 2, 3, 4, 5, 6, 7, 8, 9, 10, 11, 12, 13, 14, 15, 16, 17, 18, 19, 20, 21, 22, 23, 24, 25, 26, 27, 28, 29, 30, 31, 32] j)) _ x1 (fun k j hk => (wr_at hF k j hk))) (cwV 1 hts (gwV a171 a172 a173 a10 a174) rfl rfl rfl (by decide +kernel) ⟨by decide, by decide⟩) (gc_preV hK hP hD hS hA hE rfl rfl rfl rfl) rfl rfl hl.1 rfl (lv_room (Nat.le_of_ble_eq_true rfl)) dL_best_4 ⟨by decide, by decide⟩) hP hD hS hA rfl (fun v1 sp2 sg3 H locs hp4 ha5 hb6 hP hD hS => ?_) (fun E9 x9 ce9 sp2 sg3 H locs hp4 hc1 hc2 hc3 ha5 hb6 hP hD hS => ?_)
  · exact (hp4).elim
  · have h33 : sg3 33 0 = nI 0 := (congrFun (hb6 33 (by decide)) 0).trans ho
    rcases hp4 with ⟨rfl, hk9⟩ | ⟨rfl, hk9⟩
    · refine vx_catch (own := RL) (name := "java/lang/IndexOutOfBoundsException") (E := "java/lang/IndexOutOfBoundsException") hown [] ⟨0, 9, 12, 13⟩ [⟨0, 9, 15, 21⟩] (by rw [hTab]; rfl) (fun z hz => nomatch hz) rfl (by decide) (hts _ a140) (hE.nest _ (.castable "java/lang/IndexOutOfBoundsException" "java/lang/IndexOutOfBoundsException") (by decide) rfl) hc1 hc2 hc3 ?_
      refine lv_astore_n (lv' := [(3, .ref x9), (0, .ref (ad 0)), (1, .int x1), (2, .ref (ad 33))]) hx hb dL_best_12 rfl hl (by decide) rfl (fun ls hl => ?_)
      refine lv_iconst (v := (nI 1)) hx hb dL_best_13 (by decide) ?_
      exact hret _ _ _ _ _ _ hP hS dL_best_14 (⟨by first | rfl | rw [hk9], h33⟩)
    · refine vx_catch (own := RL) (name := "java/lang/IllegalStateException") (E := "java/lang/IllegalStateException") hown [⟨0, 9, 12, 13⟩] ⟨0, 9, 15, 21⟩ [] (by rw [hTab]; rfl) (fun z hz => by obtain rfl := List.mem_singleton.mp hz; exact Or.inr ⟨by decide, "java/lang/IndexOutOfBoundsException", hts _ a140, hE.2.2.2.2 ("java/lang/IllegalStateException", "java/lang/IndexOutOfBoundsException") (by decide)⟩) rfl (by decide) (hts _ a166) (hE.nest _ (.castable "java/lang/IllegalStateException" "java/lang/IllegalStateException") (by decide) rfl) hc1 hc2 hc3 ?_
      refine lv_astore_n (lv' := [(3, .ref x9), (0, .ref (ad 0)), (1, .int x1), (2, .ref (ad 33))]) hx hb dL_best_15 rfl hl (by decide) rfl (fun ls hl => ?_)
      refine lv_iconst (v := (nI 2)) hx hb dL_best_16 (by decide) ?_
      exact hret _ _ _ _ _ _ hP hS dL_best_17 (⟨by first | rfl | rw [hk9], h33⟩)
abbrev rmL_made : Room := { frames := 8, cells := 2, slots := 12, locals := 124 }
set_option maxRecDepth 100000 in
set_option maxHeartbeats 4000000 in
theorem m_L_made (l : Launch) (hl9 : l.stackTraces = false) (D : va_G) (cI : ClassId) (cJ : ClassId × ClassId) (ad : Nat → Nat) (sg0 : Nat → Nat → Int32) (sz : Nat) (x1 : Int32) (ho : sg0 33 0 = nI 0) (hF : ∀ k j : Nat, k < 33 → sg0 k j = fr k j) : gc_M l yL_made wsL_made rmL_made D vwCl (tyS cI cJ) cI cJ gxT gxN SW [.ref (ad 0), .int x1, .ref (ad 33)] ad sg0 sz 2 12 (fun v sg2 => v = some (.int (kMade x1)) ∧ sg2 33 0 = nI 0) := by
  refine gc_Wi_of (cc := cL_made) (maxL := 4) (hh := hhL_made) (by decide) rfl (Nat.le_of_ble_eq_true rfl) ?_
  intro p e s m below meth c A ls Q hin hTab hE hret
  obtain ⟨⟨hx, hb, hml, hown, hts⟩, -, hlocks, -, hA, hP, hK, hD, hS, hl⟩ := hin
  have hts : ∀ w ∈ wsAll, w.before ([.ref (ad 0), .int x1, .ref (ad 33)] : List Value).toArray s = true := fun w h => hts w (List.mem_cons_of_mem _ h)
  have hl : lv_has ls 4 [(0, .ref (ad 0)), (1, .int x1), (2, .ref (ad 33))] := hl
  refine lv_aload_n hx hb dL_made_0 rfl (lv_at hl 2 rfl) ?_
  refine lv_iconst (v := (nI 0)) hx hb dL_made_1 (by decide) ?_
  refine lv_aload_n hx hb dL_made_2 rfl (lv_at hl 0 rfl) ?_
  refine lv_iload_n hx hb dL_made_3 rfl (lv_at hl 1 rfl) ?_
  refine gc_goB (pl := [0, 1, 2, 3, 4, 5, 6, 7, 8, 9, 10, 11, 12, 13, 14, 15, 16, 17, 18, 19, 20, 21, 22, 23, 24, 25, 26, 27, 28, 29, 30, 31, 32]) (S2 := SC) (ad := ad) (sg := sg0) (vx_runV (As := [.int x1]) (rest := [.int (nI 0), .ref (ad 33)]) ⟨hx, hb, hml, hown, hts⟩ (m_X2_made l hl9 D cI cJ (fun j => ad (gw_p [0, 1, 2, 3, 4, 5, 6, 7, 8, 9, 10, 11, 12, 13, 14, 15, 16, 17, 18, 19, 20, 21, 22, 23, 24, 25, 26, 27, 28, 29, 30, 31, 32] j)) (fun j => sg0 (gw_p [0, 1, 2, 3, 4, 5, 6, 7, 8, 9, 10, 11, 12, 13, 14, 15, 16, 17, 18, 19, 20, 21, 22, 23, 24, 25, 26, 27, 28, 29, 30, 31, 32] j)) _ x1 (fun k j hk => (wr_at hF k j hk))) (cwV 1 hts (gwV a175 a176 a177 a10 a178) rfl rfl rfl (by decide +kernel) ⟨by decide, by decide⟩) (gc_preV hK hP hD hS hA hE rfl rfl rfl rfl) rfl rfl hl.1 rfl (lv_room (Nat.le_of_ble_eq_true rfl)) dL_made_4 ⟨by decide, by decide⟩) hP hD hS hA rfl (fun v1 sp2 sg3 H locs hp4 ha5 hb6 hP hD hS => ?_) (fun E9 x9 ce9 sp2 sg3 H locs hp4 hc1 hc2 hc3 ha5 hb6 hP hD hS => ?_)
  · exact (hp4).elim
  · have h33 : sg3 33 0 = nI 0 := (congrFun (hb6 33 (by decide)) 0).trans ho
    rcases hp4 with ⟨rfl, hk9⟩ | ⟨rfl, hk9⟩
    · refine vx_catch (own := RL) (name := "java/lang/IndexOutOfBoundsException") (E := "java/lang/IndexOutOfBoundsException") hown [] ⟨0, 9, 12, 13⟩ [⟨0, 9, 15, 21⟩] (by rw [hTab]; rfl) (fun z hz => nomatch hz) rfl (by decide) (hts _ a140) (hE.nest _ (.castable "java/lang/IndexOutOfBoundsException" "java/lang/IndexOutOfBoundsException") (by decide) rfl) hc1 hc2 hc3 ?_
      refine lv_astore_n (lv' := [(3, .ref x9), (0, .ref (ad 0)), (1, .int x1), (2, .ref (ad 33))]) hx hb dL_made_12 rfl hl (by decide) rfl (fun ls hl => ?_)
      refine lv_iconst (v := (nI 1)) hx hb dL_made_13 (by decide) ?_
      exact hret _ _ _ _ _ _ hP hS dL_made_14 (⟨by first | rfl | rw [hk9], h33⟩)
    · refine vx_catch (own := RL) (name := "java/lang/IllegalStateException") (E := "java/lang/IllegalStateException") hown [⟨0, 9, 12, 13⟩] ⟨0, 9, 15, 21⟩ [] (by rw [hTab]; rfl) (fun z hz => by obtain rfl := List.mem_singleton.mp hz; exact Or.inr ⟨by decide, "java/lang/IndexOutOfBoundsException", hts _ a140, hE.2.2.2.2 ("java/lang/IllegalStateException", "java/lang/IndexOutOfBoundsException") (by decide)⟩) rfl (by decide) (hts _ a166) (hE.nest _ (.castable "java/lang/IllegalStateException" "java/lang/IllegalStateException") (by decide) rfl) hc1 hc2 hc3 ?_
      refine lv_astore_n (lv' := [(3, .ref x9), (0, .ref (ad 0)), (1, .int x1), (2, .ref (ad 33))]) hx hb dL_made_15 rfl hl (by decide) rfl (fun ls hl => ?_)
      refine lv_iconst (v := (nI 2)) hx hb dL_made_16 (by decide) ?_
      exact hret _ _ _ _ _ _ hP hS dL_made_17 (⟨by first | rfl | rw [hk9], h33⟩)
abbrev rmL_saw : Room := { frames := 8, cells := 1, slots := 6, locals := 123 }
set_option maxRecDepth 100000 in
set_option maxHeartbeats 4000000 in
theorem m_L_saw (l : Launch) (hl9 : l.stackTraces = false) (D : va_G) (cI : ClassId) (cJ : ClassId × ClassId) (ad : Nat → Nat) (sg0 : Nat → Nat → Int32) (sz : Nat) (ho : sg0 33 0 = nI 0) (hF : ∀ k j : Nat, k < 33 → sg0 k j = fr k j) : gc_M l yL_saw wsL_saw rmL_saw D vwCl (tyS cI cJ) cI cJ gxT gxN SW [.ref (ad 0), .ref (ad 33)] ad sg0 sz 1 6 (fun v sg2 => v = some (.int (nI 1)) ∧ sg2 33 0 = nI 0) := by
  refine gc_Wi_of (cc := cL_saw) (maxL := 3) (hh := hhL_saw) (by decide) rfl (Nat.le_of_ble_eq_true rfl) ?_
  intro p e s m below meth c A ls Q hin hTab hE hret
  obtain ⟨⟨hx, hb, hml, hown, hts⟩, -, hlocks, -, hA, hP, hK, hD, hS, hl⟩ := hin
  have hts : ∀ w ∈ wsAll, w.before ([.ref (ad 0), .ref (ad 33)] : List Value).toArray s = true := fun w h => hts w (List.mem_cons_of_mem _ h)
  have hl : lv_has ls 3 [(0, .ref (ad 0)), (1, .ref (ad 33))] := hl
  refine lv_aload_n hx hb dL_saw_0 rfl (lv_at hl 1 rfl) ?_
  refine lv_iconst (v := (nI 0)) hx hb dL_saw_1 (by decide) ?_
  refine lv_aload_n hx hb dL_saw_2 rfl (lv_at hl 0 rfl) ?_
  refine gc_goB (pl := [0, 1, 2, 3, 4, 5, 6, 7, 8, 9, 10, 11, 12, 13, 14, 15, 16, 17, 18, 19, 20, 21, 22, 23, 24, 25, 26, 27, 28, 29, 30, 31, 32]) (S2 := SC) (ad := ad) (sg := sg0) (vx_runV (As := []) (rest := [.int (nI 0), .ref (ad 33)]) ⟨hx, hb, hml, hown, hts⟩ (m_X2_saw l hl9 D cI cJ (fun j => ad (gw_p [0, 1, 2, 3, 4, 5, 6, 7, 8, 9, 10, 11, 12, 13, 14, 15, 16, 17, 18, 19, 20, 21, 22, 23, 24, 25, 26, 27, 28, 29, 30, 31, 32] j)) (fun j => sg0 (gw_p [0, 1, 2, 3, 4, 5, 6, 7, 8, 9, 10, 11, 12, 13, 14, 15, 16, 17, 18, 19, 20, 21, 22, 23, 24, 25, 26, 27, 28, 29, 30, 31, 32] j)) _  (fun k j hk => (wr_at hF k j hk))) (cwV 0 hts (gwV a179 a180 a181 a10 a182) rfl rfl rfl (by decide +kernel) ⟨by decide, by decide⟩) (gc_preV hK hP hD hS hA hE rfl rfl rfl rfl) rfl rfl hl.1 rfl (lv_room (Nat.le_of_ble_eq_true rfl)) dL_saw_3 ⟨by decide, by decide⟩) hP hD hS hA rfl (fun v1 sp2 sg3 H locs hp4 ha5 hb6 hP hD hS => ?_) (fun E9 x9 ce9 sp2 sg3 H locs hp4 hc1 hc2 hc3 ha5 hb6 hP hD hS => ?_)
  · exact (hp4).elim
  · have h33 : sg3 33 0 = nI 0 := (congrFun (hb6 33 (by decide)) 0).trans ho
    obtain rfl := hp4
    refine vx_catch (own := RL) (name := "java/lang/IllegalStateException") (E := "java/lang/IllegalStateException") hown [] ⟨0, 8, 11, 21⟩ [] (by rw [hTab]; rfl) (fun z hz => nomatch hz) rfl (by decide) (hts _ a166) (hE.nest _ (.castable "java/lang/IllegalStateException" "java/lang/IllegalStateException") (by decide) rfl) hc1 hc2 hc3 ?_
    refine lv_astore_n (lv' := [(2, .ref x9), (0, .ref (ad 0)), (1, .ref (ad 33))]) hx hb dL_saw_11 rfl hl (by decide) rfl (fun ls hl => ?_)
    refine lv_iconst (v := (nI 1)) hx hb dL_saw_12 (by decide) ?_
    exact hret _ _ _ _ _ _ hP hS dL_saw_13 (⟨by first | rfl | rw [hk9], h33⟩)
abbrev rmL_mill : Room := { frames := 8, cells := 1, slots := 6, locals := 124 }
set_option maxRecDepth 100000 in
set_option maxHeartbeats 4000000 in
theorem m_L_mill (l : Launch) (hl9 : l.stackTraces = false) (D : va_G) (cI : ClassId) (cJ : ClassId × ClassId) (ad : Nat → Nat) (sg0 : Nat → Nat → Int32) (sz : Nat) (x1 : Int32) (ho : sg0 33 0 = nI 0) (hF : ∀ k j : Nat, k < 33 → sg0 k j = fr k j) : gc_M l yL_mill wsL_mill rmL_mill D vwCl (tyS cI cJ) cI cJ gxT gxN SW [.ref (ad 0), .int x1, .ref (ad 33)] ad sg0 sz 1 6 (fun v sg2 => v = some (.int (kMill x1)) ∧ sg2 33 0 = nI 0) := by
  refine gc_Wi_of (cc := cL_mill) (maxL := 4) (hh := hhL_mill) (by decide) rfl (Nat.le_of_ble_eq_true rfl) ?_
  intro p e s m below meth c A ls Q hin hTab hE hret
  obtain ⟨⟨hx, hb, hml, hown, hts⟩, -, hlocks, -, hA, hP, hK, hD, hS, hl⟩ := hin
  have hts : ∀ w ∈ wsAll, w.before ([.ref (ad 0), .int x1, .ref (ad 33)] : List Value).toArray s = true := fun w h => hts w (List.mem_cons_of_mem _ h)
  have hl : lv_has ls 4 [(0, .ref (ad 0)), (1, .int x1), (2, .ref (ad 33))] := hl
  refine lv_aload_n hx hb dL_mill_0 rfl (lv_at hl 2 rfl) ?_
  refine lv_iconst (v := (nI 0)) hx hb dL_mill_1 (by decide) ?_
  refine lv_aload_n hx hb dL_mill_2 rfl (lv_at hl 0 rfl) ?_
  refine lv_iload_n hx hb dL_mill_3 rfl (lv_at hl 1 rfl) ?_
  refine gc_goB (pl := [0, 1, 2, 3, 4, 5, 6, 7, 8, 9, 10, 11, 12, 13, 14, 15, 16, 17, 18, 19, 20, 21, 22, 23, 24, 25, 26, 27, 28, 29, 30, 31, 32]) (S2 := SC) (ad := ad) (sg := sg0) (vx_runV (As := [.int x1]) (rest := [.int (nI 0), .ref (ad 33)]) ⟨hx, hb, hml, hown, hts⟩ (m_X2_mill l hl9 D cI cJ (fun j => ad (gw_p [0, 1, 2, 3, 4, 5, 6, 7, 8, 9, 10, 11, 12, 13, 14, 15, 16, 17, 18, 19, 20, 21, 22, 23, 24, 25, 26, 27, 28, 29, 30, 31, 32] j)) (fun j => sg0 (gw_p [0, 1, 2, 3, 4, 5, 6, 7, 8, 9, 10, 11, 12, 13, 14, 15, 16, 17, 18, 19, 20, 21, 22, 23, 24, 25, 26, 27, 28, 29, 30, 31, 32] j)) _ x1 (fun k j hk => (wr_at hF k j hk))) (cwV 1 hts (gwV a183 a184 a185 a10 a186) rfl rfl rfl (by decide +kernel) ⟨by decide, by decide⟩) (gc_preV hK hP hD hS hA hE rfl rfl rfl rfl) rfl rfl hl.1 rfl (lv_room (Nat.le_of_ble_eq_true rfl)) dL_mill_4 ⟨by decide, by decide⟩) hP hD hS hA rfl (fun v1 sp2 sg3 H locs hp4 ha5 hb6 hP hD hS => ?_) (fun E9 x9 ce9 sp2 sg3 H locs hp4 hc1 hc2 hc3 ha5 hb6 hP hD hS => ?_)
  · obtain ⟨rfl, hk9⟩ := hp4
    have h33 : sg3 33 0 = nI 0 := (congrFun (hb6 33 (by decide)) 0).trans ho
    refine W.eq (g2 := F0 m 7 ls [.int (nI 0), .int (nI 0), .ref (ad 33)]) rfl ?_
    refine lv_i2l hx hb dL_mill_7 rfl ?_
    refine gw_last hx hb hK hP hD hS 33 2 (n := 1) rfl rfl (i := 0) (x := nI 0) (by decide) (by decide) dL_mill_8 (fun H locs hP hD hS => ?_)
    obtain ⟨sg7, esg7⟩ : ∃ z : Nat → Nat → Int32, z = gw_u sg3 33 (upd (sg3 33) 0 (nI 0)) := ⟨_, rfl⟩
    rw [← esg7] at hP hD
    have h33 : sg7 33 0 = nI 0 := by simp [esg7, gw_u, upd]
    refine lv_goto (tgt := 15) hx hb dL_mill_9 (by decide) ?_
    refine lv_iconst (v := (nI 0)) hx hb dL_mill_15 (by decide) ?_
    exact hret _ _ _ _ _ _ hP hS dL_mill_16 (⟨by first | rfl | rw [hk9], h33⟩)
  · have h33 : sg3 33 0 = nI 0 := (congrFun (hb6 33 (by decide)) 0).trans ho
    obtain ⟨rfl, hk9⟩ := hp4
    refine vx_catch (own := RL) (name := "java/lang/IndexOutOfBoundsException") (E := "java/lang/IndexOutOfBoundsException") hown [] ⟨0, 9, 12, 13⟩ [] (by rw [hTab]; rfl) (fun z hz => nomatch hz) rfl (by decide) (hts _ a140) (hE.nest _ (.castable "java/lang/IndexOutOfBoundsException" "java/lang/IndexOutOfBoundsException") (by decide) rfl) hc1 hc2 hc3 ?_
    refine lv_astore_n (lv' := [(3, .ref x9), (0, .ref (ad 0)), (1, .int x1), (2, .ref (ad 33))]) hx hb dL_mill_12 rfl hl (by decide) rfl (fun ls hl => ?_)
    refine lv_iconst (v := (nI 1)) hx hb dL_mill_13 (by decide) ?_
    exact hret _ _ _ _ _ _ hP hS dL_mill_14 (⟨by first | rfl | rw [hk9], h33⟩)
abbrev rmL_cost : Room := { frames := 9, cells := 4, slots := 24, locals := 154 }
set_option maxRecDepth 100000 in
set_option maxHeartbeats 4000000 in
theorem m_L_cost (l : Launch) (hl9 : l.stackTraces = false) (D : va_G) (cI : ClassId) (cJ : ClassId × ClassId) (ad : Nat → Nat) (sg0 : Nat → Nat → Int32) (sz : Nat) (x1 : Int32) (x2 : Int32) (ho : sg0 33 0 = nI 0) (hF : ∀ k j : Nat, k < 33 → sg0 k j = fr k j) : gc_M l yL_cost wsL_cost rmL_cost D vwCl (tyS cI cJ) cI cJ gxT gxN SW [.ref (ad 0), .int x1, .int x2, .ref (ad 33)] ad sg0 sz 4 24 (fun v sg2 => v = some (.int (kCost x1 x2)) ∧ sg2 33 0 = nI 0) := by
  refine gc_Wi_of (cc := cL_cost) (maxL := 5) (hh := hhL_cost) (by decide) rfl (Nat.le_of_ble_eq_true rfl) ?_
  intro p e s m below meth c A ls Q hin hTab hE hret
  obtain ⟨⟨hx, hb, hml, hown, hts⟩, -, hlocks, -, hA, hP, hK, hD, hS, hl⟩ := hin
  have hts : ∀ w ∈ wsAll, w.before ([.ref (ad 0), .int x1, .int x2, .ref (ad 33)] : List Value).toArray s = true := fun w h => hts w (List.mem_cons_of_mem _ h)
  have hl : lv_has ls 5 [(0, .ref (ad 0)), (1, .int x1), (2, .int x2), (3, .ref (ad 33))] := hl
  refine lv_aload_n hx hb dL_cost_0 rfl (lv_at hl 3 rfl) ?_
  refine lv_iconst (v := (nI 0)) hx hb dL_cost_1 (by decide) ?_
  refine lv_aload_n hx hb dL_cost_2 rfl (lv_at hl 0 rfl) ?_
  refine lv_iload_n hx hb dL_cost_3 rfl (lv_at hl 1 rfl) ?_
  refine lv_iload_n hx hb dL_cost_4 rfl (lv_at hl 2 rfl) ?_
  refine gc_goB (pl := [0, 1, 2, 3, 4, 5, 6, 7, 8, 9, 10, 11, 12, 13, 14, 15, 16, 17, 18, 19, 20, 21, 22, 23, 24, 25, 26, 27, 28, 29, 30, 31, 32]) (S2 := SC) (ad := ad) (sg := sg0) (vx_runV (As := [.int x1, .int x2]) (rest := [.int (nI 0), .ref (ad 33)]) ⟨hx, hb, hml, hown, hts⟩ (m_X2_cost l hl9 D cI cJ (fun j => ad (gw_p [0, 1, 2, 3, 4, 5, 6, 7, 8, 9, 10, 11, 12, 13, 14, 15, 16, 17, 18, 19, 20, 21, 22, 23, 24, 25, 26, 27, 28, 29, 30, 31, 32] j)) (fun j => sg0 (gw_p [0, 1, 2, 3, 4, 5, 6, 7, 8, 9, 10, 11, 12, 13, 14, 15, 16, 17, 18, 19, 20, 21, 22, 23, 24, 25, 26, 27, 28, 29, 30, 31, 32] j)) _ x1 x2 (fun k j hk => (wr_at hF k j hk))) (cwV 2 hts (gwV a187 a188 a189 a10 a190) rfl rfl rfl (by decide +kernel) ⟨by decide, by decide⟩) (gc_preV hK hP hD hS hA hE rfl rfl rfl rfl) rfl rfl hl.1 rfl (lv_room (Nat.le_of_ble_eq_true rfl)) dL_cost_5 ⟨by decide, by decide⟩) hP hD hS hA rfl (fun v1 sp2 sg3 H locs hp4 ha5 hb6 hP hD hS => ?_) (fun E9 x9 ce9 sp2 sg3 H locs hp4 hc1 hc2 hc3 ha5 hb6 hP hD hS => ?_)
  · obtain ⟨rfl, hk9⟩ := hp4
    have h33 : sg3 33 0 = nI 0 := (congrFun (hb6 33 (by decide)) 0).trans ho
    refine W.eq (g2 := F0 m 8 ls [.int (nI 0), .int (nI 0), .ref (ad 33)]) rfl ?_
    refine lv_i2l hx hb dL_cost_8 rfl ?_
    refine gw_last hx hb hK hP hD hS 33 2 (n := 1) rfl rfl (i := 0) (x := nI 0) (by decide) (by decide) dL_cost_9 (fun H locs hP hD hS => ?_)
    obtain ⟨sg7, esg7⟩ : ∃ z : Nat → Nat → Int32, z = gw_u sg3 33 (upd (sg3 33) 0 (nI 0)) := ⟨_, rfl⟩
    rw [← esg7] at hP hD
    have h33 : sg7 33 0 = nI 0 := by simp [esg7, gw_u, upd]
    refine lv_goto (tgt := 25) hx hb dL_cost_10 (by decide) ?_
    refine lv_iconst (v := (nI 0)) hx hb dL_cost_25 (by decide) ?_
    exact hret _ _ _ _ _ _ hP hS dL_cost_26 (⟨by first | rfl | rw [hk9], h33⟩)
  · have h33 : sg3 33 0 = nI 0 := (congrFun (hb6 33 (by decide)) 0).trans ho
    rcases hp4 with ⟨rfl, hk9⟩ | ⟨rfl, hk9⟩
    · refine vx_catch (own := RL) (name := "java/lang/IndexOutOfBoundsException") (E := "java/lang/IndexOutOfBoundsException") hown [] ⟨0, 10, 13, 13⟩ [⟨0, 10, 17, 15⟩, ⟨0, 10, 21, 21⟩] (by rw [hTab]; rfl) (fun z hz => nomatch hz) rfl (by decide) (hts _ a140) (hE.nest _ (.castable "java/lang/IndexOutOfBoundsException" "java/lang/IndexOutOfBoundsException") (by decide) rfl) hc1 hc2 hc3 ?_
      refine lv_astore (lv' := [(4, .ref x9), (0, .ref (ad 0)), (1, .int x1), (2, .int x2), (3, .ref (ad 33))]) hx hb dL_cost_13 hl (by decide) rfl (fun ls hl => ?_)
      refine lv_iconst (v := (nI 1)) hx hb dL_cost_15 (by decide) ?_
      exact hret _ _ _ _ _ _ hP hS dL_cost_16 (⟨by first | rfl | rw [hk9], h33⟩)
    · refine vx_catch (own := RL) (name := "java/lang/IllegalArgumentException") (E := "java/lang/IllegalArgumentException") hown [⟨0, 10, 13, 13⟩] ⟨0, 10, 17, 15⟩ [⟨0, 10, 21, 21⟩] (by rw [hTab]; rfl) (fun z hz => by obtain rfl := List.mem_singleton.mp hz; exact Or.inr ⟨by decide, "java/lang/IndexOutOfBoundsException", hts _ a140, hE.2.2.2.2 ("java/lang/IllegalArgumentException", "java/lang/IndexOutOfBoundsException") (by decide)⟩) rfl (by decide) (hts _ a141) (hE.nest _ (.castable "java/lang/IllegalArgumentException" "java/lang/IllegalArgumentException") (by decide) rfl) hc1 hc2 hc3 ?_
      refine lv_astore (lv' := [(4, .ref x9), (0, .ref (ad 0)), (1, .int x1), (2, .int x2), (3, .ref (ad 33))]) hx hb dL_cost_17 hl (by decide) rfl (fun ls hl => ?_)
      refine lv_iconst (v := (nI 2)) hx hb dL_cost_19 (by decide) ?_
      exact hret _ _ _ _ _ _ hP hS dL_cost_20 (⟨by first | rfl | rw [hk9], h33⟩)
