abbrev rmf_L_logs : Room := { frames := 8, cells := 3, slots := 18, locals := 127 }
set_option maxRecDepth 100000 in
set_option maxHeartbeats 4000000 in
theorem m_f_L_logs (l : Launch) (hl9 : l.stackTraces = false) (D : va_G) (cI : ClassId) (cJ : ClassId × ClassId) (ad : Nat → Nat) (sg0 : Nat → Nat → Int32) (sz : Nat) (x1 : Int32) (x2 : Int32) (x3 : Int32) (T : TS) (hT : TOk T) (hC : EC T sg0) : gc_M l yL_logs wsL_logs rmf_L_logs D vwCl (tyS cI cJ) cI cJ gxT gxN SW [.ref (ad 0), .int x1, .int x2, .int x3] ad sg0 sz 3 18 (fun v sg2 => EC (uT (kLogs x1 x2 x3) (tLogs T x1 x2 x3) T) sg2 ∧ v = some (.int (kLogs x1 x2 x3))) := by
  refine gc_Wi_of (cc := cL_logs) (maxL := 5) (hh := hhL_logs) (by decide) rfl (Nat.le_of_ble_eq_true rfl) ?_
  intro p e s m below meth c A ls Q hin hTab hE hret
  obtain ⟨⟨hx, hb, hml, hown, hts⟩, -, hlocks, -, hA, hP, hK, hD, hS, hl⟩ := hin
  have hts : ∀ w ∈ wsAll, w.before ([.ref (ad 0), .int x1, .int x2, .int x3] : List Value).toArray s = true := fun w h => hts w (List.mem_cons_of_mem _ h)
  have hl : lv_has ls 5 [(0, .ref (ad 0)), (1, .int x1), (2, .int x2), (3, .int x3)] := hl
  have hk := hC
  refine lv_aload_n hx hb dL_logs_0 rfl (lv_at hl 0 rfl) ?_
  refine lv_iload_n hx hb dL_logs_1 rfl (lv_at hl 1 rfl) ?_
  refine lv_iload_n hx hb dL_logs_2 rfl (lv_at hl 2 rfl) ?_
  refine lv_iload_n hx hb dL_logs_3 rfl (lv_at hl 3 rfl) ?_
  refine gc_goB (pl := [0, 1, 2, 3, 4, 5, 6, 7, 8, 9, 10, 11, 12, 13, 14, 15, 16, 17, 18, 19, 20, 21, 22, 23, 24, 25, 26, 27, 28, 29, 30, 31, 32]) (S2 := SC) (ad := ad) (sg := sg0) (vx_runV (As := [.int x1, .int x2, .int x3]) (rest := []) ⟨hx, hb, hml, hown, hts⟩ (m_f_X2_logs l hl9 D cI cJ (fun j => ad (gw_p [0, 1, 2, 3, 4, 5, 6, 7, 8, 9, 10, 11, 12, 13, 14, 15, 16, 17, 18, 19, 20, 21, 22, 23, 24, 25, 26, 27, 28, 29, 30, 31, 32] j)) (fun j => sg0 (gw_p [0, 1, 2, 3, 4, 5, 6, 7, 8, 9, 10, 11, 12, 13, 14, 15, 16, 17, 18, 19, 20, 21, 22, 23, 24, 25, 26, 27, 28, 29, 30, 31, 32] j)) _ x1 x2 x3 T hT (cls_in hk)) (cwV 3 hts (gwV a197 a198 a199 a97 a200) rfl rfl rfl (by decide +kernel) ⟨by decide, by decide⟩) (gc_preV hK hP hD hS hA hE rfl rfl rfl rfl) rfl rfl hl.1 rfl (lv_room (Nat.le_of_ble_eq_true rfl)) dL_logs_4 ⟨by decide, by decide⟩) hP hD hS hA rfl (fun v1 sp2 sg3 H locs hp4 ha5 hb6 hP hD hS => ?_) (fun E9 x9 ce9 sp2 sg3 H locs hp4 hc1 hc2 hc3 ha5 hb6 hP hD hS => ?_)
  · obtain ⟨hk1, hk9, rfl⟩ := hp4
    have hk : EC (tLogs T x1 x2 x3) sg3 := cls_out hk1 ha5 rfl
    refine W.eq (g2 := F0 m 7 ls []) rfl ?_
    refine lv_goto (tgt := 18) hx hb dL_logs_7 (by decide) ?_
    refine lv_iconst (v := (nI 0)) hx hb dL_logs_18 (by decide) ?_
    exact hret _ _ _ _ _ _ hP hS dL_logs_19 (⟨by rw [uT_t hk9]; exact hk, by rw [hk9]⟩)
  · obtain ⟨hk1, hE9⟩ := hp4
    have hk : EC T sg3 := cls_out hk1 ha5 rfl
    rcases hE9 with ⟨rfl, hk9⟩ | ⟨rfl, hk9⟩
    · have hk9 : kLogs x1 x2 x3 = nI 1 := hk9
      refine vx_catch (own := RL) (name := "java/lang/IndexOutOfBoundsException") (E := "java/lang/IndexOutOfBoundsException") hown [] ⟨0, 7, 10, 13⟩ [⟨0, 7, 14, 15⟩] (by rw [hTab]; rfl) (fun z hz => nomatch hz) rfl (by decide) (hts _ a201) (hE.nest _ (.castable "java/lang/IndexOutOfBoundsException" "java/lang/IndexOutOfBoundsException") (by decide) rfl) hc1 hc2 hc3 ?_
      refine lv_astore (lv' := [(4, .ref x9), (0, .ref (ad 0)), (1, .int x1), (2, .int x2), (3, .int x3)]) hx hb dL_logs_10 hl (by decide) rfl (fun ls hl => ?_)
      refine lv_iconst (v := (nI 1)) hx hb dL_logs_12 (by decide) ?_
      exact hret _ _ _ _ _ _ hP hS dL_logs_13 (⟨by rw [uT_f (by rw [hk9]; decide)]; exact hk, by rw [hk9]⟩)
    · have hk9 : kLogs x1 x2 x3 = nI 2 := hk9
      refine vx_catch (own := RL) (name := "java/lang/IllegalArgumentException") (E := "java/lang/IllegalArgumentException") hown [⟨0, 7, 10, 13⟩] ⟨0, 7, 14, 15⟩ [] (by rw [hTab]; rfl) (fun z hz => by obtain rfl := List.mem_singleton.mp hz; exact Or.inr ⟨by decide, "java/lang/IndexOutOfBoundsException", hts _ a201, hE.2.2.2.2 ("java/lang/IllegalArgumentException", "java/lang/IndexOutOfBoundsException") (by decide)⟩) rfl (by decide) (hts _ a202) (hE.nest _ (.castable "java/lang/IllegalArgumentException" "java/lang/IllegalArgumentException") (by decide) rfl) hc1 hc2 hc3 ?_
      refine lv_astore (lv' := [(4, .ref x9), (0, .ref (ad 0)), (1, .int x1), (2, .int x2), (3, .int x3)]) hx hb dL_logs_14 hl (by decide) rfl (fun ls hl => ?_)
      refine lv_iconst (v := (nI 2)) hx hb dL_logs_16 (by decide) ?_
      exact hret _ _ _ _ _ _ hP hS dL_logs_17 (⟨by rw [uT_f (by rw [hk9]; decide)]; exact hk, by rw [hk9]⟩)
abbrev rmf_L_pattern : Room := { frames := 8, cells := 3, slots := 18, locals := 127 }
set_option maxRecDepth 100000 in
set_option maxHeartbeats 4000000 in
theorem m_f_L_pattern (l : Launch) (hl9 : l.stackTraces = false) (D : va_G) (cI : ClassId) (cJ : ClassId × ClassId) (ad : Nat → Nat) (sg0 : Nat → Nat → Int32) (sz : Nat) (x1 : Int32) (x2 : Int32) (T : TS) (hT : TOk T) (hC : EC T sg0) : gc_M l yL_pattern wsL_pattern rmf_L_pattern D vwCl (tyS cI cJ) cI cJ gxT gxN SW [.ref (ad 0), .int x1, .int x2, .ref (ad 33)] ad sg0 sz 3 18 (fun v sg2 => EC (uT (kPattern (nI (yN T.1)) x1 x2) (tPattern T x1 x2) T) sg2 ∧ v = some (.int (kPattern (nI (yN T.1)) x1 x2)) ∧ (kPattern (nI (yN T.1)) x1 x2 = nI 0 → sg2 33 0 = nI (yN T.1))) := by
  refine gc_Wi_of (cc := cL_pattern) (maxL := 5) (hh := hhL_pattern) (by decide) rfl (Nat.le_of_ble_eq_true rfl) ?_
  intro p e s m below meth c A ls Q hin hTab hE hret
  obtain ⟨⟨hx, hb, hml, hown, hts⟩, -, hlocks, -, hA, hP, hK, hD, hS, hl⟩ := hin
  have hts : ∀ w ∈ wsAll, w.before ([.ref (ad 0), .int x1, .int x2, .ref (ad 33)] : List Value).toArray s = true := fun w h => hts w (List.mem_cons_of_mem _ h)
  have hl : lv_has ls 5 [(0, .ref (ad 0)), (1, .int x1), (2, .int x2), (3, .ref (ad 33))] := hl
  have hk := hC
  refine lv_aload_n hx hb dL_pattern_0 rfl (lv_at hl 3 rfl) ?_
  refine lv_iconst (v := (nI 0)) hx hb dL_pattern_1 (by decide) ?_
  refine lv_aload_n hx hb dL_pattern_2 rfl (lv_at hl 0 rfl) ?_
  refine lv_iload_n hx hb dL_pattern_3 rfl (lv_at hl 1 rfl) ?_
  refine lv_iload_n hx hb dL_pattern_4 rfl (lv_at hl 2 rfl) ?_
  refine gc_goB (pl := [0, 1, 2, 3, 4, 5, 6, 7, 8, 9, 10, 11, 12, 13, 14, 15, 16, 17, 18, 19, 20, 21, 22, 23, 24, 25, 26, 27, 28, 29, 30, 31, 32]) (S2 := SC) (ad := ad) (sg := sg0) (vx_runV (As := [.int x1, .int x2]) (rest := [.int (nI 0), .ref (ad 33)]) ⟨hx, hb, hml, hown, hts⟩ (m_f_X2_pattern l hl9 D cI cJ (fun j => ad (gw_p [0, 1, 2, 3, 4, 5, 6, 7, 8, 9, 10, 11, 12, 13, 14, 15, 16, 17, 18, 19, 20, 21, 22, 23, 24, 25, 26, 27, 28, 29, 30, 31, 32] j)) (fun j => sg0 (gw_p [0, 1, 2, 3, 4, 5, 6, 7, 8, 9, 10, 11, 12, 13, 14, 15, 16, 17, 18, 19, 20, 21, 22, 23, 24, 25, 26, 27, 28, 29, 30, 31, 32] j)) _ x1 x2 T hT (cls_in hk)) (cwV 2 hts (gwV a203 a204 a205 a97 a206) rfl rfl rfl (by decide +kernel) ⟨by decide, by decide⟩) (gc_preV hK hP hD hS hA hE rfl rfl rfl rfl) rfl rfl hl.1 rfl (lv_room (Nat.le_of_ble_eq_true rfl)) dL_pattern_5 ⟨by decide, by decide⟩) hP hD hS hA rfl (fun v1 sp2 sg3 H locs hp4 ha5 hb6 hP hD hS => ?_) (fun E9 x9 ce9 sp2 sg3 H locs hp4 hc1 hc2 hc3 ha5 hb6 hP hD hS => ?_)
  · obtain ⟨hk1, hk9, rfl⟩ := hp4
    have hk : EC (tPattern T x1 x2) sg3 := cls_out hk1 ha5 rfl
    refine W.eq (g2 := F0 m 8 ls [.int (nI (yN T.1)), .int (nI 0), .ref (ad 33)]) rfl ?_
    refine lv_i2l hx hb dL_pattern_8 rfl ?_
    refine gw_last hx hb hK hP hD hS 33 2 (n := 1) rfl rfl (i := 0) (x := (nI (yN T.1))) (by decide) (by decide) dL_pattern_9 (fun H locs hP hD hS => ?_)
    obtain ⟨sg7, esg7⟩ : ∃ z : Nat → Nat → Int32, z = gw_u sg3 33 (upd (sg3 33) 0 (nI (yN T.1))) := ⟨_, rfl⟩
    rw [← esg7] at hP hD
    have hk : EC (tPattern T x1 x2) sg7 := by rw [esg7]; exact hk.cong (fun k9 h9 => gw_u_n _ _ (by omega))
    have ho : sg7 33 0 = nI (yN T.1) := by simp [esg7, gw_u, upd]
    refine lv_goto (tgt := 25) hx hb dL_pattern_10 (by decide) ?_
    refine lv_iconst (v := (nI 0)) hx hb dL_pattern_25 (by decide) ?_
    exact hret _ _ _ _ _ _ hP hS dL_pattern_26 (⟨by rw [uT_t hk9]; exact hk, by rw [hk9], fun _ => ho⟩)
  · obtain ⟨hk1, hE9⟩ := hp4
    have hk : EC T sg3 := cls_out hk1 ha5 rfl
    rcases hE9 with ⟨rfl, hk9⟩ | ⟨rfl, hk9⟩ | ⟨rfl, hk9⟩
    · have hk9 : kPattern (nI (yN T.1)) x1 x2 = nI 1 := hk9
      refine vx_catch (own := RL) (name := "java/lang/IndexOutOfBoundsException") (E := "java/lang/IndexOutOfBoundsException") hown [] ⟨0, 10, 13, 13⟩ [⟨0, 10, 17, 15⟩, ⟨0, 10, 21, 21⟩] (by rw [hTab]; rfl) (fun z hz => nomatch hz) rfl (by decide) (hts _ a201) (hE.nest _ (.castable "java/lang/IndexOutOfBoundsException" "java/lang/IndexOutOfBoundsException") (by decide) rfl) hc1 hc2 hc3 ?_
      refine lv_astore (lv' := [(4, .ref x9), (0, .ref (ad 0)), (1, .int x1), (2, .int x2), (3, .ref (ad 33))]) hx hb dL_pattern_13 hl (by decide) rfl (fun ls hl => ?_)
      refine lv_iconst (v := (nI 1)) hx hb dL_pattern_15 (by decide) ?_
      exact hret _ _ _ _ _ _ hP hS dL_pattern_16 (⟨by rw [uT_f (by rw [hk9]; decide)]; exact hk, by rw [hk9], fun h9 => absurd (hk9.symm.trans h9) (by decide)⟩)
    · have hk9 : kPattern (nI (yN T.1)) x1 x2 = nI 2 := hk9
      refine vx_catch (own := RL) (name := "java/lang/IllegalArgumentException") (E := "java/lang/IllegalArgumentException") hown [⟨0, 10, 13, 13⟩] ⟨0, 10, 17, 15⟩ [⟨0, 10, 21, 21⟩] (by rw [hTab]; rfl) (fun z hz => by obtain rfl := List.mem_singleton.mp hz; exact Or.inr ⟨by decide, "java/lang/IndexOutOfBoundsException", hts _ a201, hE.2.2.2.2 ("java/lang/IllegalArgumentException", "java/lang/IndexOutOfBoundsException") (by decide)⟩) rfl (by decide) (hts _ a202) (hE.nest _ (.castable "java/lang/IllegalArgumentException" "java/lang/IllegalArgumentException") (by decide) rfl) hc1 hc2 hc3 ?_
      refine lv_astore (lv' := [(4, .ref x9), (0, .ref (ad 0)), (1, .int x1), (2, .int x2), (3, .ref (ad 33))]) hx hb dL_pattern_17 hl (by decide) rfl (fun ls hl => ?_)
      refine lv_iconst (v := (nI 2)) hx hb dL_pattern_19 (by decide) ?_
      exact hret _ _ _ _ _ _ hP hS dL_pattern_20 (⟨by rw [uT_f (by rw [hk9]; decide)]; exact hk, by rw [hk9], fun h9 => absurd (hk9.symm.trans h9) (by decide)⟩)
    · have hk9 : kPattern (nI (yN T.1)) x1 x2 = nI 3 := hk9
      refine vx_catch (own := RL) (name := "java/lang/IllegalStateException") (E := "java/lang/IllegalStateException") hown [⟨0, 10, 13, 13⟩, ⟨0, 10, 17, 15⟩] ⟨0, 10, 21, 21⟩ [] (by rw [hTab]; rfl) (fun z hz => (List.mem_cons.mp hz).elim (fun q9 => by subst q9; exact Or.inr ⟨by decide, "java/lang/IndexOutOfBoundsException", hts _ a201, hE.2.2.2.2 ("java/lang/IllegalStateException", "java/lang/IndexOutOfBoundsException") (by decide)⟩) (fun hz => by obtain rfl := List.mem_singleton.mp hz; exact Or.inr ⟨by decide, "java/lang/IllegalArgumentException", hts _ a202, hE.2.2.2.2 ("java/lang/IllegalStateException", "java/lang/IllegalArgumentException") (by decide)⟩)) rfl (by decide) (hts _ a207) (hE.nest _ (.castable "java/lang/IllegalStateException" "java/lang/IllegalStateException") (by decide) rfl) hc1 hc2 hc3 ?_
      refine lv_astore (lv' := [(4, .ref x9), (0, .ref (ad 0)), (1, .int x1), (2, .int x2), (3, .ref (ad 33))]) hx hb dL_pattern_21 hl (by decide) rfl (fun ls hl => ?_)
      refine lv_iconst (v := (nI 3)) hx hb dL_pattern_23 (by decide) ?_
      exact hret _ _ _ _ _ _ hP hS dL_pattern_24 (⟨by rw [uT_f (by rw [hk9]; decide)]; exact hk, by rw [hk9], fun h9 => absurd (hk9.symm.trans h9) (by decide)⟩)
abbrev rmf_L_gives : Room := { frames := 8, cells := 3, slots := 18, locals := 127 }
set_option maxRecDepth 100000 in
set_option maxHeartbeats 4000000 in
theorem m_f_L_gives (l : Launch) (hl9 : l.stackTraces = false) (D : va_G) (cI : ClassId) (cJ : ClassId × ClassId) (ad : Nat → Nat) (sg0 : Nat → Nat → Int32) (sz : Nat) (x1 : Int32) (x2 : Int32) (x3 : Int32) (T : TS) (hT : TOk T) (hC : EC T sg0) : gc_M l yL_gives wsL_gives rmf_L_gives D vwCl (tyS cI cJ) cI cJ gxT gxN SW [.ref (ad 0), .int x1, .int x2, .int x3] ad sg0 sz 3 18 (fun v sg2 => EC (uT (kGives (nI (yN T.1)) x1 x2 x3) (tGives T x1 x2 x3) T) sg2 ∧ v = some (.int (kGives (nI (yN T.1)) x1 x2 x3))) := by
  refine gc_Wi_of (cc := cL_gives) (maxL := 5) (hh := hhL_gives) (by decide) rfl (Nat.le_of_ble_eq_true rfl) ?_
  intro p e s m below meth c A ls Q hin hTab hE hret
  obtain ⟨⟨hx, hb, hml, hown, hts⟩, -, hlocks, -, hA, hP, hK, hD, hS, hl⟩ := hin
  have hts : ∀ w ∈ wsAll, w.before ([.ref (ad 0), .int x1, .int x2, .int x3] : List Value).toArray s = true := fun w h => hts w (List.mem_cons_of_mem _ h)
  have hl : lv_has ls 5 [(0, .ref (ad 0)), (1, .int x1), (2, .int x2), (3, .int x3)] := hl
  have hk := hC
  refine lv_aload_n hx hb dL_gives_0 rfl (lv_at hl 0 rfl) ?_
  refine lv_iload_n hx hb dL_gives_1 rfl (lv_at hl 1 rfl) ?_
  refine lv_iload_n hx hb dL_gives_2 rfl (lv_at hl 2 rfl) ?_
  refine lv_iload_n hx hb dL_gives_3 rfl (lv_at hl 3 rfl) ?_
  refine gc_goB (pl := [0, 1, 2, 3, 4, 5, 6, 7, 8, 9, 10, 11, 12, 13, 14, 15, 16, 17, 18, 19, 20, 21, 22, 23, 24, 25, 26, 27, 28, 29, 30, 31, 32]) (S2 := SC) (ad := ad) (sg := sg0) (vx_runV (As := [.int x1, .int x2, .int x3]) (rest := []) ⟨hx, hb, hml, hown, hts⟩ (m_f_X2_gives l hl9 D cI cJ (fun j => ad (gw_p [0, 1, 2, 3, 4, 5, 6, 7, 8, 9, 10, 11, 12, 13, 14, 15, 16, 17, 18, 19, 20, 21, 22, 23, 24, 25, 26, 27, 28, 29, 30, 31, 32] j)) (fun j => sg0 (gw_p [0, 1, 2, 3, 4, 5, 6, 7, 8, 9, 10, 11, 12, 13, 14, 15, 16, 17, 18, 19, 20, 21, 22, 23, 24, 25, 26, 27, 28, 29, 30, 31, 32] j)) _ x1 x2 x3 T hT (cls_in hk)) (cwV 3 hts (gwV a208 a209 a210 a97 a211) rfl rfl rfl (by decide +kernel) ⟨by decide, by decide⟩) (gc_preV hK hP hD hS hA hE rfl rfl rfl rfl) rfl rfl hl.1 rfl (lv_room (Nat.le_of_ble_eq_true rfl)) dL_gives_4 ⟨by decide, by decide⟩) hP hD hS hA rfl (fun v1 sp2 sg3 H locs hp4 ha5 hb6 hP hD hS => ?_) (fun E9 x9 ce9 sp2 sg3 H locs hp4 hc1 hc2 hc3 ha5 hb6 hP hD hS => ?_)
  · obtain ⟨hk1, hk9, rfl⟩ := hp4
    have hk : EC (tGives T x1 x2 x3) sg3 := cls_out hk1 ha5 rfl
    refine W.eq (g2 := F0 m 7 ls []) rfl ?_
    refine lv_goto (tgt := 18) hx hb dL_gives_7 (by decide) ?_
    refine lv_iconst (v := (nI 0)) hx hb dL_gives_18 (by decide) ?_
    exact hret _ _ _ _ _ _ hP hS dL_gives_19 (⟨by rw [uT_t hk9]; exact hk, by rw [hk9]⟩)
  · obtain ⟨hk1, hE9⟩ := hp4
    have hk : EC T sg3 := cls_out hk1 ha5 rfl
    rcases hE9 with ⟨rfl, hk9⟩ | ⟨rfl, hk9⟩
    · have hk9 : kGives (nI (yN T.1)) x1 x2 x3 = nI 1 := hk9
      refine vx_catch (own := RL) (name := "java/lang/IndexOutOfBoundsException") (E := "java/lang/IndexOutOfBoundsException") hown [] ⟨0, 7, 10, 13⟩ [⟨0, 7, 14, 15⟩] (by rw [hTab]; rfl) (fun z hz => nomatch hz) rfl (by decide) (hts _ a201) (hE.nest _ (.castable "java/lang/IndexOutOfBoundsException" "java/lang/IndexOutOfBoundsException") (by decide) rfl) hc1 hc2 hc3 ?_
      refine lv_astore (lv' := [(4, .ref x9), (0, .ref (ad 0)), (1, .int x1), (2, .int x2), (3, .int x3)]) hx hb dL_gives_10 hl (by decide) rfl (fun ls hl => ?_)
      refine lv_iconst (v := (nI 1)) hx hb dL_gives_12 (by decide) ?_
      exact hret _ _ _ _ _ _ hP hS dL_gives_13 (⟨by rw [uT_f (by rw [hk9]; decide)]; exact hk, by rw [hk9]⟩)
    · have hk9 : kGives (nI (yN T.1)) x1 x2 x3 = nI 2 := hk9
      refine vx_catch (own := RL) (name := "java/lang/IllegalArgumentException") (E := "java/lang/IllegalArgumentException") hown [⟨0, 7, 10, 13⟩] ⟨0, 7, 14, 15⟩ [] (by rw [hTab]; rfl) (fun z hz => by obtain rfl := List.mem_singleton.mp hz; exact Or.inr ⟨by decide, "java/lang/IndexOutOfBoundsException", hts _ a201, hE.2.2.2.2 ("java/lang/IllegalArgumentException", "java/lang/IndexOutOfBoundsException") (by decide)⟩) rfl (by decide) (hts _ a202) (hE.nest _ (.castable "java/lang/IllegalArgumentException" "java/lang/IllegalArgumentException") (by decide) rfl) hc1 hc2 hc3 ?_
      refine lv_astore (lv' := [(4, .ref x9), (0, .ref (ad 0)), (1, .int x1), (2, .int x2), (3, .int x3)]) hx hb dL_gives_14 hl (by decide) rfl (fun ls hl => ?_)
      refine lv_iconst (v := (nI 2)) hx hb dL_gives_16 (by decide) ?_
      exact hret _ _ _ _ _ _ hP hS dL_gives_17 (⟨by rw [uT_f (by rw [hk9]; decide)]; exact hk, by rw [hk9]⟩)
abbrev rmf_L_order : Room := { frames := 8, cells := 4, slots := 24, locals := 128 }
set_option maxRecDepth 100000 in
set_option maxHeartbeats 4000000 in
theorem m_f_L_order (l : Launch) (hl9 : l.stackTraces = false) (D : va_G) (cI : ClassId) (cJ : ClassId × ClassId) (ad : Nat → Nat) (sg0 : Nat → Nat → Int32) (sz : Nat) (x1 : Int32) (x2 : Int32) (x3 : Int32) (x4 : Int32) (T : TS) (hT : TOk T) (hC : EC T sg0) : gc_M l yL_order wsL_order rmf_L_order D vwCl (tyS cI cJ) cI cJ gxT gxN SW [.ref (ad 0), .int x1, .int x2, .int x3, .int x4] ad sg0 sz 4 24 (fun v sg2 => EC (uT (kOrder x1 x2 x3 x4) (tOrder T x1 x2 x3 x4) T) sg2 ∧ v = some (.int (kOrder x1 x2 x3 x4))) := by
  refine gc_Wi_of (cc := cL_order) (maxL := 6) (hh := hhL_order) (by decide) rfl (Nat.le_of_ble_eq_true rfl) ?_
  intro p e s m below meth c A ls Q hin hTab hE hret
  obtain ⟨⟨hx, hb, hml, hown, hts⟩, -, hlocks, -, hA, hP, hK, hD, hS, hl⟩ := hin
  have hts : ∀ w ∈ wsAll, w.before ([.ref (ad 0), .int x1, .int x2, .int x3, .int x4] : List Value).toArray s = true := fun w h => hts w (List.mem_cons_of_mem _ h)
  have hl : lv_has ls 6 [(0, .ref (ad 0)), (1, .int x1), (2, .int x2), (3, .int x3), (4, .int x4)] := hl
  have hk := hC
  refine lv_aload_n hx hb dL_order_0 rfl (lv_at hl 0 rfl) ?_
  refine lv_iload_n hx hb dL_order_1 rfl (lv_at hl 1 rfl) ?_
  refine lv_iload_n hx hb dL_order_2 rfl (lv_at hl 2 rfl) ?_
  refine lv_iload_n hx hb dL_order_3 rfl (lv_at hl 3 rfl) ?_
  refine lv_iload hx hb dL_order_4 (lv_at hl 4 rfl) ?_
  refine gc_goB (pl := [0, 1, 2, 3, 4, 5, 6, 7, 8, 9, 10, 11, 12, 13, 14, 15, 16, 17, 18, 19, 20, 21, 22, 23, 24, 25, 26, 27, 28, 29, 30, 31, 32]) (S2 := SC) (ad := ad) (sg := sg0) (vx_runV (As := [.int x1, .int x2, .int x3, .int x4]) (rest := []) ⟨hx, hb, hml, hown, hts⟩ (m_f_X2_order l hl9 D cI cJ (fun j => ad (gw_p [0, 1, 2, 3, 4, 5, 6, 7, 8, 9, 10, 11, 12, 13, 14, 15, 16, 17, 18, 19, 20, 21, 22, 23, 24, 25, 26, 27, 28, 29, 30, 31, 32] j)) (fun j => sg0 (gw_p [0, 1, 2, 3, 4, 5, 6, 7, 8, 9, 10, 11, 12, 13, 14, 15, 16, 17, 18, 19, 20, 21, 22, 23, 24, 25, 26, 27, 28, 29, 30, 31, 32] j)) _ x1 x2 x3 x4 T hT (cls_in hk)) (cwV 4 hts (gwV a212 a213 a214 a97 a215) rfl rfl rfl (by decide +kernel) ⟨by decide, by decide⟩) (gc_preV hK hP hD hS hA hE rfl rfl rfl rfl) rfl rfl hl.1 rfl (lv_room (Nat.le_of_ble_eq_true rfl)) dL_order_6 ⟨by decide, by decide⟩) hP hD hS hA rfl (fun v1 sp2 sg3 H locs hp4 ha5 hb6 hP hD hS => ?_) (fun E9 x9 ce9 sp2 sg3 H locs hp4 hc1 hc2 hc3 ha5 hb6 hP hD hS => ?_)
  · obtain ⟨hk1, hk9, rfl⟩ := hp4
    have hk : EC (tOrder T x1 x2 x3 x4) sg3 := cls_out hk1 ha5 rfl
    refine W.eq (g2 := F0 m 9 ls []) rfl ?_
    refine lv_goto (tgt := 20) hx hb dL_order_9 (by decide) ?_
    refine lv_iconst (v := (nI 0)) hx hb dL_order_20 (by decide) ?_
    exact hret _ _ _ _ _ _ hP hS dL_order_21 (⟨by rw [uT_t hk9]; exact hk, by rw [hk9]⟩)
  · obtain ⟨hk1, hE9⟩ := hp4
    have hk : EC T sg3 := cls_out hk1 ha5 rfl
    rcases hE9 with ⟨rfl, hk9⟩ | ⟨rfl, hk9⟩
    · have hk9 : kOrder x1 x2 x3 x4 = nI 1 := hk9
      refine vx_catch (own := RL) (name := "java/lang/IndexOutOfBoundsException") (E := "java/lang/IndexOutOfBoundsException") hown [] ⟨0, 9, 12, 13⟩ [⟨0, 9, 16, 15⟩] (by rw [hTab]; rfl) (fun z hz => nomatch hz) rfl (by decide) (hts _ a201) (hE.nest _ (.castable "java/lang/IndexOutOfBoundsException" "java/lang/IndexOutOfBoundsException") (by decide) rfl) hc1 hc2 hc3 ?_
      refine lv_astore (lv' := [(5, .ref x9), (0, .ref (ad 0)), (1, .int x1), (2, .int x2), (3, .int x3), (4, .int x4)]) hx hb dL_order_12 hl (by decide) rfl (fun ls hl => ?_)
      refine lv_iconst (v := (nI 1)) hx hb dL_order_14 (by decide) ?_
      exact hret _ _ _ _ _ _ hP hS dL_order_15 (⟨by rw [uT_f (by rw [hk9]; decide)]; exact hk, by rw [hk9]⟩)
    · have hk9 : kOrder x1 x2 x3 x4 = nI 2 := hk9
      refine vx_catch (own := RL) (name := "java/lang/IllegalArgumentException") (E := "java/lang/IllegalArgumentException") hown [⟨0, 9, 12, 13⟩] ⟨0, 9, 16, 15⟩ [] (by rw [hTab]; rfl) (fun z hz => by obtain rfl := List.mem_singleton.mp hz; exact Or.inr ⟨by decide, "java/lang/IndexOutOfBoundsException", hts _ a201, hE.2.2.2.2 ("java/lang/IllegalArgumentException", "java/lang/IndexOutOfBoundsException") (by decide)⟩) rfl (by decide) (hts _ a202) (hE.nest _ (.castable "java/lang/IllegalArgumentException" "java/lang/IllegalArgumentException") (by decide) rfl) hc1 hc2 hc3 ?_
      refine lv_astore (lv' := [(5, .ref x9), (0, .ref (ad 0)), (1, .int x1), (2, .int x2), (3, .int x3), (4, .int x4)]) hx hb dL_order_16 hl (by decide) rfl (fun ls hl => ?_)
      refine lv_iconst (v := (nI 2)) hx hb dL_order_18 (by decide) ?_
      exact hret _ _ _ _ _ _ hP hS dL_order_19 (⟨by rw [uT_f (by rw [hk9]; decide)]; exact hk, by rw [hk9]⟩)
abbrev rmf_L_hours : Room := { frames := 8, cells := 2, slots := 12, locals := 126 }
set_option maxRecDepth 100000 in
set_option maxHeartbeats 4000000 in
theorem m_f_L_hours (l : Launch) (hl9 : l.stackTraces = false) (D : va_G) (cI : ClassId) (cJ : ClassId × ClassId) (ad : Nat → Nat) (sg0 : Nat → Nat → Int32) (sz : Nat) (x1 : Int32) (x2 : Int32) (T : TS) (hT : TOk T) (hC : EC T sg0) : gc_M l yL_hours wsL_hours rmf_L_hours D vwCl (tyS cI cJ) cI cJ gxT gxN SW [.ref (ad 0), .int x1, .int x2] ad sg0 sz 2 12 (fun v sg2 => EC (uT (kHours x1 x2) (tHours T x1 x2) T) sg2 ∧ v = some (.int (kHours x1 x2))) := by
  refine gc_Wi_of (cc := cL_hours) (maxL := 4) (hh := hhL_hours) (by decide) rfl (Nat.le_of_ble_eq_true rfl) ?_
  intro p e s m below meth c A ls Q hin hTab hE hret
  obtain ⟨⟨hx, hb, hml, hown, hts⟩, -, hlocks, -, hA, hP, hK, hD, hS, hl⟩ := hin
  have hts : ∀ w ∈ wsAll, w.before ([.ref (ad 0), .int x1, .int x2] : List Value).toArray s = true := fun w h => hts w (List.mem_cons_of_mem _ h)
  have hl : lv_has ls 4 [(0, .ref (ad 0)), (1, .int x1), (2, .int x2)] := hl
  have hk := hC
  refine lv_aload_n hx hb dL_hours_0 rfl (lv_at hl 0 rfl) ?_
  refine lv_iload_n hx hb dL_hours_1 rfl (lv_at hl 1 rfl) ?_
  refine lv_iload_n hx hb dL_hours_2 rfl (lv_at hl 2 rfl) ?_
  refine gc_goB (pl := [0, 1, 2, 3, 4, 5, 6, 7, 8, 9, 10, 11, 12, 13, 14, 15, 16, 17, 18, 19, 20, 21, 22, 23, 24, 25, 26, 27, 28, 29, 30, 31, 32]) (S2 := SC) (ad := ad) (sg := sg0) (vx_runV (As := [.int x1, .int x2]) (rest := []) ⟨hx, hb, hml, hown, hts⟩ (m_f_X2_hours l hl9 D cI cJ (fun j => ad (gw_p [0, 1, 2, 3, 4, 5, 6, 7, 8, 9, 10, 11, 12, 13, 14, 15, 16, 17, 18, 19, 20, 21, 22, 23, 24, 25, 26, 27, 28, 29, 30, 31, 32] j)) (fun j => sg0 (gw_p [0, 1, 2, 3, 4, 5, 6, 7, 8, 9, 10, 11, 12, 13, 14, 15, 16, 17, 18, 19, 20, 21, 22, 23, 24, 25, 26, 27, 28, 29, 30, 31, 32] j)) _ x1 x2 T hT (cls_in hk)) (cwV 2 hts (gwV a216 a217 a218 a97 a219) rfl rfl rfl (by decide +kernel) ⟨by decide, by decide⟩) (gc_preV hK hP hD hS hA hE rfl rfl rfl rfl) rfl rfl hl.1 rfl (lv_room (Nat.le_of_ble_eq_true rfl)) dL_hours_3 ⟨by decide, by decide⟩) hP hD hS hA rfl (fun v1 sp2 sg3 H locs hp4 ha5 hb6 hP hD hS => ?_) (fun E9 x9 ce9 sp2 sg3 H locs hp4 hc1 hc2 hc3 ha5 hb6 hP hD hS => ?_)
  · obtain ⟨hk1, hk9, rfl⟩ := hp4
    have hk : EC (tHours T x1 x2) sg3 := cls_out hk1 ha5 rfl
    refine W.eq (g2 := F0 m 6 ls []) rfl ?_
    refine lv_goto (tgt := 12) hx hb dL_hours_6 (by decide) ?_
    refine lv_iconst (v := (nI 0)) hx hb dL_hours_12 (by decide) ?_
    exact hret _ _ _ _ _ _ hP hS dL_hours_13 (⟨by rw [uT_t hk9]; exact hk, by rw [hk9]⟩)
  · obtain ⟨hk1, hE9⟩ := hp4
    have hk : EC T sg3 := cls_out hk1 ha5 rfl
    obtain ⟨rfl, hk9⟩ := hE9
    have hk9 : kHours x1 x2 = nI 1 := hk9
    refine vx_catch (own := RL) (name := "java/lang/IllegalArgumentException") (E := "java/lang/IllegalArgumentException") hown [] ⟨0, 6, 9, 15⟩ [] (by rw [hTab]; rfl) (fun z hz => nomatch hz) rfl (by decide) (hts _ a202) (hE.nest _ (.castable "java/lang/IllegalArgumentException" "java/lang/IllegalArgumentException") (by decide) rfl) hc1 hc2 hc3 ?_
    refine lv_astore_n (lv' := [(3, .ref x9), (0, .ref (ad 0)), (1, .int x1), (2, .int x2)]) hx hb dL_hours_9 rfl hl (by decide) rfl (fun ls hl => ?_)
    refine lv_iconst (v := (nI 1)) hx hb dL_hours_10 (by decide) ?_
    exact hret _ _ _ _ _ _ hP hS dL_hours_11 (⟨by rw [uT_f (by rw [hk9]; decide)]; exact hk, by rw [hk9]⟩)
abbrev rmf_L_run : Room := { frames := 18, cells := 1, slots := 6, locals := 387 }
set_option maxRecDepth 100000 in
set_option maxHeartbeats 4000000 in
theorem m_f_L_run (l : Launch) (hl9 : l.stackTraces = false) (D : va_G) (cI : ClassId) (cJ : ClassId × ClassId) (ad : Nat → Nat) (sg0 : Nat → Nat → Int32) (sz : Nat) (x1 : Int32) (T : TS) (hT : TOk T) (hC : EC T sg0) : gc_M l yL_run wsL_run rmf_L_run D vwCl (tyS cI cJ) cI cJ gxT gxN SW [.ref (ad 0), .int x1, .ref (ad 33)] ad sg0 sz 1 6 (fun v sg2 => EC (uT (kRun x1) (tRun T x1) T) sg2 ∧ v = some (.int (kRun x1)) ∧ (kRun x1 = nI 0 → sg2 33 0 = aRun T x1)) := by
  refine gc_Wi_of (cc := cL_run) (maxL := 4) (hh := hhL_run) (by decide) rfl (Nat.le_of_ble_eq_true rfl) ?_
  intro p e s m below meth c A ls Q hin hTab hE hret
  obtain ⟨⟨hx, hb, hml, hown, hts⟩, -, hlocks, -, hA, hP, hK, hD, hS, hl⟩ := hin
  have hts : ∀ w ∈ wsAll, w.before ([.ref (ad 0), .int x1, .ref (ad 33)] : List Value).toArray s = true := fun w h => hts w (List.mem_cons_of_mem _ h)
  have hl : lv_has ls 4 [(0, .ref (ad 0)), (1, .int x1), (2, .ref (ad 33))] := hl
  have hk := hC
  refine lv_aload_n hx hb dL_run_0 rfl (lv_at hl 2 rfl) ?_
  refine lv_iconst (v := (nI 0)) hx hb dL_run_1 (by decide) ?_
  refine lv_aload_n hx hb dL_run_2 rfl (lv_at hl 0 rfl) ?_
  refine lv_iload_n hx hb dL_run_3 rfl (lv_at hl 1 rfl) ?_
  refine gc_goB (pl := [0, 1, 2, 3, 4, 5, 6, 7, 8, 9, 10, 11, 12, 13, 14, 15, 16, 17, 18, 19, 20, 21, 22, 23, 24, 25, 26, 27, 28, 29, 30, 31, 32]) (S2 := SC) (ad := ad) (sg := sg0) (vx_runV (As := [.int x1]) (rest := [.int (nI 0), .ref (ad 33)]) ⟨hx, hb, hml, hown, hts⟩ (m_f_X2_run l hl9 D cI cJ (fun j => ad (gw_p [0, 1, 2, 3, 4, 5, 6, 7, 8, 9, 10, 11, 12, 13, 14, 15, 16, 17, 18, 19, 20, 21, 22, 23, 24, 25, 26, 27, 28, 29, 30, 31, 32] j)) (fun j => sg0 (gw_p [0, 1, 2, 3, 4, 5, 6, 7, 8, 9, 10, 11, 12, 13, 14, 15, 16, 17, 18, 19, 20, 21, 22, 23, 24, 25, 26, 27, 28, 29, 30, 31, 32] j)) _ x1 T hT (cls_in hk)) (cwV 1 hts (gwV a220 a221 a222 a97 a223) rfl rfl rfl (by decide +kernel) ⟨by decide, by decide⟩) (gc_preV hK hP hD hS hA hE rfl rfl rfl rfl) rfl rfl hl.1 rfl (lv_room (Nat.le_of_ble_eq_true rfl)) dL_run_4 ⟨by decide, by decide⟩) hP hD hS hA rfl (fun v1 sp2 sg3 H locs hp4 ha5 hb6 hP hD hS => ?_) (fun E9 x9 ce9 sp2 sg3 H locs hp4 hc1 hc2 hc3 ha5 hb6 hP hD hS => ?_)
  · obtain ⟨hk1, hk9, rfl⟩ := hp4
    have hk : EC (tRun T x1) sg3 := cls_out hk1 ha5 rfl
    refine W.eq (g2 := F0 m 7 ls [.int (aRun T x1), .int (nI 0), .ref (ad 33)]) rfl ?_
    refine lv_i2l hx hb dL_run_7 rfl ?_
    refine gw_last hx hb hK hP hD hS 33 2 (n := 1) rfl rfl (i := 0) (x := (aRun T x1)) (by decide) (by decide) dL_run_8 (fun H locs hP hD hS => ?_)
    obtain ⟨sg7, esg7⟩ : ∃ z : Nat → Nat → Int32, z = gw_u sg3 33 (upd (sg3 33) 0 (aRun T x1)) := ⟨_, rfl⟩
    rw [← esg7] at hP hD
    have hk : EC (tRun T x1) sg7 := by rw [esg7]; exact hk.cong (fun k9 h9 => gw_u_n _ _ (by omega))
    have ho : sg7 33 0 = aRun T x1 := by simp [esg7, gw_u, upd]
    refine lv_goto (tgt := 15) hx hb dL_run_9 (by decide) ?_
    refine lv_iconst (v := (nI 0)) hx hb dL_run_15 (by decide) ?_
    exact hret _ _ _ _ _ _ hP hS dL_run_16 (⟨by rw [uT_t hk9]; exact hk, by rw [hk9], fun _ => ho⟩)
  · obtain ⟨hk1, hE9⟩ := hp4
    have hk : EC T sg3 := cls_out hk1 ha5 rfl
    obtain ⟨rfl, hk9⟩ := hE9
    have hk9 : kRun x1 = nI 1 := hk9
    refine vx_catch (own := RL) (name := "java/lang/IllegalArgumentException") (E := "java/lang/IllegalArgumentException") hown [] ⟨0, 9, 12, 15⟩ [] (by rw [hTab]; rfl) (fun z hz => nomatch hz) rfl (by decide) (hts _ a202) (hE.nest _ (.castable "java/lang/IllegalArgumentException" "java/lang/IllegalArgumentException") (by decide) rfl) hc1 hc2 hc3 ?_
    refine lv_astore_n (lv' := [(3, .ref x9), (0, .ref (ad 0)), (1, .int x1), (2, .ref (ad 33))]) hx hb dL_run_12 rfl hl (by decide) rfl (fun ls hl => ?_)
    refine lv_iconst (v := (nI 1)) hx hb dL_run_13 (by decide) ?_
    exact hret _ _ _ _ _ _ hP hS dL_run_14 (⟨by rw [uT_f (by rw [hk9]; decide)]; exact hk, by rw [hk9], fun h9 => absurd (hk9.symm.trans h9) (by decide)⟩)
abbrev rmf_L_search : Room := { frames := 8, cells := 2, slots := 12, locals := 124 }
set_option maxRecDepth 100000 in
set_option maxHeartbeats 4000000 in
theorem m_f_L_search (l : Launch) (hl9 : l.stackTraces = false) (D : va_G) (cI : ClassId) (cJ : ClassId × ClassId) (ad : Nat → Nat) (sg0 : Nat → Nat → Int32) (sz : Nat) (x1 : Int32) (T : TS) (hT : TOk T) (hC : EC T sg0) : gc_M l yL_search wsL_search rmf_L_search D vwCl (tyS cI cJ) cI cJ gxT gxN SW [.ref (ad 0), .int x1, .ref (ad 33)] ad sg0 sz 2 12 (fun v sg2 => EC T sg2 ∧ ∃ r : Int32, v = some (.int r)) := by
  refine gc_Wi_of (cc := cL_search) (maxL := 4) (hh := hhL_search) (by decide) rfl (Nat.le_of_ble_eq_true rfl) ?_
  intro p e s m below meth c A ls Q hin hTab hE hret
  obtain ⟨⟨hx, hb, hml, hown, hts⟩, -, hlocks, -, hA, hP, hK, hD, hS, hl⟩ := hin
  have hts : ∀ w ∈ wsAll, w.before ([.ref (ad 0), .int x1, .ref (ad 33)] : List Value).toArray s = true := fun w h => hts w (List.mem_cons_of_mem _ h)
  have hl : lv_has ls 4 [(0, .ref (ad 0)), (1, .int x1), (2, .ref (ad 33))] := hl
  have hk := hC
  refine lv_aload_n hx hb dL_search_0 rfl (lv_at hl 2 rfl) ?_
  refine lv_iconst (v := (nI 0)) hx hb dL_search_1 (by decide) ?_
  refine lv_aload_n hx hb dL_search_2 rfl (lv_at hl 0 rfl) ?_
  refine lv_iload_n hx hb dL_search_3 rfl (lv_at hl 1 rfl) ?_
  refine gc_goB (pl := [0, 1, 2, 3, 4, 5, 6, 7, 8, 9, 10, 11, 12, 13, 14, 15, 16, 17, 18, 19, 20, 21, 22, 23, 24, 25, 26, 27, 28, 29, 30, 31, 32]) (S2 := SC) (ad := ad) (sg := sg0) (vx_runV (As := [.int x1]) (rest := [.int (nI 0), .ref (ad 33)]) ⟨hx, hb, hml, hown, hts⟩ (m_f_X2_search l hl9 D cI cJ (fun j => ad (gw_p [0, 1, 2, 3, 4, 5, 6, 7, 8, 9, 10, 11, 12, 13, 14, 15, 16, 17, 18, 19, 20, 21, 22, 23, 24, 25, 26, 27, 28, 29, 30, 31, 32] j)) (fun j => sg0 (gw_p [0, 1, 2, 3, 4, 5, 6, 7, 8, 9, 10, 11, 12, 13, 14, 15, 16, 17, 18, 19, 20, 21, 22, 23, 24, 25, 26, 27, 28, 29, 30, 31, 32] j)) _ x1 T hT (cls_in hk)) (cwV 1 hts (gwV a224 a225 a226 a97 a227) rfl rfl rfl (by decide +kernel) ⟨by decide, by decide⟩) (gc_preV hK hP hD hS hA hE rfl rfl rfl rfl) rfl rfl hl.1 rfl (lv_room (Nat.le_of_ble_eq_true rfl)) dL_search_4 ⟨by decide, by decide⟩) hP hD hS hA rfl (fun v1 sp2 sg3 H locs hp4 ha5 hb6 hP hD hS => ?_) (fun E9 x9 ce9 sp2 sg3 H locs hp4 hc1 hc2 hc3 ha5 hb6 hP hD hS => ?_)
  · obtain ⟨hk1, r7, rfl⟩ := hp4
    have hk : EC T sg3 := cls_out hk1 ha5 rfl
    refine W.eq (g2 := F0 m 7 ls [.int r7, .int (nI 0), .ref (ad 33)]) rfl ?_
    refine lv_i2l hx hb dL_search_7 rfl ?_
    refine gw_last hx hb hK hP hD hS 33 2 (n := 1) rfl rfl (i := 0) (x := r7) (by decide) (by decide) dL_search_8 (fun H locs hP hD hS => ?_)
    obtain ⟨sg8, esg8⟩ : ∃ z : Nat → Nat → Int32, z = gw_u sg3 33 (upd (sg3 33) 0 r7) := ⟨_, rfl⟩
    rw [← esg8] at hP hD
    have hk : EC (T) sg8 := by rw [esg8]; exact hk.cong (fun k9 h9 => gw_u_n _ _ (by omega))
    refine lv_goto (tgt := 18) hx hb dL_search_9 (by decide) ?_
    refine lv_iconst (v := (nI 0)) hx hb dL_search_18 (by decide) ?_
    exact hret _ _ _ _ _ _ hP hS dL_search_19 (⟨hk, _, rfl⟩)
  · obtain ⟨hk1, hE9⟩ := hp4
    have hk : EC T sg3 := cls_out hk1 ha5 rfl
    rcases hE9 with rfl | rfl
    · refine vx_catch (own := RL) (name := "java/lang/IndexOutOfBoundsException") (E := "java/lang/IndexOutOfBoundsException") hown [] ⟨0, 9, 12, 13⟩ [⟨0, 9, 15, 21⟩] (by rw [hTab]; rfl) (fun z hz => nomatch hz) rfl (by decide) (hts _ a201) (hE.nest _ (.castable "java/lang/IndexOutOfBoundsException" "java/lang/IndexOutOfBoundsException") (by decide) rfl) hc1 hc2 hc3 ?_
      refine lv_astore_n (lv' := [(3, .ref x9), (0, .ref (ad 0)), (1, .int x1), (2, .ref (ad 33))]) hx hb dL_search_12 rfl hl (by decide) rfl (fun ls hl => ?_)
      refine lv_iconst (v := (nI 1)) hx hb dL_search_13 (by decide) ?_
      exact hret _ _ _ _ _ _ hP hS dL_search_14 (⟨hk, _, rfl⟩)
    · refine vx_catch (own := RL) (name := "java/lang/IllegalStateException") (E := "java/lang/IllegalStateException") hown [⟨0, 9, 12, 13⟩] ⟨0, 9, 15, 21⟩ [] (by rw [hTab]; rfl) (fun z hz => by obtain rfl := List.mem_singleton.mp hz; exact Or.inr ⟨by decide, "java/lang/IndexOutOfBoundsException", hts _ a201, hE.2.2.2.2 ("java/lang/IllegalStateException", "java/lang/IndexOutOfBoundsException") (by decide)⟩) rfl (by decide) (hts _ a207) (hE.nest _ (.castable "java/lang/IllegalStateException" "java/lang/IllegalStateException") (by decide) rfl) hc1 hc2 hc3 ?_
      refine lv_astore_n (lv' := [(3, .ref x9), (0, .ref (ad 0)), (1, .int x1), (2, .ref (ad 33))]) hx hb dL_search_15 rfl hl (by decide) rfl (fun ls hl => ?_)
      refine lv_iconst (v := (nI 2)) hx hb dL_search_16 (by decide) ?_
      exact hret _ _ _ _ _ _ hP hS dL_search_17 (⟨hk, _, rfl⟩)
abbrev rmf_L_used : Room := { frames := 8, cells := 2, slots := 12, locals := 124 }
set_option maxRecDepth 100000 in
set_option maxHeartbeats 4000000 in
theorem m_f_L_used (l : Launch) (hl9 : l.stackTraces = false) (D : va_G) (cI : ClassId) (cJ : ClassId × ClassId) (ad : Nat → Nat) (sg0 : Nat → Nat → Int32) (sz : Nat) (x1 : Int32) (T : TS) (hT : TOk T) (hC : EC T sg0) : gc_M l yL_used wsL_used rmf_L_used D vwCl (tyS cI cJ) cI cJ gxT gxN SW [.ref (ad 0), .int x1, .ref (ad 33)] ad sg0 sz 2 12 (fun v sg2 => EC T sg2 ∧ v = some (.int (qUsed T x1)) ∧ (qUsed T x1 = nI 0 → sg2 33 0 = aUsed T x1)) := by
  refine gc_Wi_of (cc := cL_used) (maxL := 4) (hh := hhL_used) (by decide) rfl (Nat.le_of_ble_eq_true rfl) ?_
  intro p e s m below meth c A ls Q hin hTab hE hret
  obtain ⟨⟨hx, hb, hml, hown, hts⟩, -, hlocks, -, hA, hP, hK, hD, hS, hl⟩ := hin
  have hts : ∀ w ∈ wsAll, w.before ([.ref (ad 0), .int x1, .ref (ad 33)] : List Value).toArray s = true := fun w h => hts w (List.mem_cons_of_mem _ h)
  have hl : lv_has ls 4 [(0, .ref (ad 0)), (1, .int x1), (2, .ref (ad 33))] := hl
  have hk := hC
  refine lv_aload_n hx hb dL_used_0 rfl (lv_at hl 2 rfl) ?_
  refine lv_iconst (v := (nI 0)) hx hb dL_used_1 (by decide) ?_
  refine lv_aload_n hx hb dL_used_2 rfl (lv_at hl 0 rfl) ?_
  refine lv_iload_n hx hb dL_used_3 rfl (lv_at hl 1 rfl) ?_
  refine gc_goB (pl := [0, 1, 2, 3, 4, 5, 6, 7, 8, 9, 10, 11, 12, 13, 14, 15, 16, 17, 18, 19, 20, 21, 22, 23, 24, 25, 26, 27, 28, 29, 30, 31, 32]) (S2 := SC) (ad := ad) (sg := sg0) (vx_runV (As := [.int x1]) (rest := [.int (nI 0), .ref (ad 33)]) ⟨hx, hb, hml, hown, hts⟩ (m_f_X2_used l hl9 D cI cJ (fun j => ad (gw_p [0, 1, 2, 3, 4, 5, 6, 7, 8, 9, 10, 11, 12, 13, 14, 15, 16, 17, 18, 19, 20, 21, 22, 23, 24, 25, 26, 27, 28, 29, 30, 31, 32] j)) (fun j => sg0 (gw_p [0, 1, 2, 3, 4, 5, 6, 7, 8, 9, 10, 11, 12, 13, 14, 15, 16, 17, 18, 19, 20, 21, 22, 23, 24, 25, 26, 27, 28, 29, 30, 31, 32] j)) _ x1 T hT (cls_in hk)) (cwV 1 hts (gwV a228 a229 a230 a97 a231) rfl rfl rfl (by decide +kernel) ⟨by decide, by decide⟩) (gc_preV hK hP hD hS hA hE rfl rfl rfl rfl) rfl rfl hl.1 rfl (lv_room (Nat.le_of_ble_eq_true rfl)) dL_used_4 ⟨by decide, by decide⟩) hP hD hS hA rfl (fun v1 sp2 sg3 H locs hp4 ha5 hb6 hP hD hS => ?_) (fun E9 x9 ce9 sp2 sg3 H locs hp4 hc1 hc2 hc3 ha5 hb6 hP hD hS => ?_)
  · obtain ⟨hk1, hk9, rfl⟩ := hp4
    have hk : EC (T) sg3 := cls_out hk1 ha5 rfl
    refine W.eq (g2 := F0 m 7 ls [.int (aUsed T x1), .int (nI 0), .ref (ad 33)]) rfl ?_
    refine lv_i2l hx hb dL_used_7 rfl ?_
    refine gw_last hx hb hK hP hD hS 33 2 (n := 1) rfl rfl (i := 0) (x := (aUsed T x1)) (by decide) (by decide) dL_used_8 (fun H locs hP hD hS => ?_)
    obtain ⟨sg7, esg7⟩ : ∃ z : Nat → Nat → Int32, z = gw_u sg3 33 (upd (sg3 33) 0 (aUsed T x1)) := ⟨_, rfl⟩
    rw [← esg7] at hP hD
    have hk : EC (T) sg7 := by rw [esg7]; exact hk.cong (fun k9 h9 => gw_u_n _ _ (by omega))
    have ho : sg7 33 0 = aUsed T x1 := by simp [esg7, gw_u, upd]
    refine lv_goto (tgt := 18) hx hb dL_used_9 (by decide) ?_
    refine lv_iconst (v := (nI 0)) hx hb dL_used_18 (by decide) ?_
    exact hret _ _ _ _ _ _ hP hS dL_used_19 (⟨hk, by rw [hk9], fun _ => ho⟩)
  · obtain ⟨hk1, hE9⟩ := hp4
    have hk : EC T sg3 := cls_out hk1 ha5 rfl
    rcases hE9 with ⟨rfl, hk9⟩ | ⟨rfl, hk9⟩
    · have hk9 : qUsed T x1 = nI 1 := hk9
      refine vx_catch (own := RL) (name := "java/lang/IndexOutOfBoundsException") (E := "java/lang/IndexOutOfBoundsException") hown [] ⟨0, 9, 12, 13⟩ [⟨0, 9, 15, 21⟩] (by rw [hTab]; rfl) (fun z hz => nomatch hz) rfl (by decide) (hts _ a201) (hE.nest _ (.castable "java/lang/IndexOutOfBoundsException" "java/lang/IndexOutOfBoundsException") (by decide) rfl) hc1 hc2 hc3 ?_
      refine lv_astore_n (lv' := [(3, .ref x9), (0, .ref (ad 0)), (1, .int x1), (2, .ref (ad 33))]) hx hb dL_used_12 rfl hl (by decide) rfl (fun ls hl => ?_)
      refine lv_iconst (v := (nI 1)) hx hb dL_used_13 (by decide) ?_
      exact hret _ _ _ _ _ _ hP hS dL_used_14 (⟨hk, by rw [hk9], fun h9 => absurd (hk9.symm.trans h9) (by decide)⟩)
    · have hk9 : qUsed T x1 = nI 2 := hk9
      refine vx_catch (own := RL) (name := "java/lang/IllegalStateException") (E := "java/lang/IllegalStateException") hown [⟨0, 9, 12, 13⟩] ⟨0, 9, 15, 21⟩ [] (by rw [hTab]; rfl) (fun z hz => by obtain rfl := List.mem_singleton.mp hz; exact Or.inr ⟨by decide, "java/lang/IndexOutOfBoundsException", hts _ a201, hE.2.2.2.2 ("java/lang/IllegalStateException", "java/lang/IndexOutOfBoundsException") (by decide)⟩) rfl (by decide) (hts _ a207) (hE.nest _ (.castable "java/lang/IllegalStateException" "java/lang/IllegalStateException") (by decide) rfl) hc1 hc2 hc3 ?_
      refine lv_astore_n (lv' := [(3, .ref x9), (0, .ref (ad 0)), (1, .int x1), (2, .ref (ad 33))]) hx hb dL_used_15 rfl hl (by decide) rfl (fun ls hl => ?_)
      refine lv_iconst (v := (nI 2)) hx hb dL_used_16 (by decide) ?_
      exact hret _ _ _ _ _ _ hP hS dL_used_17 (⟨hk, by rw [hk9], fun h9 => absurd (hk9.symm.trans h9) (by decide)⟩)
abbrev rmf_L_best : Room := { frames := 8, cells := 2, slots := 12, locals := 124 }
set_option maxRecDepth 100000 in
set_option maxHeartbeats 4000000 in
theorem m_f_L_best (l : Launch) (hl9 : l.stackTraces = false) (D : va_G) (cI : ClassId) (cJ : ClassId × ClassId) (ad : Nat → Nat) (sg0 : Nat → Nat → Int32) (sz : Nat) (x1 : Int32) (T : TS) (hT : TOk T) (hC : EC T sg0) : gc_M l yL_best wsL_best rmf_L_best D vwCl (tyS cI cJ) cI cJ gxT gxN SW [.ref (ad 0), .int x1, .ref (ad 33)] ad sg0 sz 2 12 (fun v sg2 => EC T sg2 ∧ v = some (.int (qBest T x1)) ∧ (qBest T x1 = nI 0 → sg2 33 0 = aBest T x1)) := by
  refine gc_Wi_of (cc := cL_best) (maxL := 4) (hh := hhL_best) (by decide) rfl (Nat.le_of_ble_eq_true rfl) ?_
  intro p e s m below meth c A ls Q hin hTab hE hret
  obtain ⟨⟨hx, hb, hml, hown, hts⟩, -, hlocks, -, hA, hP, hK, hD, hS, hl⟩ := hin
  have hts : ∀ w ∈ wsAll, w.before ([.ref (ad 0), .int x1, .ref (ad 33)] : List Value).toArray s = true := fun w h => hts w (List.mem_cons_of_mem _ h)
  have hl : lv_has ls 4 [(0, .ref (ad 0)), (1, .int x1), (2, .ref (ad 33))] := hl
  have hk := hC
  refine lv_aload_n hx hb dL_best_0 rfl (lv_at hl 2 rfl) ?_
  refine lv_iconst (v := (nI 0)) hx hb dL_best_1 (by decide) ?_
  refine lv_aload_n hx hb dL_best_2 rfl (lv_at hl 0 rfl) ?_
  refine lv_iload_n hx hb dL_best_3 rfl (lv_at hl 1 rfl) ?_
  refine gc_goB (pl := [0, 1, 2, 3, 4, 5, 6, 7, 8, 9, 10, 11, 12, 13, 14, 15, 16, 17, 18, 19, 20, 21, 22, 23, 24, 25, 26, 27, 28, 29, 30, 31, 32]) (S2 := SC) (ad := ad) (sg := sg0) (vx_runV (As := [.int x1]) (rest := [.int (nI 0), .ref (ad 33)]) ⟨hx, hb, hml, hown, hts⟩ (m_f_X2_best l hl9 D cI cJ (fun j => ad (gw_p [0, 1, 2, 3, 4, 5, 6, 7, 8, 9, 10, 11, 12, 13, 14, 15, 16, 17, 18, 19, 20, 21, 22, 23, 24, 25, 26, 27, 28, 29, 30, 31, 32] j)) (fun j => sg0 (gw_p [0, 1, 2, 3, 4, 5, 6, 7, 8, 9, 10, 11, 12, 13, 14, 15, 16, 17, 18, 19, 20, 21, 22, 23, 24, 25, 26, 27, 28, 29, 30, 31, 32] j)) _ x1 T hT (cls_in hk)) (cwV 1 hts (gwV a232 a233 a234 a97 a235) rfl rfl rfl (by decide +kernel) ⟨by decide, by decide⟩) (gc_preV hK hP hD hS hA hE rfl rfl rfl rfl) rfl rfl hl.1 rfl (lv_room (Nat.le_of_ble_eq_true rfl)) dL_best_4 ⟨by decide, by decide⟩) hP hD hS hA rfl (fun v1 sp2 sg3 H locs hp4 ha5 hb6 hP hD hS => ?_) (fun E9 x9 ce9 sp2 sg3 H locs hp4 hc1 hc2 hc3 ha5 hb6 hP hD hS => ?_)
  · obtain ⟨hk1, hk9, rfl⟩ := hp4
    have hk : EC (T) sg3 := cls_out hk1 ha5 rfl
    refine W.eq (g2 := F0 m 7 ls [.int (aBest T x1), .int (nI 0), .ref (ad 33)]) rfl ?_
    refine lv_i2l hx hb dL_best_7 rfl ?_
    refine gw_last hx hb hK hP hD hS 33 2 (n := 1) rfl rfl (i := 0) (x := (aBest T x1)) (by decide) (by decide) dL_best_8 (fun H locs hP hD hS => ?_)
    obtain ⟨sg7, esg7⟩ : ∃ z : Nat → Nat → Int32, z = gw_u sg3 33 (upd (sg3 33) 0 (aBest T x1)) := ⟨_, rfl⟩
    rw [← esg7] at hP hD
    have hk : EC (T) sg7 := by rw [esg7]; exact hk.cong (fun k9 h9 => gw_u_n _ _ (by omega))
    have ho : sg7 33 0 = aBest T x1 := by simp [esg7, gw_u, upd]
    refine lv_goto (tgt := 18) hx hb dL_best_9 (by decide) ?_
    refine lv_iconst (v := (nI 0)) hx hb dL_best_18 (by decide) ?_
    exact hret _ _ _ _ _ _ hP hS dL_best_19 (⟨hk, by rw [hk9], fun _ => ho⟩)
  · obtain ⟨hk1, hE9⟩ := hp4
    have hk : EC T sg3 := cls_out hk1 ha5 rfl
    rcases hE9 with ⟨rfl, hk9⟩ | ⟨rfl, hk9⟩
    · have hk9 : qBest T x1 = nI 1 := hk9
      refine vx_catch (own := RL) (name := "java/lang/IndexOutOfBoundsException") (E := "java/lang/IndexOutOfBoundsException") hown [] ⟨0, 9, 12, 13⟩ [⟨0, 9, 15, 21⟩] (by rw [hTab]; rfl) (fun z hz => nomatch hz) rfl (by decide) (hts _ a201) (hE.nest _ (.castable "java/lang/IndexOutOfBoundsException" "java/lang/IndexOutOfBoundsException") (by decide) rfl) hc1 hc2 hc3 ?_
      refine lv_astore_n (lv' := [(3, .ref x9), (0, .ref (ad 0)), (1, .int x1), (2, .ref (ad 33))]) hx hb dL_best_12 rfl hl (by decide) rfl (fun ls hl => ?_)
      refine lv_iconst (v := (nI 1)) hx hb dL_best_13 (by decide) ?_
      exact hret _ _ _ _ _ _ hP hS dL_best_14 (⟨hk, by rw [hk9], fun h9 => absurd (hk9.symm.trans h9) (by decide)⟩)
    · have hk9 : qBest T x1 = nI 2 := hk9
      refine vx_catch (own := RL) (name := "java/lang/IllegalStateException") (E := "java/lang/IllegalStateException") hown [⟨0, 9, 12, 13⟩] ⟨0, 9, 15, 21⟩ [] (by rw [hTab]; rfl) (fun z hz => by obtain rfl := List.mem_singleton.mp hz; exact Or.inr ⟨by decide, "java/lang/IndexOutOfBoundsException", hts _ a201, hE.2.2.2.2 ("java/lang/IllegalStateException", "java/lang/IndexOutOfBoundsException") (by decide)⟩) rfl (by decide) (hts _ a207) (hE.nest _ (.castable "java/lang/IllegalStateException" "java/lang/IllegalStateException") (by decide) rfl) hc1 hc2 hc3 ?_
      refine lv_astore_n (lv' := [(3, .ref x9), (0, .ref (ad 0)), (1, .int x1), (2, .ref (ad 33))]) hx hb dL_best_15 rfl hl (by decide) rfl (fun ls hl => ?_)
      refine lv_iconst (v := (nI 2)) hx hb dL_best_16 (by decide) ?_
      exact hret _ _ _ _ _ _ hP hS dL_best_17 (⟨hk, by rw [hk9], fun h9 => absurd (hk9.symm.trans h9) (by decide)⟩)
abbrev rmf_L_made : Room := { frames := 8, cells := 2, slots := 12, locals := 124 }
set_option maxRecDepth 100000 in
set_option maxHeartbeats 4000000 in
theorem m_f_L_made (l : Launch) (hl9 : l.stackTraces = false) (D : va_G) (cI : ClassId) (cJ : ClassId × ClassId) (ad : Nat → Nat) (sg0 : Nat → Nat → Int32) (sz : Nat) (x1 : Int32) (T : TS) (hT : TOk T) (hC : EC T sg0) : gc_M l yL_made wsL_made rmf_L_made D vwCl (tyS cI cJ) cI cJ gxT gxN SW [.ref (ad 0), .int x1, .ref (ad 33)] ad sg0 sz 2 12 (fun v sg2 => EC T sg2 ∧ v = some (.int (qMade T x1)) ∧ (qMade T x1 = nI 0 → sg2 33 0 = aMade T x1)) := by
  refine gc_Wi_of (cc := cL_made) (maxL := 4) (hh := hhL_made) (by decide) rfl (Nat.le_of_ble_eq_true rfl) ?_
  intro p e s m below meth c A ls Q hin hTab hE hret
  obtain ⟨⟨hx, hb, hml, hown, hts⟩, -, hlocks, -, hA, hP, hK, hD, hS, hl⟩ := hin
  have hts : ∀ w ∈ wsAll, w.before ([.ref (ad 0), .int x1, .ref (ad 33)] : List Value).toArray s = true := fun w h => hts w (List.mem_cons_of_mem _ h)
  have hl : lv_has ls 4 [(0, .ref (ad 0)), (1, .int x1), (2, .ref (ad 33))] := hl
  have hk := hC
  refine lv_aload_n hx hb dL_made_0 rfl (lv_at hl 2 rfl) ?_
  refine lv_iconst (v := (nI 0)) hx hb dL_made_1 (by decide) ?_
  refine lv_aload_n hx hb dL_made_2 rfl (lv_at hl 0 rfl) ?_
  refine lv_iload_n hx hb dL_made_3 rfl (lv_at hl 1 rfl) ?_
  refine gc_goB (pl := [0, 1, 2, 3, 4, 5, 6, 7, 8, 9, 10, 11, 12, 13, 14, 15, 16, 17, 18, 19, 20, 21, 22, 23, 24, 25, 26, 27, 28, 29, 30, 31, 32]) (S2 := SC) (ad := ad) (sg := sg0) (vx_runV (As := [.int x1]) (rest := [.int (nI 0), .ref (ad 33)]) ⟨hx, hb, hml, hown, hts⟩ (m_f_X2_made l hl9 D cI cJ (fun j => ad (gw_p [0, 1, 2, 3, 4, 5, 6, 7, 8, 9, 10, 11, 12, 13, 14, 15, 16, 17, 18, 19, 20, 21, 22, 23, 24, 25, 26, 27, 28, 29, 30, 31, 32] j)) (fun j => sg0 (gw_p [0, 1, 2, 3, 4, 5, 6, 7, 8, 9, 10, 11, 12, 13, 14, 15, 16, 17, 18, 19, 20, 21, 22, 23, 24, 25, 26, 27, 28, 29, 30, 31, 32] j)) _ x1 T hT (cls_in hk)) (cwV 1 hts (gwV a236 a237 a238 a97 a239) rfl rfl rfl (by decide +kernel) ⟨by decide, by decide⟩) (gc_preV hK hP hD hS hA hE rfl rfl rfl rfl) rfl rfl hl.1 rfl (lv_room (Nat.le_of_ble_eq_true rfl)) dL_made_4 ⟨by decide, by decide⟩) hP hD hS hA rfl (fun v1 sp2 sg3 H locs hp4 ha5 hb6 hP hD hS => ?_) (fun E9 x9 ce9 sp2 sg3 H locs hp4 hc1 hc2 hc3 ha5 hb6 hP hD hS => ?_)
  · obtain ⟨hk1, hk9, rfl⟩ := hp4
    have hk : EC (T) sg3 := cls_out hk1 ha5 rfl
    refine W.eq (g2 := F0 m 7 ls [.int (aMade T x1), .int (nI 0), .ref (ad 33)]) rfl ?_
    refine lv_i2l hx hb dL_made_7 rfl ?_
    refine gw_last hx hb hK hP hD hS 33 2 (n := 1) rfl rfl (i := 0) (x := (aMade T x1)) (by decide) (by decide) dL_made_8 (fun H locs hP hD hS => ?_)
    obtain ⟨sg7, esg7⟩ : ∃ z : Nat → Nat → Int32, z = gw_u sg3 33 (upd (sg3 33) 0 (aMade T x1)) := ⟨_, rfl⟩
    rw [← esg7] at hP hD
    have hk : EC (T) sg7 := by rw [esg7]; exact hk.cong (fun k9 h9 => gw_u_n _ _ (by omega))
    have ho : sg7 33 0 = aMade T x1 := by simp [esg7, gw_u, upd]
    refine lv_goto (tgt := 18) hx hb dL_made_9 (by decide) ?_
    refine lv_iconst (v := (nI 0)) hx hb dL_made_18 (by decide) ?_
    exact hret _ _ _ _ _ _ hP hS dL_made_19 (⟨hk, by rw [hk9], fun _ => ho⟩)
  · obtain ⟨hk1, hE9⟩ := hp4
    have hk : EC T sg3 := cls_out hk1 ha5 rfl
    rcases hE9 with ⟨rfl, hk9⟩ | ⟨rfl, hk9⟩
    · have hk9 : qMade T x1 = nI 1 := hk9
      refine vx_catch (own := RL) (name := "java/lang/IndexOutOfBoundsException") (E := "java/lang/IndexOutOfBoundsException") hown [] ⟨0, 9, 12, 13⟩ [⟨0, 9, 15, 21⟩] (by rw [hTab]; rfl) (fun z hz => nomatch hz) rfl (by decide) (hts _ a201) (hE.nest _ (.castable "java/lang/IndexOutOfBoundsException" "java/lang/IndexOutOfBoundsException") (by decide) rfl) hc1 hc2 hc3 ?_
      refine lv_astore_n (lv' := [(3, .ref x9), (0, .ref (ad 0)), (1, .int x1), (2, .ref (ad 33))]) hx hb dL_made_12 rfl hl (by decide) rfl (fun ls hl => ?_)
      refine lv_iconst (v := (nI 1)) hx hb dL_made_13 (by decide) ?_
      exact hret _ _ _ _ _ _ hP hS dL_made_14 (⟨hk, by rw [hk9], fun h9 => absurd (hk9.symm.trans h9) (by decide)⟩)
    · have hk9 : qMade T x1 = nI 2 := hk9
      refine vx_catch (own := RL) (name := "java/lang/IllegalStateException") (E := "java/lang/IllegalStateException") hown [⟨0, 9, 12, 13⟩] ⟨0, 9, 15, 21⟩ [] (by rw [hTab]; rfl) (fun z hz => by obtain rfl := List.mem_singleton.mp hz; exact Or.inr ⟨by decide, "java/lang/IndexOutOfBoundsException", hts _ a201, hE.2.2.2.2 ("java/lang/IllegalStateException", "java/lang/IndexOutOfBoundsException") (by decide)⟩) rfl (by decide) (hts _ a207) (hE.nest _ (.castable "java/lang/IllegalStateException" "java/lang/IllegalStateException") (by decide) rfl) hc1 hc2 hc3 ?_
      refine lv_astore_n (lv' := [(3, .ref x9), (0, .ref (ad 0)), (1, .int x1), (2, .ref (ad 33))]) hx hb dL_made_15 rfl hl (by decide) rfl (fun ls hl => ?_)
      refine lv_iconst (v := (nI 2)) hx hb dL_made_16 (by decide) ?_
      exact hret _ _ _ _ _ _ hP hS dL_made_17 (⟨hk, by rw [hk9], fun h9 => absurd (hk9.symm.trans h9) (by decide)⟩)
abbrev rmf_L_saw : Room := { frames := 8, cells := 1, slots := 6, locals := 123 }
set_option maxRecDepth 100000 in
set_option maxHeartbeats 4000000 in
theorem m_f_L_saw (l : Launch) (hl9 : l.stackTraces = false) (D : va_G) (cI : ClassId) (cJ : ClassId × ClassId) (ad : Nat → Nat) (sg0 : Nat → Nat → Int32) (sz : Nat) (T : TS) (hT : TOk T) (hC : EC T sg0) : gc_M l yL_saw wsL_saw rmf_L_saw D vwCl (tyS cI cJ) cI cJ gxT gxN SW [.ref (ad 0), .ref (ad 33)] ad sg0 sz 1 6 (fun v sg2 => EC (uT (qSaw T) (tSaw T) T) sg2 ∧ v = some (.int (qSaw T)) ∧ (qSaw T = nI 0 → sg2 33 0 = aSaw T)) := by
  refine gc_Wi_of (cc := cL_saw) (maxL := 3) (hh := hhL_saw) (by decide) rfl (Nat.le_of_ble_eq_true rfl) ?_
  intro p e s m below meth c A ls Q hin hTab hE hret
  obtain ⟨⟨hx, hb, hml, hown, hts⟩, -, hlocks, -, hA, hP, hK, hD, hS, hl⟩ := hin
  have hts : ∀ w ∈ wsAll, w.before ([.ref (ad 0), .ref (ad 33)] : List Value).toArray s = true := fun w h => hts w (List.mem_cons_of_mem _ h)
  have hl : lv_has ls 3 [(0, .ref (ad 0)), (1, .ref (ad 33))] := hl
  have hk := hC
  refine lv_aload_n hx hb dL_saw_0 rfl (lv_at hl 1 rfl) ?_
  refine lv_iconst (v := (nI 0)) hx hb dL_saw_1 (by decide) ?_
  refine lv_aload_n hx hb dL_saw_2 rfl (lv_at hl 0 rfl) ?_
  refine gc_goB (pl := [0, 1, 2, 3, 4, 5, 6, 7, 8, 9, 10, 11, 12, 13, 14, 15, 16, 17, 18, 19, 20, 21, 22, 23, 24, 25, 26, 27, 28, 29, 30, 31, 32]) (S2 := SC) (ad := ad) (sg := sg0) (vx_runV (As := []) (rest := [.int (nI 0), .ref (ad 33)]) ⟨hx, hb, hml, hown, hts⟩ (m_f_X2_saw l hl9 D cI cJ (fun j => ad (gw_p [0, 1, 2, 3, 4, 5, 6, 7, 8, 9, 10, 11, 12, 13, 14, 15, 16, 17, 18, 19, 20, 21, 22, 23, 24, 25, 26, 27, 28, 29, 30, 31, 32] j)) (fun j => sg0 (gw_p [0, 1, 2, 3, 4, 5, 6, 7, 8, 9, 10, 11, 12, 13, 14, 15, 16, 17, 18, 19, 20, 21, 22, 23, 24, 25, 26, 27, 28, 29, 30, 31, 32] j)) _  T hT (cls_in hk)) (cwV 0 hts (gwV a240 a241 a242 a97 a243) rfl rfl rfl (by decide +kernel) ⟨by decide, by decide⟩) (gc_preV hK hP hD hS hA hE rfl rfl rfl rfl) rfl rfl hl.1 rfl (lv_room (Nat.le_of_ble_eq_true rfl)) dL_saw_3 ⟨by decide, by decide⟩) hP hD hS hA rfl (fun v1 sp2 sg3 H locs hp4 ha5 hb6 hP hD hS => ?_) (fun E9 x9 ce9 sp2 sg3 H locs hp4 hc1 hc2 hc3 ha5 hb6 hP hD hS => ?_)
  · obtain ⟨hk1, hk9, rfl⟩ := hp4
    have hk : EC (tSaw T) sg3 := cls_out hk1 ha5 rfl
    refine W.eq (g2 := F0 m 6 ls [.int (aSaw T), .int (nI 0), .ref (ad 33)]) rfl ?_
    refine lv_i2l hx hb dL_saw_6 rfl ?_
    refine gw_last hx hb hK hP hD hS 33 2 (n := 1) rfl rfl (i := 0) (x := (aSaw T)) (by decide) (by decide) dL_saw_7 (fun H locs hP hD hS => ?_)
    obtain ⟨sg7, esg7⟩ : ∃ z : Nat → Nat → Int32, z = gw_u sg3 33 (upd (sg3 33) 0 (aSaw T)) := ⟨_, rfl⟩
    rw [← esg7] at hP hD
    have hk : EC (tSaw T) sg7 := by rw [esg7]; exact hk.cong (fun k9 h9 => gw_u_n _ _ (by omega))
    have ho : sg7 33 0 = aSaw T := by simp [esg7, gw_u, upd]
    refine lv_goto (tgt := 14) hx hb dL_saw_8 (by decide) ?_
    refine lv_iconst (v := (nI 0)) hx hb dL_saw_14 (by decide) ?_
    exact hret _ _ _ _ _ _ hP hS dL_saw_15 (⟨by rw [uT_t hk9]; exact hk, by rw [hk9], fun _ => ho⟩)
  · obtain ⟨hk1, hE9⟩ := hp4
    have hk : EC T sg3 := cls_out hk1 ha5 rfl
    obtain ⟨rfl, hk9⟩ := hE9
    have hk9 : qSaw T = nI 1 := hk9
    refine vx_catch (own := RL) (name := "java/lang/IllegalStateException") (E := "java/lang/IllegalStateException") hown [] ⟨0, 8, 11, 21⟩ [] (by rw [hTab]; rfl) (fun z hz => nomatch hz) rfl (by decide) (hts _ a207) (hE.nest _ (.castable "java/lang/IllegalStateException" "java/lang/IllegalStateException") (by decide) rfl) hc1 hc2 hc3 ?_
    refine lv_astore_n (lv' := [(2, .ref x9), (0, .ref (ad 0)), (1, .ref (ad 33))]) hx hb dL_saw_11 rfl hl (by decide) rfl (fun ls hl => ?_)
    refine lv_iconst (v := (nI 1)) hx hb dL_saw_12 (by decide) ?_
    exact hret _ _ _ _ _ _ hP hS dL_saw_13 (⟨by rw [uT_f (by rw [hk9]; decide)]; exact hk, by rw [hk9], fun h9 => absurd (hk9.symm.trans h9) (by decide)⟩)
abbrev rmf_L_mill : Room := { frames := 8, cells := 1, slots := 6, locals := 124 }
set_option maxRecDepth 100000 in
set_option maxHeartbeats 4000000 in
theorem m_f_L_mill (l : Launch) (hl9 : l.stackTraces = false) (D : va_G) (cI : ClassId) (cJ : ClassId × ClassId) (ad : Nat → Nat) (sg0 : Nat → Nat → Int32) (sz : Nat) (x1 : Int32) (T : TS) (hT : TOk T) (hC : EC T sg0) : gc_M l yL_mill wsL_mill rmf_L_mill D vwCl (tyS cI cJ) cI cJ gxT gxN SW [.ref (ad 0), .int x1, .ref (ad 33)] ad sg0 sz 1 6 (fun v sg2 => EC T sg2 ∧ v = some (.int (kMill x1)) ∧ (kMill x1 = nI 0 → sg2 33 0 = aMill T x1)) := by
  refine gc_Wi_of (cc := cL_mill) (maxL := 4) (hh := hhL_mill) (by decide) rfl (Nat.le_of_ble_eq_true rfl) ?_
  intro p e s m below meth c A ls Q hin hTab hE hret
  obtain ⟨⟨hx, hb, hml, hown, hts⟩, -, hlocks, -, hA, hP, hK, hD, hS, hl⟩ := hin
  have hts : ∀ w ∈ wsAll, w.before ([.ref (ad 0), .int x1, .ref (ad 33)] : List Value).toArray s = true := fun w h => hts w (List.mem_cons_of_mem _ h)
  have hl : lv_has ls 4 [(0, .ref (ad 0)), (1, .int x1), (2, .ref (ad 33))] := hl
  have hk := hC
  refine lv_aload_n hx hb dL_mill_0 rfl (lv_at hl 2 rfl) ?_
  refine lv_iconst (v := (nI 0)) hx hb dL_mill_1 (by decide) ?_
  refine lv_aload_n hx hb dL_mill_2 rfl (lv_at hl 0 rfl) ?_
  refine lv_iload_n hx hb dL_mill_3 rfl (lv_at hl 1 rfl) ?_
  refine gc_goB (pl := [0, 1, 2, 3, 4, 5, 6, 7, 8, 9, 10, 11, 12, 13, 14, 15, 16, 17, 18, 19, 20, 21, 22, 23, 24, 25, 26, 27, 28, 29, 30, 31, 32]) (S2 := SC) (ad := ad) (sg := sg0) (vx_runV (As := [.int x1]) (rest := [.int (nI 0), .ref (ad 33)]) ⟨hx, hb, hml, hown, hts⟩ (m_f_X2_mill l hl9 D cI cJ (fun j => ad (gw_p [0, 1, 2, 3, 4, 5, 6, 7, 8, 9, 10, 11, 12, 13, 14, 15, 16, 17, 18, 19, 20, 21, 22, 23, 24, 25, 26, 27, 28, 29, 30, 31, 32] j)) (fun j => sg0 (gw_p [0, 1, 2, 3, 4, 5, 6, 7, 8, 9, 10, 11, 12, 13, 14, 15, 16, 17, 18, 19, 20, 21, 22, 23, 24, 25, 26, 27, 28, 29, 30, 31, 32] j)) _ x1 T hT (cls_in hk)) (cwV 1 hts (gwV a244 a245 a246 a97 a247) rfl rfl rfl (by decide +kernel) ⟨by decide, by decide⟩) (gc_preV hK hP hD hS hA hE rfl rfl rfl rfl) rfl rfl hl.1 rfl (lv_room (Nat.le_of_ble_eq_true rfl)) dL_mill_4 ⟨by decide, by decide⟩) hP hD hS hA rfl (fun v1 sp2 sg3 H locs hp4 ha5 hb6 hP hD hS => ?_) (fun E9 x9 ce9 sp2 sg3 H locs hp4 hc1 hc2 hc3 ha5 hb6 hP hD hS => ?_)
  · obtain ⟨hk1, hk9, rfl⟩ := hp4
    have hk : EC (T) sg3 := cls_out hk1 ha5 rfl
    refine W.eq (g2 := F0 m 7 ls [.int (aMill T x1), .int (nI 0), .ref (ad 33)]) rfl ?_
    refine lv_i2l hx hb dL_mill_7 rfl ?_
    refine gw_last hx hb hK hP hD hS 33 2 (n := 1) rfl rfl (i := 0) (x := (aMill T x1)) (by decide) (by decide) dL_mill_8 (fun H locs hP hD hS => ?_)
    obtain ⟨sg7, esg7⟩ : ∃ z : Nat → Nat → Int32, z = gw_u sg3 33 (upd (sg3 33) 0 (aMill T x1)) := ⟨_, rfl⟩
    rw [← esg7] at hP hD
    have hk : EC (T) sg7 := by rw [esg7]; exact hk.cong (fun k9 h9 => gw_u_n _ _ (by omega))
    have ho : sg7 33 0 = aMill T x1 := by simp [esg7, gw_u, upd]
    refine lv_goto (tgt := 15) hx hb dL_mill_9 (by decide) ?_
    refine lv_iconst (v := (nI 0)) hx hb dL_mill_15 (by decide) ?_
    exact hret _ _ _ _ _ _ hP hS dL_mill_16 (⟨hk, by rw [hk9], fun _ => ho⟩)
  · obtain ⟨hk1, hE9⟩ := hp4
    have hk : EC T sg3 := cls_out hk1 ha5 rfl
    obtain ⟨rfl, hk9⟩ := hE9
    have hk9 : kMill x1 = nI 1 := hk9
    refine vx_catch (own := RL) (name := "java/lang/IndexOutOfBoundsException") (E := "java/lang/IndexOutOfBoundsException") hown [] ⟨0, 9, 12, 13⟩ [] (by rw [hTab]; rfl) (fun z hz => nomatch hz) rfl (by decide) (hts _ a201) (hE.nest _ (.castable "java/lang/IndexOutOfBoundsException" "java/lang/IndexOutOfBoundsException") (by decide) rfl) hc1 hc2 hc3 ?_
    refine lv_astore_n (lv' := [(3, .ref x9), (0, .ref (ad 0)), (1, .int x1), (2, .ref (ad 33))]) hx hb dL_mill_12 rfl hl (by decide) rfl (fun ls hl => ?_)
    refine lv_iconst (v := (nI 1)) hx hb dL_mill_13 (by decide) ?_
    exact hret _ _ _ _ _ _ hP hS dL_mill_14 (⟨hk, by rw [hk9], fun h9 => absurd (hk9.symm.trans h9) (by decide)⟩)
abbrev rmf_L_cost : Room := { frames := 19, cells := 4, slots := 24, locals := 412 }
set_option maxRecDepth 100000 in
set_option maxHeartbeats 4000000 in
theorem m_f_L_cost (l : Launch) (hl9 : l.stackTraces = false) (D : va_G) (cI : ClassId) (cJ : ClassId × ClassId) (ad : Nat → Nat) (sg0 : Nat → Nat → Int32) (sz : Nat) (x1 : Int32) (x2 : Int32) (T : TS) (hT : TOk T) (hC : EC T sg0) : gc_M l yL_cost wsL_cost rmf_L_cost D vwCl (tyS cI cJ) cI cJ gxT gxN SW [.ref (ad 0), .int x1, .int x2, .ref (ad 33)] ad sg0 sz 4 24 (fun v sg2 => EC T sg2 ∧ v = some (.int (qCost T x1 x2)) ∧ (qCost T x1 x2 = nI 0 → sg2 33 0 = aCost T x1 x2)) := by
  refine gc_Wi_of (cc := cL_cost) (maxL := 5) (hh := hhL_cost) (by decide) rfl (Nat.le_of_ble_eq_true rfl) ?_
  intro p e s m below meth c A ls Q hin hTab hE hret
  obtain ⟨⟨hx, hb, hml, hown, hts⟩, -, hlocks, -, hA, hP, hK, hD, hS, hl⟩ := hin
  have hts : ∀ w ∈ wsAll, w.before ([.ref (ad 0), .int x1, .int x2, .ref (ad 33)] : List Value).toArray s = true := fun w h => hts w (List.mem_cons_of_mem _ h)
  have hl : lv_has ls 5 [(0, .ref (ad 0)), (1, .int x1), (2, .int x2), (3, .ref (ad 33))] := hl
  have hk := hC
  refine lv_aload_n hx hb dL_cost_0 rfl (lv_at hl 3 rfl) ?_
  refine lv_iconst (v := (nI 0)) hx hb dL_cost_1 (by decide) ?_
  refine lv_aload_n hx hb dL_cost_2 rfl (lv_at hl 0 rfl) ?_
  refine lv_iload_n hx hb dL_cost_3 rfl (lv_at hl 1 rfl) ?_
  refine lv_iload_n hx hb dL_cost_4 rfl (lv_at hl 2 rfl) ?_
  refine gc_goB (pl := [0, 1, 2, 3, 4, 5, 6, 7, 8, 9, 10, 11, 12, 13, 14, 15, 16, 17, 18, 19, 20, 21, 22, 23, 24, 25, 26, 27, 28, 29, 30, 31, 32]) (S2 := SC) (ad := ad) (sg := sg0) (vx_runV (As := [.int x1, .int x2]) (rest := [.int (nI 0), .ref (ad 33)]) ⟨hx, hb, hml, hown, hts⟩ (m_f_X2_cost l hl9 D cI cJ (fun j => ad (gw_p [0, 1, 2, 3, 4, 5, 6, 7, 8, 9, 10, 11, 12, 13, 14, 15, 16, 17, 18, 19, 20, 21, 22, 23, 24, 25, 26, 27, 28, 29, 30, 31, 32] j)) (fun j => sg0 (gw_p [0, 1, 2, 3, 4, 5, 6, 7, 8, 9, 10, 11, 12, 13, 14, 15, 16, 17, 18, 19, 20, 21, 22, 23, 24, 25, 26, 27, 28, 29, 30, 31, 32] j)) _ x1 x2 T hT (cls_in hk)) (cwV 2 hts (gwV a248 a249 a250 a97 a251) rfl rfl rfl (by decide +kernel) ⟨by decide, by decide⟩) (gc_preV hK hP hD hS hA hE rfl rfl rfl rfl) rfl rfl hl.1 rfl (lv_room (Nat.le_of_ble_eq_true rfl)) dL_cost_5 ⟨by decide, by decide⟩) hP hD hS hA rfl (fun v1 sp2 sg3 H locs hp4 ha5 hb6 hP hD hS => ?_) (fun E9 x9 ce9 sp2 sg3 H locs hp4 hc1 hc2 hc3 ha5 hb6 hP hD hS => ?_)
  · obtain ⟨hk1, hk9, rfl⟩ := hp4
    have hk : EC (T) sg3 := cls_out hk1 ha5 rfl
    refine W.eq (g2 := F0 m 8 ls [.int (aCost T x1 x2), .int (nI 0), .ref (ad 33)]) rfl ?_
    refine lv_i2l hx hb dL_cost_8 rfl ?_
    refine gw_last hx hb hK hP hD hS 33 2 (n := 1) rfl rfl (i := 0) (x := (aCost T x1 x2)) (by decide) (by decide) dL_cost_9 (fun H locs hP hD hS => ?_)
    obtain ⟨sg7, esg7⟩ : ∃ z : Nat → Nat → Int32, z = gw_u sg3 33 (upd (sg3 33) 0 (aCost T x1 x2)) := ⟨_, rfl⟩
    rw [← esg7] at hP hD
    have hk : EC (T) sg7 := by rw [esg7]; exact hk.cong (fun k9 h9 => gw_u_n _ _ (by omega))
    have ho : sg7 33 0 = aCost T x1 x2 := by simp [esg7, gw_u, upd]
    refine lv_goto (tgt := 25) hx hb dL_cost_10 (by decide) ?_
    refine lv_iconst (v := (nI 0)) hx hb dL_cost_25 (by decide) ?_
    exact hret _ _ _ _ _ _ hP hS dL_cost_26 (⟨hk, by rw [hk9], fun _ => ho⟩)
  · obtain ⟨hk1, hE9⟩ := hp4
    have hk : EC T sg3 := cls_out hk1 ha5 rfl
    rcases hE9 with ⟨rfl, hk9⟩ | ⟨rfl, hk9⟩ | ⟨rfl, hk9⟩
    · have hk9 : qCost T x1 x2 = nI 1 := hk9
      refine vx_catch (own := RL) (name := "java/lang/IndexOutOfBoundsException") (E := "java/lang/IndexOutOfBoundsException") hown [] ⟨0, 10, 13, 13⟩ [⟨0, 10, 17, 15⟩, ⟨0, 10, 21, 21⟩] (by rw [hTab]; rfl) (fun z hz => nomatch hz) rfl (by decide) (hts _ a201) (hE.nest _ (.castable "java/lang/IndexOutOfBoundsException" "java/lang/IndexOutOfBoundsException") (by decide) rfl) hc1 hc2 hc3 ?_
      refine lv_astore (lv' := [(4, .ref x9), (0, .ref (ad 0)), (1, .int x1), (2, .int x2), (3, .ref (ad 33))]) hx hb dL_cost_13 hl (by decide) rfl (fun ls hl => ?_)
      refine lv_iconst (v := (nI 1)) hx hb dL_cost_15 (by decide) ?_
      exact hret _ _ _ _ _ _ hP hS dL_cost_16 (⟨hk, by rw [hk9], fun h9 => absurd (hk9.symm.trans h9) (by decide)⟩)
    · have hk9 : qCost T x1 x2 = nI 2 := hk9
      refine vx_catch (own := RL) (name := "java/lang/IllegalArgumentException") (E := "java/lang/IllegalArgumentException") hown [⟨0, 10, 13, 13⟩] ⟨0, 10, 17, 15⟩ [⟨0, 10, 21, 21⟩] (by rw [hTab]; rfl) (fun z hz => by obtain rfl := List.mem_singleton.mp hz; exact Or.inr ⟨by decide, "java/lang/IndexOutOfBoundsException", hts _ a201, hE.2.2.2.2 ("java/lang/IllegalArgumentException", "java/lang/IndexOutOfBoundsException") (by decide)⟩) rfl (by decide) (hts _ a202) (hE.nest _ (.castable "java/lang/IllegalArgumentException" "java/lang/IllegalArgumentException") (by decide) rfl) hc1 hc2 hc3 ?_
      refine lv_astore (lv' := [(4, .ref x9), (0, .ref (ad 0)), (1, .int x1), (2, .int x2), (3, .ref (ad 33))]) hx hb dL_cost_17 hl (by decide) rfl (fun ls hl => ?_)
      refine lv_iconst (v := (nI 2)) hx hb dL_cost_19 (by decide) ?_
      exact hret _ _ _ _ _ _ hP hS dL_cost_20 (⟨hk, by rw [hk9], fun h9 => absurd (hk9.symm.trans h9) (by decide)⟩)
    · have hk9 : qCost T x1 x2 = nI 3 := hk9
      refine vx_catch (own := RL) (name := "java/lang/IllegalStateException") (E := "java/lang/IllegalStateException") hown [⟨0, 10, 13, 13⟩, ⟨0, 10, 17, 15⟩] ⟨0, 10, 21, 21⟩ [] (by rw [hTab]; rfl) (fun z hz => (List.mem_cons.mp hz).elim (fun q9 => by subst q9; exact Or.inr ⟨by decide, "java/lang/IndexOutOfBoundsException", hts _ a201, hE.2.2.2.2 ("java/lang/IllegalStateException", "java/lang/IndexOutOfBoundsException") (by decide)⟩) (fun hz => by obtain rfl := List.mem_singleton.mp hz; exact Or.inr ⟨by decide, "java/lang/IllegalArgumentException", hts _ a202, hE.2.2.2.2 ("java/lang/IllegalStateException", "java/lang/IllegalArgumentException") (by decide)⟩)) rfl (by decide) (hts _ a207) (hE.nest _ (.castable "java/lang/IllegalStateException" "java/lang/IllegalStateException") (by decide) rfl) hc1 hc2 hc3 ?_
      refine lv_astore (lv' := [(4, .ref x9), (0, .ref (ad 0)), (1, .int x1), (2, .int x2), (3, .ref (ad 33))]) hx hb dL_cost_21 hl (by decide) rfl (fun ls hl => ?_)
      refine lv_iconst (v := (nI 3)) hx hb dL_cost_23 (by decide) ?_
      exact hret _ _ _ _ _ _ hP hS dL_cost_24 (⟨hk, by rw [hk9], fun h9 => absurd (hk9.symm.trans h9) (by decide)⟩)
