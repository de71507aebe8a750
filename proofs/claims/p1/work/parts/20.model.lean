abbrev rmX3_isIn : Room := { frames := 0, cells := 0, slots := 0, locals := 0 }
set_option maxRecDepth 100000 in
set_option maxHeartbeats 4000000 in
theorem m_X3_isIn (l : Launch) (hl9 : l.stackTraces = false) (D : va_G) (cI : ClassId) (cJ : ClassId × ClassId) (ad : Nat → Nat) (sg0 : Nat → Nat → Int32) (sz : Nat) (x0 : Int32) (x1 : Int32) (x2 : Int32) : gc_M l yX3_isIn wsX3_isIn rmX3_isIn D vwCl (tyS cI cJ) cI cJ gxT gxN SE [.int x0, .int x1, .int x2] ad sg0 sz 0 0 (fun v sg2 => (v = some (.int (nI 1)) ∧ inR x0 x1 x2) ∨ (v = some (.int (nI 0)) ∧ ¬ inR x0 x1 x2)) := by
  refine gc_Mz_of (cc := cX3_isIn) (maxL := 3) (by decide) rfl (Nat.le_of_ble_eq_true rfl) ?_
  intro p e s m below meth c A ls Q hin hE hret
  obtain ⟨⟨hx, hb, hml, hown, hts⟩, -, hlocks, -, hA, hP, hK, hD, hS, hl⟩ := hin
  have hts : ∀ w ∈ wsAll, w.before ([.int x0, .int x1, .int x2] : List Value).toArray s = true := fun w h => hts w (List.mem_cons_of_mem _ h)
  have hl : lv_has ls 3 [(0, .int x0), (1, .int x1), (2, .int x2)] := hl
  refine lv_iload_n hx hb dX3_isIn_0 rfl (lv_at hl 0 rfl) ?_
  refine lv_iload_n hx hb dX3_isIn_1 rfl (lv_at hl 1 rfl) ?_
  refine lv_icmp_lt (tgt := 14) hx hb dX3_isIn_2 (by decide) (fun h1 => ?_) (fun h1 => ?_)
  · refine lv_iconst (v := (nI 0)) hx hb dX3_isIn_14 (by decide) ?_
    exact hret _ _ _ _ _ _ hP hS dX3_isIn_15 rfl (Or.inr ⟨rfl, by first | exact fun q => q.1 h1 | exact fun q => q.2 h6⟩)
  · refine lv_iload_n hx hb dX3_isIn_5 rfl (lv_at hl 0 rfl) ?_
    refine lv_iload_n hx hb dX3_isIn_6 rfl (lv_at hl 2 rfl) ?_
    refine lv_icmp_gt (tgt := 14) hx hb dX3_isIn_7 (by decide) (fun h6 => ?_) (fun h6 => ?_)
    · refine lv_iconst (v := (nI 0)) hx hb dX3_isIn_14 (by decide) ?_
      exact hret _ _ _ _ _ _ hP hS dX3_isIn_15 rfl (Or.inr ⟨rfl, by first | exact fun q => q.1 h1 | exact fun q => q.2 h6⟩)
    · refine lv_iconst (v := (nI 1)) hx hb dX3_isIn_10 (by decide) ?_
      refine lv_goto (tgt := 15) hx hb dX3_isIn_11 (by decide) ?_
      exact hret _ _ _ _ _ _ hP hS dX3_isIn_15 rfl (Or.inl ⟨rfl, h1, h6⟩)
abbrev rmX3_thrown : Room := { frames := 0, cells := 0, slots := 0, locals := 0 }
set_option maxRecDepth 100000 in
set_option maxHeartbeats 4000000 in
theorem m_X3_thrown (l : Launch) (hl9 : l.stackTraces = false) (D : va_G) (cI : ClassId) (cJ : ClassId × ClassId) (ad : Nat → Nat) (sg0 : Nat → Nat → Int32) (sz : Nat) : gc_M l yX3_thrown wsX3_thrown rmX3_thrown D vwCl (tyS cI cJ) cI cJ gxT gxN SM [.ref (ad 0)] ad sg0 sz 0 0 (fun v sg2 => v = some (.int (sg0 0 0)) ∧ sg2 = sg0) := by
  refine gc_Mi_of (cc := cX3_thrown) (maxL := 1) (by decide) rfl (Nat.le_of_ble_eq_true rfl) ?_
  intro p e s m below meth c A ls Q hin hE hret
  obtain ⟨⟨hx, hb, hml, hown, hts⟩, -, hlocks, -, hA, hP, hK, hD, hS, hl⟩ := hin
  have hts : ∀ w ∈ wsAll, w.before ([.ref (ad 0)] : List Value).toArray s = true := fun w h => hts w (List.mem_cons_of_mem _ h)
  have hl : lv_has ls 1 [(0, .ref (ad 0))] := hl
  refine lv_aload_n hx hb dX3_thrown_0 rfl (lv_at hl 0 rfl) ?_
  refine gw_geti (C := RX3) (T := TX3) (N := 27) hx hb hts inwX3 hown hK hP 0 0 rfl rfl rfl (by decide) (hts _ a82) (fun _ h9 => h9) dX3_thrown_1 ?_
  refine lv_topi (fun v1 hv1 => ?_)
  exact hret _ _ _ _ _ _ hP hS dX3_thrown_4 (⟨by rw [hv1], rfl⟩)
abbrev rmX3_forget : Room := { frames := 0, cells := 0, slots := 0, locals := 0 }
set_option maxRecDepth 100000 in
set_option maxHeartbeats 4000000 in
theorem m_X3_forget (l : Launch) (hl9 : l.stackTraces = false) (D : va_G) (cI : ClassId) (cJ : ClassId × ClassId) (ad : Nat → Nat) (sg0 : Nat → Nat → Int32) (sz : Nat) : gc_M l yX3_forget wsX3_forget rmX3_forget D vwCl (tyS cI cJ) cI cJ gxT gxN SM [.ref (ad 0)] ad sg0 sz 0 0 (fun v sg2 => v = none ∧ ∀ j : Nat, j ≠ 15 → j ≠ 16 → sg2 0 j = sg0 0 j) := by
  refine gc_Mv_of (cc := cX3_forget) (maxL := 1) (by decide) rfl (Nat.le_of_ble_eq_true rfl) ?_
  intro p e s m below meth c A ls Q hin hE hret
  obtain ⟨⟨hx, hb, hml, hown, hts⟩, -, hlocks, -, hA, hP, hK, hD, hS, hl⟩ := hin
  have hts : ∀ w ∈ wsAll, w.before ([.ref (ad 0)] : List Value).toArray s = true := fun w h => hts w (List.mem_cons_of_mem _ h)
  have hl : lv_has ls 1 [(0, .ref (ad 0))] := hl
  refine lv_aload_n hx hb dX3_forget_0 rfl (lv_at hl 0 rfl) ?_
  refine lv_iconst (v := (nI 0)) hx hb dX3_forget_1 (by decide) ?_
  refine gw_put (C := RX3) (T := TX3) (N := 27) (ty := .boolean) hx hb hts inwX3 tyX3 tyX3_ok nmX3 hown hK hP hD hS 0 15 rfl rfl rfl (by decide) (hts _ a83) (fun _ h9 => h9) rfl (by decide +kernel) rfl rfl dX3_forget_2 (fun H locs hP hD hS => ?_)
  obtain ⟨sg1, esg1⟩ : ∃ z : Nat → Nat → Int32, z = gw_u sg0 0 (upd (sg0 0) 15 (nI 0)) := ⟨_, rfl⟩
  rw [← esg1] at hP hD
  refine lv_aload_n hx hb dX3_forget_5 rfl (lv_at hl 0 rfl) ?_
  refine lv_iconst (v := (nI 0)) hx hb dX3_forget_6 (by decide) ?_
  refine gw_put (C := RX3) (T := TX3) (N := 27) (ty := .boolean) hx hb hts inwX3 tyX3 tyX3_ok nmX3 hown hK hP hD hS 0 16 rfl rfl rfl (by decide) (hts _ a84) (fun _ h9 => h9) rfl (by decide +kernel) rfl rfl dX3_forget_7 (fun H locs hP hD hS => ?_)
  obtain ⟨sg2, esg2⟩ : ∃ z : Nat → Nat → Int32, z = gw_u sg1 0 (upd (sg1 0) 16 (nI 0)) := ⟨_, rfl⟩
  rw [← esg2] at hP hD
  exact hret _ _ _ _ _ hP hS dX3_forget_10 (⟨rfl, fun j h1 h2 => by simp [esg2, esg1, gw_u, upd, h1, h2]⟩)
abbrev rmX3_logs : Room := { frames := 1, cells := 0, slots := 0, locals := 22 }
set_option maxRecDepth 100000 in
set_option maxHeartbeats 4000000 in
theorem m_X3_logs (l : Launch) (hl9 : l.stackTraces = false) (D : va_G) (cI : ClassId) (cJ : ClassId × ClassId) (ad : Nat → Nat) (sg0 : Nat → Nat → Int32) (sz : Nat) (x1 : Int32) (x2 : Int32) (x3 : Int32) (hF : ∀ k j : Nat, k < 13 → sg0 k j = fm k j) : gc_M l yX3_logs wsX3_logs rmX3_logs D vwCl (tyS cI cJ) cI cJ gxT gxN SM [.ref (ad 0), .int x1, .int x2, .int x3] ad sg0 sz 0 0 (fun v sg2 => v = none ∧ sg2 0 0 = kLogs x1 x2 x3) := by
  refine gc_Mv_of (cc := cX3_logs) (maxL := 4) (by decide) rfl (Nat.le_of_ble_eq_true rfl) ?_
  intro p e s m below meth c A ls Q hin hE hret
  obtain ⟨⟨hx, hb, hml, hown, hts⟩, -, hlocks, -, hA, hP, hK, hD, hS, hl⟩ := hin
  have hts : ∀ w ∈ wsAll, w.before ([.ref (ad 0), .int x1, .int x2, .int x3] : List Value).toArray s = true := fun w h => hts w (List.mem_cons_of_mem _ h)
  have hl : lv_has ls 4 [(0, .ref (ad 0)), (1, .int x1), (2, .int x2), (3, .int x3)] := hl
  refine lv_aload_n hx hb dX3_logs_0 rfl (lv_at hl 0 rfl) ?_
  refine lv_iload_n hx hb dX3_logs_1 rfl (lv_at hl 1 rfl) ?_
  refine lv_iconst (v := (nI 0)) hx hb dX3_logs_2 (by decide) ?_
  refine lv_iconst (v := (nI 3)) hx hb dX3_logs_3 (by decide) ?_
  refine gc_go (pl := []) (S2 := SE) (ad := ad) (sg := sg0) (va_runS (As := [.int x1, .int (nI 0), .int (nI 3)]) (rest := [.ref (ad 0)]) ⟨hx, hb, hml, hown, hts⟩ (m_X3_isIn l hl9 D cI cJ (fun j => ad (gw_p [] j)) (fun j => sg0 (gw_p [] j)) _ x1 (nI 0) (nI 3) ) (cwS 3 hts (gwS a85 a86 a87 a88) rfl rfl rfl (by decide +kernel) ⟨by decide, by decide⟩) (gc_preS hK hP hD hS hA hE rfl) rfl rfl hl.1 rfl (lv_room (Nat.le_of_ble_eq_true rfl)) dX3_logs_4 ⟨by decide, by decide⟩) hP hD hS hA rfl (fun v1 sp2 sg3 H locs hp4 ha5 hb6 hP hD hS => ?_)
  rw [show sg3 = sg0 from funext (fun k => hb6 k (by simp))] at hP hD
  rcases hp4 with ⟨rfl, hi1⟩ | ⟨rfl, hi1⟩
  · refine W.eq (g2 := F0 m 7 ls [.int (nI 1), .ref (ad 0)]) rfl ?_
    refine lv_if_ne (tgt := 14) hx hb dX3_logs_7 (by decide) (fun hc7 => ?_) (fun hc7 => ?_)
    · refine lv_iload_n hx hb dX3_logs_14 rfl (lv_at hl 2 rfl) ?_
      refine lv_iconst (v := (nI 0)) hx hb dX3_logs_15 (by decide) ?_
      refine lv_sipush (v := (nI 1000)) hx hb dX3_logs_16 (by decide) ?_
      refine gc_go (pl := []) (S2 := SE) (ad := ad) (sg := sg0) (va_runS (As := [.int x2, .int (nI 0), .int (nI 1000)]) (rest := [.ref (ad 0)]) ⟨hx, hb, hml, hown, hts⟩ (m_X3_isIn l hl9 D cI cJ (fun j => ad (gw_p [] j)) (fun j => sg0 (gw_p [] j)) _ x2 (nI 0) (nI 1000) ) (cwS 3 hts (gwS a85 a86 a87 a88) rfl rfl rfl (by decide +kernel) ⟨by decide, by decide⟩) (gc_preS hK hP hD hS hA hE rfl) rfl rfl hl.1 rfl (lv_room (Nat.le_of_ble_eq_true rfl)) dX3_logs_19 ⟨by decide, by decide⟩) hP hD hS hA rfl (fun v8 sp9 sg10 H locs hp11 ha12 hb13 hP hD hS => ?_)
      rw [show sg10 = sg0 from funext (fun k => hb13 k (by simp))] at hP hD
      rcases hp11 with ⟨rfl, hi2⟩ | ⟨rfl, hi2⟩
      · refine W.eq (g2 := F0 m 22 ls [.int (nI 1), .ref (ad 0)]) rfl ?_
        refine lv_if_eq (tgt := 35) hx hb dX3_logs_22 (by decide) (fun hc14 => ?_) (fun hc14 => ?_)
        · exact absurd hc14 (by decide)
        · refine lv_iload_n hx hb dX3_logs_25 rfl (lv_at hl 3 rfl) ?_
          refine lv_iconst (v := (nI 0)) hx hb dX3_logs_26 (by decide) ?_
          refine lv_ldc (v := (nI 100000)) hx hb hown (hts _ a89) dX3_logs_27 ?_
          refine gc_go (pl := []) (S2 := SE) (ad := ad) (sg := sg0) (va_runS (As := [.int x3, .int (nI 0), .int (nI 100000)]) (rest := [.ref (ad 0)]) ⟨hx, hb, hml, hown, hts⟩ (m_X3_isIn l hl9 D cI cJ (fun j => ad (gw_p [] j)) (fun j => sg0 (gw_p [] j)) _ x3 (nI 0) (nI 100000) ) (cwS 3 hts (gwS a85 a86 a87 a88) rfl rfl rfl (by decide +kernel) ⟨by decide, by decide⟩) (gc_preS hK hP hD hS hA hE rfl) rfl rfl hl.1 rfl (lv_room (Nat.le_of_ble_eq_true rfl)) dX3_logs_29 ⟨by decide, by decide⟩) hP hD hS hA rfl (fun v15 sp16 sg17 H locs hp18 ha19 hb20 hP hD hS => ?_)
          rw [show sg17 = sg0 from funext (fun k => hb20 k (by simp))] at hP hD
          rcases hp18 with ⟨rfl, hi3⟩ | ⟨rfl, hi3⟩
          · refine W.eq (g2 := F0 m 32 ls [.int (nI 1), .ref (ad 0)]) rfl ?_
            refine lv_if_ne (tgt := 39) hx hb dX3_logs_32 (by decide) (fun hc21 => ?_) (fun hc21 => ?_)
            · refine lv_iconst (v := (nI 0)) hx hb dX3_logs_39 (by decide) ?_
              refine gw_put (C := RX3) (T := TX3) (N := 27) (ty := .int) hx hb hts inwX3 tyX3 tyX3_ok nmX3 hown hK hP hD hS 0 0 rfl rfl rfl (by decide) (hts _ a82) (fun _ h9 => h9) rfl (by decide +kernel) rfl rfl dX3_logs_40 (fun H locs hP hD hS => ?_)
              obtain ⟨sg22, esg22⟩ : ∃ z : Nat → Nat → Int32, z = gw_u sg0 0 (upd (sg0 0) 0 (nI 0)) := ⟨_, rfl⟩
              rw [← esg22] at hP hD
              refine lv_aload_n hx hb dX3_logs_43 rfl (lv_at hl 0 rfl) ?_
              refine gw_geti (C := RX3) (T := TX3) (N := 27) hx hb hts inwX3 hown hK hP 0 0 rfl rfl rfl (by decide) (hts _ a82) (fun _ h9 => h9) dX3_logs_44 ?_
              refine gw_top (y := (nI 0)) (by simp [esg22, gw_u, upd]) ?_
              refine lv_if_ne (tgt := 68) hx hb dX3_logs_47 (by decide) (fun hc23 => ?_) (fun hc23 => ?_)
              · exact absurd hc23 (by decide)
              · have hk9 : kLogs x1 x2 x3 = nI 0 := by simp [kLogs, kif, hi1, hi2, hi3]
                obtain ⟨j1, hj1, rfl⟩ := inof3 hi1
                refine lv_aload_n hx hb dX3_logs_50 rfl (lv_at hl 0 rfl) ?_
                refine gw_getr (C := RX3) (T := TX3) (N := 27) hx hb hts inwX3 hown hK hP 0 1 1 rfl rfl rfl (by decide) (hts _ a90) (fun _ h9 => h9) dX3_logs_51 ?_
                refine lv_iload_n hx hb dX3_logs_54 rfl (lv_at hl 1 rfl) ?_
                refine lv_iload_n hx hb dX3_logs_55 rfl (lv_at hl 2 rfl) ?_
                refine gw_ast hx hb hK hP hD hS 1 0 (n := 4) rfl rfl (i := j1) (by omega) (by decide) dX3_logs_56 (fun H locs hP hD hS => ?_)
                obtain ⟨sg24, esg24⟩ : ∃ z : Nat → Nat → Int32, z = gw_u sg22 1 (upd (sg22 1) j1 x2) := ⟨_, rfl⟩
                rw [← esg24] at hP hD
                refine lv_aload_n hx hb dX3_logs_57 rfl (lv_at hl 0 rfl) ?_
                refine gw_getr (C := RX3) (T := TX3) (N := 27) hx hb hts inwX3 hown hK hP 0 2 2 rfl rfl rfl (by decide) (hts _ a91) (fun _ h9 => h9) dX3_logs_58 ?_
                refine lv_iload_n hx hb dX3_logs_61 rfl (lv_at hl 1 rfl) ?_
                refine lv_iload_n hx hb dX3_logs_62 rfl (lv_at hl 3 rfl) ?_
                refine gw_ast hx hb hK hP hD hS 2 0 (n := 4) rfl rfl (i := j1) (by omega) (by decide) dX3_logs_63 (fun H locs hP hD hS => ?_)
                obtain ⟨sg25, esg25⟩ : ∃ z : Nat → Nat → Int32, z = gw_u sg24 2 (upd (sg24 2) j1 x3) := ⟨_, rfl⟩
                rw [← esg25] at hP hD
                refine lv_aload_n hx hb dX3_logs_64 rfl (lv_at hl 0 rfl) ?_
                refine gc_go0 (va_runV (As := []) (rest := []) ⟨hx, hb, hml, hown, hts⟩ (m_X3_forget l hl9 D cI cJ ad sg25 _  ) (cwV 0 hts (gwV a92 a93 a94 a87 a95) rfl rfl rfl (by decide +kernel) ⟨by decide, by decide⟩) (gc_preV0 hK hP hD hS hA hE rfl rfl rfl) rfl rfl hl.1 rfl (lv_room (Nat.le_of_ble_eq_true rfl)) dX3_logs_65 ⟨by decide, by decide⟩) hD hS hA (fun v26 sg28 H locs hp29 hP hD hS => ?_)
                obtain ⟨rfl, hq7⟩ := hp29
                have hq9 := hq7 0 (by decide) (by decide)
                have hq8 := hq7 3 (by decide) (by decide)
                refine W.eq (g2 := F0 m 68 ls []) rfl ?_
                exact hret _ _ _ _ _ hP hS dX3_logs_68 (⟨rfl, (show _ = (nI 0) from by simp [hq8, hq9, esg25, esg24, esg22, gw_u, upd]).trans hk9.symm⟩)
            · exact absurd hc21 (by decide)
          · refine W.eq (g2 := F0 m 32 ls [.int (nI 0), .ref (ad 0)]) rfl ?_
            refine lv_if_ne (tgt := 39) hx hb dX3_logs_32 (by decide) (fun hc32 => ?_) (fun hc32 => ?_)
            · exact absurd hc32 (by decide)
            · refine lv_iconst (v := (nI 2)) hx hb dX3_logs_35 (by decide) ?_
              refine lv_goto (tgt := 40) hx hb dX3_logs_36 (by decide) ?_
              refine gw_put (C := RX3) (T := TX3) (N := 27) (ty := .int) hx hb hts inwX3 tyX3 tyX3_ok nmX3 hown hK hP hD hS 0 0 rfl rfl rfl (by decide) (hts _ a82) (fun _ h9 => h9) rfl (by decide +kernel) rfl rfl dX3_logs_40 (fun H locs hP hD hS => ?_)
              obtain ⟨sg33, esg33⟩ : ∃ z : Nat → Nat → Int32, z = gw_u sg0 0 (upd (sg0 0) 0 (nI 2)) := ⟨_, rfl⟩
              rw [← esg33] at hP hD
              refine lv_aload_n hx hb dX3_logs_43 rfl (lv_at hl 0 rfl) ?_
              refine gw_geti (C := RX3) (T := TX3) (N := 27) hx hb hts inwX3 hown hK hP 0 0 rfl rfl rfl (by decide) (hts _ a82) (fun _ h9 => h9) dX3_logs_44 ?_
              refine gw_top (y := (nI 2)) (by simp [esg33, gw_u, upd]) ?_
              refine lv_if_ne (tgt := 68) hx hb dX3_logs_47 (by decide) (fun hc34 => ?_) (fun hc34 => ?_)
              · exact hret _ _ _ _ _ hP hS dX3_logs_68 (⟨rfl, (show _ = (nI 2) from by simp [esg33, gw_u, upd]).trans (show (nI 2) = kLogs x1 x2 x3 by simp [kLogs, kif, hi1, hi2, hi3])⟩)
              · exact absurd hc34 (by decide)
      · refine W.eq (g2 := F0 m 22 ls [.int (nI 0), .ref (ad 0)]) rfl ?_
        refine lv_if_eq (tgt := 35) hx hb dX3_logs_22 (by decide) (fun hc35 => ?_) (fun hc35 => ?_)
        · refine lv_iconst (v := (nI 2)) hx hb dX3_logs_35 (by decide) ?_
          refine lv_goto (tgt := 40) hx hb dX3_logs_36 (by decide) ?_
          refine gw_put (C := RX3) (T := TX3) (N := 27) (ty := .int) hx hb hts inwX3 tyX3 tyX3_ok nmX3 hown hK hP hD hS 0 0 rfl rfl rfl (by decide) (hts _ a82) (fun _ h9 => h9) rfl (by decide +kernel) rfl rfl dX3_logs_40 (fun H locs hP hD hS => ?_)
          obtain ⟨sg36, esg36⟩ : ∃ z : Nat → Nat → Int32, z = gw_u sg0 0 (upd (sg0 0) 0 (nI 2)) := ⟨_, rfl⟩
          rw [← esg36] at hP hD
          refine lv_aload_n hx hb dX3_logs_43 rfl (lv_at hl 0 rfl) ?_
          refine gw_geti (C := RX3) (T := TX3) (N := 27) hx hb hts inwX3 hown hK hP 0 0 rfl rfl rfl (by decide) (hts _ a82) (fun _ h9 => h9) dX3_logs_44 ?_
          refine gw_top (y := (nI 2)) (by simp [esg36, gw_u, upd]) ?_
          refine lv_if_ne (tgt := 68) hx hb dX3_logs_47 (by decide) (fun hc37 => ?_) (fun hc37 => ?_)
          · exact hret _ _ _ _ _ hP hS dX3_logs_68 (⟨rfl, (show _ = (nI 2) from by simp [esg36, gw_u, upd]).trans (show (nI 2) = kLogs x1 x2 x3 by simp [kLogs, kif, hi1, hi2])⟩)
          · exact absurd hc37 (by decide)
        · exact absurd hc35 (by decide)
    · exact absurd hc7 (by decide)
  · refine W.eq (g2 := F0 m 7 ls [.int (nI 0), .ref (ad 0)]) rfl ?_
    refine lv_if_ne (tgt := 14) hx hb dX3_logs_7 (by decide) (fun hc38 => ?_) (fun hc38 => ?_)
    · exact absurd hc38 (by decide)
    · refine lv_iconst (v := (nI 1)) hx hb dX3_logs_10 (by decide) ?_
      refine lv_goto (tgt := 40) hx hb dX3_logs_11 (by decide) ?_
      refine gw_put (C := RX3) (T := TX3) (N := 27) (ty := .int) hx hb hts inwX3 tyX3 tyX3_ok nmX3 hown hK hP hD hS 0 0 rfl rfl rfl (by decide) (hts _ a82) (fun _ h9 => h9) rfl (by decide +kernel) rfl rfl dX3_logs_40 (fun H locs hP hD hS => ?_)
      obtain ⟨sg39, esg39⟩ : ∃ z : Nat → Nat → Int32, z = gw_u sg0 0 (upd (sg0 0) 0 (nI 1)) := ⟨_, rfl⟩
      rw [← esg39] at hP hD
      refine lv_aload_n hx hb dX3_logs_43 rfl (lv_at hl 0 rfl) ?_
      refine gw_geti (C := RX3) (T := TX3) (N := 27) hx hb hts inwX3 hown hK hP 0 0 rfl rfl rfl (by decide) (hts _ a82) (fun _ h9 => h9) dX3_logs_44 ?_
      refine gw_top (y := (nI 1)) (by simp [esg39, gw_u, upd]) ?_
      refine lv_if_ne (tgt := 68) hx hb dX3_logs_47 (by decide) (fun hc40 => ?_) (fun hc40 => ?_)
      · exact hret _ _ _ _ _ hP hS dX3_logs_68 (⟨rfl, (show _ = (nI 1) from by simp [esg39, gw_u, upd]).trans (show (nI 1) = kLogs x1 x2 x3 by simp [kLogs, kif, hi1])⟩)
      · exact absurd hc40 (by decide)
abbrev rmX3_pattern : Room := { frames := 1, cells := 0, slots := 0, locals := 22 }
set_option maxRecDepth 100000 in
set_option maxHeartbeats 4000000 in
theorem m_X3_pattern (l : Launch) (hl9 : l.stackTraces = false) (D : va_G) (cI : ClassId) (cJ : ClassId × ClassId) (ad : Nat → Nat) (sg0 : Nat → Nat → Int32) (sz : Nat) (x1 : Int32) (x2 : Int32) (hF : ∀ k j : Nat, k < 13 → sg0 k j = fm k j) : gc_M l yX3_pattern wsX3_pattern rmX3_pattern D vwCl (tyS cI cJ) cI cJ gxT gxN SM [.ref (ad 0), .int x1, .int x2] ad sg0 sz 0 0 (fun v sg2 => v = some (.int (nI 0)) ∧ sg2 0 0 = kPattern x1 x2) := by
  refine gc_Mi_of (cc := cX3_pattern) (maxL := 3) (by decide) rfl (Nat.le_of_ble_eq_true rfl) ?_
  intro p e s m below meth c A ls Q hin hE hret
  obtain ⟨⟨hx, hb, hml, hown, hts⟩, -, hlocks, -, hA, hP, hK, hD, hS, hl⟩ := hin
  have hts : ∀ w ∈ wsAll, w.before ([.ref (ad 0), .int x1, .int x2] : List Value).toArray s = true := fun w h => hts w (List.mem_cons_of_mem _ h)
  have hl : lv_has ls 3 [(0, .ref (ad 0)), (1, .int x1), (2, .int x2)] := hl
  refine lv_aload_n hx hb dX3_pattern_0 rfl (lv_at hl 0 rfl) ?_
  refine lv_iload_n hx hb dX3_pattern_1 rfl (lv_at hl 1 rfl) ?_
  refine lv_iconst (v := (nI 0)) hx hb dX3_pattern_2 (by decide) ?_
  refine lv_iconst (v := (nI 3)) hx hb dX3_pattern_3 (by decide) ?_
  refine gc_go (pl := []) (S2 := SE) (ad := ad) (sg := sg0) (va_runS (As := [.int x1, .int (nI 0), .int (nI 3)]) (rest := [.ref (ad 0)]) ⟨hx, hb, hml, hown, hts⟩ (m_X3_isIn l hl9 D cI cJ (fun j => ad (gw_p [] j)) (fun j => sg0 (gw_p [] j)) _ x1 (nI 0) (nI 3) ) (cwS 3 hts (gwS a85 a86 a87 a88) rfl rfl rfl (by decide +kernel) ⟨by decide, by decide⟩) (gc_preS hK hP hD hS hA hE rfl) rfl rfl hl.1 rfl (lv_room (Nat.le_of_ble_eq_true rfl)) dX3_pattern_4 ⟨by decide, by decide⟩) hP hD hS hA rfl (fun v1 sp2 sg3 H locs hp4 ha5 hb6 hP hD hS => ?_)
  rw [show sg3 = sg0 from funext (fun k => hb6 k (by simp))] at hP hD
  rcases hp4 with ⟨rfl, hi1⟩ | ⟨rfl, hi1⟩
  · refine W.eq (g2 := F0 m 7 ls [.int (nI 1), .ref (ad 0)]) rfl ?_
    refine lv_if_ne (tgt := 14) hx hb dX3_pattern_7 (by decide) (fun hc7 => ?_) (fun hc7 => ?_)
    · refine lv_iload_n hx hb dX3_pattern_14 rfl (lv_at hl 2 rfl) ?_
      refine lv_iconst (v := (nI 1)) hx hb dX3_pattern_15 (by decide) ?_
      refine lv_sipush (v := (nI 480)) hx hb dX3_pattern_16 (by decide) ?_
      refine gc_go (pl := []) (S2 := SE) (ad := ad) (sg := sg0) (va_runS (As := [.int x2, .int (nI 1), .int (nI 480)]) (rest := [.ref (ad 0)]) ⟨hx, hb, hml, hown, hts⟩ (m_X3_isIn l hl9 D cI cJ (fun j => ad (gw_p [] j)) (fun j => sg0 (gw_p [] j)) _ x2 (nI 1) (nI 480) ) (cwS 3 hts (gwS a85 a86 a87 a88) rfl rfl rfl (by decide +kernel) ⟨by decide, by decide⟩) (gc_preS hK hP hD hS hA hE rfl) rfl rfl hl.1 rfl (lv_room (Nat.le_of_ble_eq_true rfl)) dX3_pattern_19 ⟨by decide, by decide⟩) hP hD hS hA rfl (fun v8 sp9 sg10 H locs hp11 ha12 hb13 hP hD hS => ?_)
      rw [show sg10 = sg0 from funext (fun k => hb13 k (by simp))] at hP hD
      rcases hp11 with ⟨rfl, hi2⟩ | ⟨rfl, hi2⟩
      · refine W.eq (g2 := F0 m 22 ls [.int (nI 1), .ref (ad 0)]) rfl ?_
        refine lv_if_ne (tgt := 29) hx hb dX3_pattern_22 (by decide) (fun hc14 => ?_) (fun hc14 => ?_)
        · refine lv_aload_n hx hb dX3_pattern_29 rfl (lv_at hl 0 rfl) ?_
          refine gw_geti (C := RX3) (T := TX3) (N := 27) hx hb hts inwX3 hown hK hP 0 3 rfl rfl rfl (by decide) (hts _ a96) (fun _ h9 => h9) dX3_pattern_30 ?_
          refine gw_top (y := (nI 0)) (by simp [gw_u, upd, hF 0 3 (by decide), fm]) ?_
          refine lv_bipush (v := (nI 6)) hx hb dX3_pattern_33 (by decide) ?_
          refine lv_icmp_ne (tgt := 42) hx hb dX3_pattern_35 (by decide) (fun hc15 => ?_) (fun hc15 => ?_)
          · refine lv_iconst (v := (nI 0)) hx hb dX3_pattern_42 (by decide) ?_
            refine gw_put (C := RX3) (T := TX3) (N := 27) (ty := .int) hx hb hts inwX3 tyX3 tyX3_ok nmX3 hown hK hP hD hS 0 0 rfl rfl rfl (by decide) (hts _ a82) (fun _ h9 => h9) rfl (by decide +kernel) rfl rfl dX3_pattern_43 (fun H locs hP hD hS => ?_)
            obtain ⟨sg16, esg16⟩ : ∃ z : Nat → Nat → Int32, z = gw_u sg0 0 (upd (sg0 0) 0 (nI 0)) := ⟨_, rfl⟩
            rw [← esg16] at hP hD
            refine lv_aload_n hx hb dX3_pattern_46 rfl (lv_at hl 0 rfl) ?_
            refine gw_geti (C := RX3) (T := TX3) (N := 27) hx hb hts inwX3 hown hK hP 0 0 rfl rfl rfl (by decide) (hts _ a82) (fun _ h9 => h9) dX3_pattern_47 ?_
            refine gw_top (y := (nI 0)) (by simp [esg16, gw_u, upd]) ?_
            refine lv_if_le (tgt := 55) hx hb dX3_pattern_50 (by decide) (fun hc17 => ?_) (fun hc17 => ?_)
            · have hk9 : kPattern x1 x2 = nI 0 := by simp [kPattern, kif, hi1, hi2]
              refine lv_aload_n hx hb dX3_pattern_55 rfl (lv_at hl 0 rfl) ?_
              refine gw_getr (C := RX3) (T := TX3) (N := 27) hx hb hts inwX3 hown hK hP 0 4 3 rfl rfl rfl (by decide) (hts _ a97) (fun _ h9 => h9) dX3_pattern_56 ?_
              refine lv_aload_n hx hb dX3_pattern_59 rfl (lv_at hl 0 rfl) ?_
              refine gw_geti (C := RX3) (T := TX3) (N := 27) hx hb hts inwX3 hown hK hP 0 3 rfl rfl rfl (by decide) (hts _ a96) (fun _ h9 => h9) dX3_pattern_60 ?_
              refine gw_top (y := (nI 0)) (by simp [esg16, gw_u, upd, hF 0 3 (by decide), fm]) ?_
              refine lv_iload_n hx hb dX3_pattern_63 rfl (lv_at hl 1 rfl) ?_
              refine gw_ast hx hb hK hP hD hS 3 0 (n := 6) rfl rfl (i := 0) (by omega) (by decide) dX3_pattern_64 (fun H locs hP hD hS => ?_)
              obtain ⟨sg18, esg18⟩ : ∃ z : Nat → Nat → Int32, z = gw_u sg16 3 (upd (sg16 3) 0 x1) := ⟨_, rfl⟩
              rw [← esg18] at hP hD
              refine lv_aload_n hx hb dX3_pattern_65 rfl (lv_at hl 0 rfl) ?_
              refine gw_getr (C := RX3) (T := TX3) (N := 27) hx hb hts inwX3 hown hK hP 0 5 4 rfl rfl rfl (by decide) (hts _ a98) (fun _ h9 => h9) dX3_pattern_66 ?_
              refine lv_aload_n hx hb dX3_pattern_69 rfl (lv_at hl 0 rfl) ?_
              refine gw_geti (C := RX3) (T := TX3) (N := 27) hx hb hts inwX3 hown hK hP 0 3 rfl rfl rfl (by decide) (hts _ a96) (fun _ h9 => h9) dX3_pattern_70 ?_
              refine gw_top (y := (nI 0)) (by simp [esg18, esg16, gw_u, upd, hF 0 3 (by decide), fm]) ?_
              refine lv_iload_n hx hb dX3_pattern_73 rfl (lv_at hl 2 rfl) ?_
              refine gw_ast hx hb hK hP hD hS 4 0 (n := 6) rfl rfl (i := 0) (by omega) (by decide) dX3_pattern_74 (fun H locs hP hD hS => ?_)
              obtain ⟨sg19, esg19⟩ : ∃ z : Nat → Nat → Int32, z = gw_u sg18 4 (upd (sg18 4) 0 x2) := ⟨_, rfl⟩
              rw [← esg19] at hP hD
              refine lv_aload_n hx hb dX3_pattern_75 rfl (lv_at hl 0 rfl) ?_
              refine lv_dup hx hb dX3_pattern_76 rfl ?_
              refine gw_geti (C := RX3) (T := TX3) (N := 27) hx hb hts inwX3 hown hK hP 0 3 rfl rfl rfl (by decide) (hts _ a96) (fun _ h9 => h9) dX3_pattern_77 ?_
              refine gw_top (y := (nI 0)) (by simp [esg19, esg18, esg16, gw_u, upd, hF 0 3 (by decide), fm]) ?_
              refine lv_iconst (v := (nI 1)) hx hb dX3_pattern_80 (by decide) ?_
              refine lv_iadd hx hb dX3_pattern_81 ?_
              refine gw_top (y := (nI 1)) (by decide) ?_
              refine gw_put (C := RX3) (T := TX3) (N := 27) (ty := .int) hx hb hts inwX3 tyX3 tyX3_ok nmX3 hown hK hP hD hS 0 3 rfl rfl rfl (by decide) (hts _ a96) (fun _ h9 => h9) rfl (by decide +kernel) rfl rfl dX3_pattern_82 (fun H locs hP hD hS => ?_)
              obtain ⟨sg20, esg20⟩ : ∃ z : Nat → Nat → Int32, z = gw_u sg19 0 (upd (sg19 0) 3 (nI 1)) := ⟨_, rfl⟩
              rw [← esg20] at hP hD
              refine lv_aload_n hx hb dX3_pattern_85 rfl (lv_at hl 0 rfl) ?_
              refine gc_go0 (va_runV (As := []) (rest := []) ⟨hx, hb, hml, hown, hts⟩ (m_X3_forget l hl9 D cI cJ ad sg20 _  ) (cwV 0 hts (gwV a92 a93 a94 a87 a95) rfl rfl rfl (by decide +kernel) ⟨by decide, by decide⟩) (gc_preV0 hK hP hD hS hA hE rfl rfl rfl) rfl rfl hl.1 rfl (lv_room (Nat.le_of_ble_eq_true rfl)) dX3_pattern_86 ⟨by decide, by decide⟩) hD hS hA (fun v21 sg23 H locs hp24 hP hD hS => ?_)
              obtain ⟨rfl, hq7⟩ := hp24
              have hq9 := hq7 0 (by decide) (by decide)
              have hq8 := hq7 3 (by decide) (by decide)
              refine W.eq (g2 := F0 m 89 ls []) rfl ?_
              refine lv_aload_n hx hb dX3_pattern_89 rfl (lv_at hl 0 rfl) ?_
              refine gw_geti (C := RX3) (T := TX3) (N := 27) hx hb hts inwX3 hown hK hP 0 3 rfl rfl rfl (by decide) (hts _ a96) (fun _ h9 => h9) dX3_pattern_90 ?_
              refine gw_top (y := (nI 1)) (by simp [hq8, hq9, esg20, esg19, esg18, esg16, gw_u, upd]) ?_
              refine lv_iconst (v := (nI 1)) hx hb dX3_pattern_93 (by decide) ?_
              refine lv_isub hx hb dX3_pattern_94 ?_
              refine gw_top (y := (nI 0)) (by decide) ?_
              exact hret _ _ _ _ _ _ hP hS dX3_pattern_95 (⟨rfl, (show _ = (nI 0) from by simp [hq8, hq9, esg20, esg19, esg18, esg16, gw_u, upd]).trans hk9.symm⟩)
            · exact absurd hc17 (by decide)
          · exact absurd hc15 (by decide)
        · exact absurd hc14 (by decide)
      · refine W.eq (g2 := F0 m 22 ls [.int (nI 0), .ref (ad 0)]) rfl ?_
        refine lv_if_ne (tgt := 29) hx hb dX3_pattern_22 (by decide) (fun hc27 => ?_) (fun hc27 => ?_)
        · exact absurd hc27 (by decide)
        · refine lv_iconst (v := (nI 2)) hx hb dX3_pattern_25 (by decide) ?_
          refine lv_goto (tgt := 43) hx hb dX3_pattern_26 (by decide) ?_
          refine gw_put (C := RX3) (T := TX3) (N := 27) (ty := .int) hx hb hts inwX3 tyX3 tyX3_ok nmX3 hown hK hP hD hS 0 0 rfl rfl rfl (by decide) (hts _ a82) (fun _ h9 => h9) rfl (by decide +kernel) rfl rfl dX3_pattern_43 (fun H locs hP hD hS => ?_)
          obtain ⟨sg28, esg28⟩ : ∃ z : Nat → Nat → Int32, z = gw_u sg0 0 (upd (sg0 0) 0 (nI 2)) := ⟨_, rfl⟩
          rw [← esg28] at hP hD
          refine lv_aload_n hx hb dX3_pattern_46 rfl (lv_at hl 0 rfl) ?_
          refine gw_geti (C := RX3) (T := TX3) (N := 27) hx hb hts inwX3 hown hK hP 0 0 rfl rfl rfl (by decide) (hts _ a82) (fun _ h9 => h9) dX3_pattern_47 ?_
          refine gw_top (y := (nI 2)) (by simp [esg28, gw_u, upd]) ?_
          refine lv_if_le (tgt := 55) hx hb dX3_pattern_50 (by decide) (fun hc29 => ?_) (fun hc29 => ?_)
          · exact absurd hc29 (by decide)
          · refine lv_iconst (v := (nI 0)) hx hb dX3_pattern_53 (by decide) ?_
            exact hret _ _ _ _ _ _ hP hS dX3_pattern_54 (⟨rfl, (show _ = (nI 2) from by simp [esg28, gw_u, upd]).trans (show (nI 2) = kPattern x1 x2 by simp [kPattern, kif, hi1, hi2])⟩)
    · exact absurd hc7 (by decide)
  · refine W.eq (g2 := F0 m 7 ls [.int (nI 0), .ref (ad 0)]) rfl ?_
    refine lv_if_ne (tgt := 14) hx hb dX3_pattern_7 (by decide) (fun hc30 => ?_) (fun hc30 => ?_)
    · exact absurd hc30 (by decide)
    · refine lv_iconst (v := (nI 1)) hx hb dX3_pattern_10 (by decide) ?_
      refine lv_goto (tgt := 43) hx hb dX3_pattern_11 (by decide) ?_
      refine gw_put (C := RX3) (T := TX3) (N := 27) (ty := .int) hx hb hts inwX3 tyX3 tyX3_ok nmX3 hown hK hP hD hS 0 0 rfl rfl rfl (by decide) (hts _ a82) (fun _ h9 => h9) rfl (by decide +kernel) rfl rfl dX3_pattern_43 (fun H locs hP hD hS => ?_)
      obtain ⟨sg31, esg31⟩ : ∃ z : Nat → Nat → Int32, z = gw_u sg0 0 (upd (sg0 0) 0 (nI 1)) := ⟨_, rfl⟩
      rw [← esg31] at hP hD
      refine lv_aload_n hx hb dX3_pattern_46 rfl (lv_at hl 0 rfl) ?_
      refine gw_geti (C := RX3) (T := TX3) (N := 27) hx hb hts inwX3 hown hK hP 0 0 rfl rfl rfl (by decide) (hts _ a82) (fun _ h9 => h9) dX3_pattern_47 ?_
      refine gw_top (y := (nI 1)) (by simp [esg31, gw_u, upd]) ?_
      refine lv_if_le (tgt := 55) hx hb dX3_pattern_50 (by decide) (fun hc32 => ?_) (fun hc32 => ?_)
      · exact absurd hc32 (by decide)
      · refine lv_iconst (v := (nI 0)) hx hb dX3_pattern_53 (by decide) ?_
        exact hret _ _ _ _ _ _ hP hS dX3_pattern_54 (⟨rfl, (show _ = (nI 1) from by simp [esg31, gw_u, upd]).trans (show (nI 1) = kPattern x1 x2 by simp [kPattern, kif, hi1])⟩)
abbrev rmX3_isPattern : Room := { frames := 0, cells := 0, slots := 0, locals := 0 }
set_option maxRecDepth 100000 in
set_option maxHeartbeats 4000000 in
theorem m_X3_isPattern (l : Launch) (hl9 : l.stackTraces = false) (D : va_G) (cI : ClassId) (cJ : ClassId × ClassId) (ad : Nat → Nat) (sg0 : Nat → Nat → Int32) (sz : Nat) (x1 : Int32) (hF : ∀ k j : Nat, k < 13 → sg0 k j = fm k j) : gc_M l yX3_isPattern wsX3_isPattern rmX3_isPattern D vwCl (tyS cI cJ) cI cJ gxT gxN SM [.ref (ad 0), .int x1] ad sg0 sz 0 0 (fun v sg2 => v = some (.int (nI 0)) ∧ sg2 = sg0) := by
  refine gc_Mz_of (cc := cX3_isPattern) (maxL := 2) (by decide) rfl (Nat.le_of_ble_eq_true rfl) ?_
  intro p e s m below meth c A ls Q hin hE hret
  obtain ⟨⟨hx, hb, hml, hown, hts⟩, -, hlocks, -, hA, hP, hK, hD, hS, hl⟩ := hin
  have hts : ∀ w ∈ wsAll, w.before ([.ref (ad 0), .int x1] : List Value).toArray s = true := fun w h => hts w (List.mem_cons_of_mem _ h)
  have hl : lv_has ls 2 [(0, .ref (ad 0)), (1, .int x1)] := hl
  refine lv_iload_n hx hb dX3_isPattern_0 rfl (lv_at hl 1 rfl) ?_
  refine lv_if_lt (tgt := 16) hx hb dX3_isPattern_1 (by decide) (fun h1 => ?_) (fun h1 => ?_)
  · refine lv_iconst (v := (nI 0)) hx hb dX3_isPattern_16 (by decide) ?_
    exact hret _ _ _ _ _ _ hP hS dX3_isPattern_17 rfl (⟨rfl, rfl⟩)
  · refine lv_iload_n hx hb dX3_isPattern_4 rfl (lv_at hl 1 rfl) ?_
    refine lv_aload_n hx hb dX3_isPattern_5 rfl (lv_at hl 0 rfl) ?_
    refine gw_geti (C := RX3) (T := TX3) (N := 27) hx hb hts inwX3 hown hK hP 0 3 rfl rfl rfl (by decide) (hts _ a96) (fun _ h9 => h9) dX3_isPattern_6 ?_
    refine gw_top (y := (nI 0)) (by simp [gw_u, upd, hF 0 3 (by decide), fm]) ?_
    refine lv_icmp_ge (tgt := 16) hx hb dX3_isPattern_9 (by decide) (fun h6 => ?_) (fun h6 => ?_)
    · refine lv_iconst (v := (nI 0)) hx hb dX3_isPattern_16 (by decide) ?_
      exact hret _ _ _ _ _ _ hP hS dX3_isPattern_17 rfl (⟨rfl, rfl⟩)
    · exact absurd (i_nlt.mp h1) h6
abbrev rmX3_gives : Room := { frames := 1, cells := 0, slots := 0, locals := 22 }
set_option maxRecDepth 100000 in
set_option maxHeartbeats 4000000 in
theorem m_X3_gives (l : Launch) (hl9 : l.stackTraces = false) (D : va_G) (cI : ClassId) (cJ : ClassId × ClassId) (ad : Nat → Nat) (sg0 : Nat → Nat → Int32) (sz : Nat) (x1 : Int32) (x2 : Int32) (x3 : Int32) (hF : ∀ k j : Nat, k < 13 → sg0 k j = fm k j) : gc_M l yX3_gives wsX3_gives rmX3_gives D vwCl (tyS cI cJ) cI cJ gxT gxN SM [.ref (ad 0), .int x1, .int x2, .int x3] ad sg0 sz 0 0 (fun v sg2 => v = none ∧ sg2 0 0 = nI 1) := by
  refine gc_Mv_of (cc := cX3_gives) (maxL := 4) (by decide) rfl (Nat.le_of_ble_eq_true rfl) ?_
  intro p e s m below meth c A ls Q hin hE hret
  obtain ⟨⟨hx, hb, hml, hown, hts⟩, -, hlocks, -, hA, hP, hK, hD, hS, hl⟩ := hin
  have hts : ∀ w ∈ wsAll, w.before ([.ref (ad 0), .int x1, .int x2, .int x3] : List Value).toArray s = true := fun w h => hts w (List.mem_cons_of_mem _ h)
  have hl : lv_has ls 4 [(0, .ref (ad 0)), (1, .int x1), (2, .int x2), (3, .int x3)] := hl
  refine lv_aload_n hx hb dX3_gives_0 rfl (lv_at hl 0 rfl) ?_
  refine lv_aload_n hx hb dX3_gives_1 rfl (lv_at hl 0 rfl) ?_
  refine lv_iload_n hx hb dX3_gives_2 rfl (lv_at hl 1 rfl) ?_
  refine gc_go0 (va_runV (As := [.int x1]) (rest := [.ref (ad 0)]) ⟨hx, hb, hml, hown, hts⟩ (m_X3_isPattern l hl9 D cI cJ ad sg0 _ x1 hF) (cwV 1 hts (gwV a99 a100 a101 a87 a102) rfl rfl rfl (by decide +kernel) ⟨by decide, by decide⟩) (gc_preV0 hK hP hD hS hA hE rfl rfl rfl) rfl rfl hl.1 rfl (lv_room (Nat.le_of_ble_eq_true rfl)) dX3_gives_3 ⟨by decide, by decide⟩) hD hS hA (fun v1 sg3 H locs hp4 hP hD hS => ?_)
  obtain ⟨rfl, hs9⟩ := hp4
  rw [hs9] at hP hD
  refine W.eq (g2 := F0 m 6 ls [.int (nI 0), .ref (ad 0)]) rfl ?_
  refine lv_if_eq (tgt := 18) hx hb dX3_gives_6 (by decide) (fun hc7 => ?_) (fun hc7 => ?_)
  · refine lv_iconst (v := (nI 1)) hx hb dX3_gives_18 (by decide) ?_
    refine lv_goto (tgt := 37) hx hb dX3_gives_19 (by decide) ?_
    refine gw_put (C := RX3) (T := TX3) (N := 27) (ty := .int) hx hb hts inwX3 tyX3 tyX3_ok nmX3 hown hK hP hD hS 0 0 rfl rfl rfl (by decide) (hts _ a82) (fun _ h9 => h9) rfl (by decide +kernel) rfl rfl dX3_gives_37 (fun H locs hP hD hS => ?_)
    obtain ⟨sg8, esg8⟩ : ∃ z : Nat → Nat → Int32, z = gw_u sg0 0 (upd (sg0 0) 0 (nI 1)) := ⟨_, rfl⟩
    rw [← esg8] at hP hD
    refine lv_aload_n hx hb dX3_gives_40 rfl (lv_at hl 0 rfl) ?_
    refine gw_geti (C := RX3) (T := TX3) (N := 27) hx hb hts inwX3 hown hK hP 0 0 rfl rfl rfl (by decide) (hts _ a82) (fun _ h9 => h9) dX3_gives_41 ?_
    refine gw_top (y := (nI 1)) (by simp [esg8, gw_u, upd]) ?_
    refine lv_if_ne (tgt := 62) hx hb dX3_gives_44 (by decide) (fun hc9 => ?_) (fun hc9 => ?_)
    · exact hret _ _ _ _ _ hP hS dX3_gives_62 (⟨rfl, by simp [esg8, gw_u, upd]⟩)
    · exact absurd hc9 (by decide)
  · exact absurd hc7 (by decide)
abbrev rmX3_order : Room := { frames := 1, cells := 0, slots := 0, locals := 22 }
set_option maxRecDepth 100000 in
set_option maxHeartbeats 4000000 in
theorem m_X3_order (l : Launch) (hl9 : l.stackTraces = false) (D : va_G) (cI : ClassId) (cJ : ClassId × ClassId) (ad : Nat → Nat) (sg0 : Nat → Nat → Int32) (sz : Nat) (x1 : Int32) (x2 : Int32) (x3 : Int32) (x4 : Int32) (hF : ∀ k j : Nat, k < 13 → sg0 k j = fm k j) : gc_M l yX3_order wsX3_order rmX3_order D vwCl (tyS cI cJ) cI cJ gxT gxN SM [.ref (ad 0), .int x1, .int x2, .int x3, .int x4] ad sg0 sz 0 0 (fun v sg2 => v = none ∧ sg2 0 0 = kOrder x1 x2 x3 x4) := by
  refine gc_Mv_of (cc := cX3_order) (maxL := 5) (by decide) rfl (Nat.le_of_ble_eq_true rfl) ?_
  intro p e s m below meth c A ls Q hin hE hret
  obtain ⟨⟨hx, hb, hml, hown, hts⟩, -, hlocks, -, hA, hP, hK, hD, hS, hl⟩ := hin
  have hts : ∀ w ∈ wsAll, w.before ([.ref (ad 0), .int x1, .int x2, .int x3, .int x4] : List Value).toArray s = true := fun w h => hts w (List.mem_cons_of_mem _ h)
  have hl : lv_has ls 5 [(0, .ref (ad 0)), (1, .int x1), (2, .int x2), (3, .int x3), (4, .int x4)] := hl
  refine lv_aload_n hx hb dX3_order_0 rfl (lv_at hl 0 rfl) ?_
  refine lv_iload_n hx hb dX3_order_1 rfl (lv_at hl 1 rfl) ?_
  refine lv_iconst (v := (nI 0)) hx hb dX3_order_2 (by decide) ?_
  refine lv_iconst (v := (nI 3)) hx hb dX3_order_3 (by decide) ?_
  refine gc_go (pl := []) (S2 := SE) (ad := ad) (sg := sg0) (va_runS (As := [.int x1, .int (nI 0), .int (nI 3)]) (rest := [.ref (ad 0)]) ⟨hx, hb, hml, hown, hts⟩ (m_X3_isIn l hl9 D cI cJ (fun j => ad (gw_p [] j)) (fun j => sg0 (gw_p [] j)) _ x1 (nI 0) (nI 3) ) (cwS 3 hts (gwS a85 a86 a87 a88) rfl rfl rfl (by decide +kernel) ⟨by decide, by decide⟩) (gc_preS hK hP hD hS hA hE rfl) rfl rfl hl.1 rfl (lv_room (Nat.le_of_ble_eq_true rfl)) dX3_order_4 ⟨by decide, by decide⟩) hP hD hS hA rfl (fun v1 sp2 sg3 H locs hp4 ha5 hb6 hP hD hS => ?_)
  rw [show sg3 = sg0 from funext (fun k => hb6 k (by simp))] at hP hD
  rcases hp4 with ⟨rfl, hi1⟩ | ⟨rfl, hi1⟩
  · refine W.eq (g2 := F0 m 7 ls [.int (nI 1), .ref (ad 0)]) rfl ?_
    refine lv_if_ne (tgt := 14) hx hb dX3_order_7 (by decide) (fun hc7 => ?_) (fun hc7 => ?_)
    · refine lv_iload_n hx hb dX3_order_14 rfl (lv_at hl 2 rfl) ?_
      refine lv_iconst (v := (nI 0)) hx hb dX3_order_15 (by decide) ?_
      refine lv_sipush (v := (nI 1000)) hx hb dX3_order_16 (by decide) ?_
      refine gc_go (pl := []) (S2 := SE) (ad := ad) (sg := sg0) (va_runS (As := [.int x2, .int (nI 0), .int (nI 1000)]) (rest := [.ref (ad 0)]) ⟨hx, hb, hml, hown, hts⟩ (m_X3_isIn l hl9 D cI cJ (fun j => ad (gw_p [] j)) (fun j => sg0 (gw_p [] j)) _ x2 (nI 0) (nI 1000) ) (cwS 3 hts (gwS a85 a86 a87 a88) rfl rfl rfl (by decide +kernel) ⟨by decide, by decide⟩) (gc_preS hK hP hD hS hA hE rfl) rfl rfl hl.1 rfl (lv_room (Nat.le_of_ble_eq_true rfl)) dX3_order_19 ⟨by decide, by decide⟩) hP hD hS hA rfl (fun v8 sp9 sg10 H locs hp11 ha12 hb13 hP hD hS => ?_)
      rw [show sg10 = sg0 from funext (fun k => hb13 k (by simp))] at hP hD
      rcases hp11 with ⟨rfl, hi2⟩ | ⟨rfl, hi2⟩
      · refine W.eq (g2 := F0 m 22 ls [.int (nI 1), .ref (ad 0)]) rfl ?_
        refine lv_if_eq (tgt := 48) hx hb dX3_order_22 (by decide) (fun hc14 => ?_) (fun hc14 => ?_)
        · exact absurd hc14 (by decide)
        · refine lv_iload_n hx hb dX3_order_25 rfl (lv_at hl 3 rfl) ?_
          refine lv_iload_n hx hb dX3_order_26 rfl (lv_at hl 2 rfl) ?_
          refine lv_sipush (v := (nI 1000)) hx hb dX3_order_27 (by decide) ?_
          refine gc_go (pl := []) (S2 := SE) (ad := ad) (sg := sg0) (va_runS (As := [.int x3, .int x2, .int (nI 1000)]) (rest := [.ref (ad 0)]) ⟨hx, hb, hml, hown, hts⟩ (m_X3_isIn l hl9 D cI cJ (fun j => ad (gw_p [] j)) (fun j => sg0 (gw_p [] j)) _ x3 x2 (nI 1000) ) (cwS 3 hts (gwS a85 a86 a87 a88) rfl rfl rfl (by decide +kernel) ⟨by decide, by decide⟩) (gc_preS hK hP hD hS hA hE rfl) rfl rfl hl.1 rfl (lv_room (Nat.le_of_ble_eq_true rfl)) dX3_order_30 ⟨by decide, by decide⟩) hP hD hS hA rfl (fun v15 sp16 sg17 H locs hp18 ha19 hb20 hP hD hS => ?_)
          rw [show sg17 = sg0 from funext (fun k => hb20 k (by simp))] at hP hD
          rcases hp18 with ⟨rfl, hi3⟩ | ⟨rfl, hi3⟩
          · refine W.eq (g2 := F0 m 33 ls [.int (nI 1), .ref (ad 0)]) rfl ?_
            refine lv_if_eq (tgt := 48) hx hb dX3_order_33 (by decide) (fun hc21 => ?_) (fun hc21 => ?_)
            · exact absurd hc21 (by decide)
            · refine lv_iload hx hb dX3_order_36 (lv_at hl 4 rfl) ?_
              refine lv_iconst (v := (nI 0)) hx hb dX3_order_38 (by decide) ?_
              refine lv_sipush (v := (nI 1000)) hx hb dX3_order_39 (by decide) ?_
              refine gc_go (pl := []) (S2 := SE) (ad := ad) (sg := sg0) (va_runS (As := [.int x4, .int (nI 0), .int (nI 1000)]) (rest := [.ref (ad 0)]) ⟨hx, hb, hml, hown, hts⟩ (m_X3_isIn l hl9 D cI cJ (fun j => ad (gw_p [] j)) (fun j => sg0 (gw_p [] j)) _ x4 (nI 0) (nI 1000) ) (cwS 3 hts (gwS a85 a86 a87 a88) rfl rfl rfl (by decide +kernel) ⟨by decide, by decide⟩) (gc_preS hK hP hD hS hA hE rfl) rfl rfl hl.1 rfl (lv_room (Nat.le_of_ble_eq_true rfl)) dX3_order_42 ⟨by decide, by decide⟩) hP hD hS hA rfl (fun v22 sp23 sg24 H locs hp25 ha26 hb27 hP hD hS => ?_)
              rw [show sg24 = sg0 from funext (fun k => hb27 k (by simp))] at hP hD
              rcases hp25 with ⟨rfl, hi4⟩ | ⟨rfl, hi4⟩
              · refine W.eq (g2 := F0 m 45 ls [.int (nI 1), .ref (ad 0)]) rfl ?_
                refine lv_if_ne (tgt := 52) hx hb dX3_order_45 (by decide) (fun hc28 => ?_) (fun hc28 => ?_)
                · refine lv_iconst (v := (nI 0)) hx hb dX3_order_52 (by decide) ?_
                  refine gw_put (C := RX3) (T := TX3) (N := 27) (ty := .int) hx hb hts inwX3 tyX3 tyX3_ok nmX3 hown hK hP hD hS 0 0 rfl rfl rfl (by decide) (hts _ a82) (fun _ h9 => h9) rfl (by decide +kernel) rfl rfl dX3_order_53 (fun H locs hP hD hS => ?_)
                  obtain ⟨sg29, esg29⟩ : ∃ z : Nat → Nat → Int32, z = gw_u sg0 0 (upd (sg0 0) 0 (nI 0)) := ⟨_, rfl⟩
                  rw [← esg29] at hP hD
                  refine lv_aload_n hx hb dX3_order_56 rfl (lv_at hl 0 rfl) ?_
                  refine gw_geti (C := RX3) (T := TX3) (N := 27) hx hb hts inwX3 hown hK hP 0 0 rfl rfl rfl (by decide) (hts _ a82) (fun _ h9 => h9) dX3_order_57 ?_
                  refine gw_top (y := (nI 0)) (by simp [esg29, gw_u, upd]) ?_
                  refine lv_if_ne (tgt := 89) hx hb dX3_order_60 (by decide) (fun hc30 => ?_) (fun hc30 => ?_)
                  · exact absurd hc30 (by decide)
                  · have hk9 : kOrder x1 x2 x3 x4 = nI 0 := by simp [kOrder, kif, hi1, hi2, hi3, hi4]
                    obtain ⟨j1, hj1, rfl⟩ := inof3 hi1
                    refine lv_aload_n hx hb dX3_order_63 rfl (lv_at hl 0 rfl) ?_
                    refine gw_getr (C := RX3) (T := TX3) (N := 27) hx hb hts inwX3 hown hK hP 0 7 6 rfl rfl rfl (by decide) (hts _ a103) (fun _ h9 => h9) dX3_order_64 ?_
                    refine lv_iload_n hx hb dX3_order_67 rfl (lv_at hl 1 rfl) ?_
                    refine lv_iload_n hx hb dX3_order_68 rfl (lv_at hl 2 rfl) ?_
                    refine gw_ast hx hb hK hP hD hS 6 0 (n := 4) rfl rfl (i := j1) (by omega) (by decide) dX3_order_69 (fun H locs hP hD hS => ?_)
                    obtain ⟨sg31, esg31⟩ : ∃ z : Nat → Nat → Int32, z = gw_u sg29 6 (upd (sg29 6) j1 x2) := ⟨_, rfl⟩
                    rw [← esg31] at hP hD
                    refine lv_aload_n hx hb dX3_order_70 rfl (lv_at hl 0 rfl) ?_
                    refine gw_getr (C := RX3) (T := TX3) (N := 27) hx hb hts inwX3 hown hK hP 0 8 7 rfl rfl rfl (by decide) (hts _ a104) (fun _ h9 => h9) dX3_order_71 ?_
                    refine lv_iload_n hx hb dX3_order_74 rfl (lv_at hl 1 rfl) ?_
                    refine lv_iload_n hx hb dX3_order_75 rfl (lv_at hl 3 rfl) ?_
                    refine gw_ast hx hb hK hP hD hS 7 0 (n := 4) rfl rfl (i := j1) (by omega) (by decide) dX3_order_76 (fun H locs hP hD hS => ?_)
                    obtain ⟨sg32, esg32⟩ : ∃ z : Nat → Nat → Int32, z = gw_u sg31 7 (upd (sg31 7) j1 x3) := ⟨_, rfl⟩
                    rw [← esg32] at hP hD
                    refine lv_aload_n hx hb dX3_order_77 rfl (lv_at hl 0 rfl) ?_
                    refine gw_getr (C := RX3) (T := TX3) (N := 27) hx hb hts inwX3 hown hK hP 0 9 8 rfl rfl rfl (by decide) (hts _ a105) (fun _ h9 => h9) dX3_order_78 ?_
                    refine lv_iload_n hx hb dX3_order_81 rfl (lv_at hl 1 rfl) ?_
                    refine lv_iload hx hb dX3_order_82 (lv_at hl 4 rfl) ?_
                    refine gw_ast hx hb hK hP hD hS 8 0 (n := 4) rfl rfl (i := j1) (by omega) (by decide) dX3_order_84 (fun H locs hP hD hS => ?_)
                    obtain ⟨sg33, esg33⟩ : ∃ z : Nat → Nat → Int32, z = gw_u sg32 8 (upd (sg32 8) j1 x4) := ⟨_, rfl⟩
                    rw [← esg33] at hP hD
                    refine lv_aload_n hx hb dX3_order_85 rfl (lv_at hl 0 rfl) ?_
                    refine gc_go0 (va_runV (As := []) (rest := []) ⟨hx, hb, hml, hown, hts⟩ (m_X3_forget l hl9 D cI cJ ad sg33 _  ) (cwV 0 hts (gwV a92 a93 a94 a87 a95) rfl rfl rfl (by decide +kernel) ⟨by decide, by decide⟩) (gc_preV0 hK hP hD hS hA hE rfl rfl rfl) rfl rfl hl.1 rfl (lv_room (Nat.le_of_ble_eq_true rfl)) dX3_order_86 ⟨by decide, by decide⟩) hD hS hA (fun v34 sg36 H locs hp37 hP hD hS => ?_)
                    obtain ⟨rfl, hq7⟩ := hp37
                    have hq9 := hq7 0 (by decide) (by decide)
                    have hq8 := hq7 3 (by decide) (by decide)
                    refine W.eq (g2 := F0 m 89 ls []) rfl ?_
                    exact hret _ _ _ _ _ hP hS dX3_order_89 (⟨rfl, (show _ = (nI 0) from by simp [hq8, hq9, esg33, esg32, esg31, esg29, gw_u, upd]).trans hk9.symm⟩)
                · exact absurd hc28 (by decide)
              · refine W.eq (g2 := F0 m 45 ls [.int (nI 0), .ref (ad 0)]) rfl ?_
                refine lv_if_ne (tgt := 52) hx hb dX3_order_45 (by decide) (fun hc40 => ?_) (fun hc40 => ?_)
                · exact absurd hc40 (by decide)
                · refine lv_iconst (v := (nI 2)) hx hb dX3_order_48 (by decide) ?_
                  refine lv_goto (tgt := 53) hx hb dX3_order_49 (by decide) ?_
                  refine gw_put (C := RX3) (T := TX3) (N := 27) (ty := .int) hx hb hts inwX3 tyX3 tyX3_ok nmX3 hown hK hP hD hS 0 0 rfl rfl rfl (by decide) (hts _ a82) (fun _ h9 => h9) rfl (by decide +kernel) rfl rfl dX3_order_53 (fun H locs hP hD hS => ?_)
                  obtain ⟨sg41, esg41⟩ : ∃ z : Nat → Nat → Int32, z = gw_u sg0 0 (upd (sg0 0) 0 (nI 2)) := ⟨_, rfl⟩
                  rw [← esg41] at hP hD
                  refine lv_aload_n hx hb dX3_order_56 rfl (lv_at hl 0 rfl) ?_
                  refine gw_geti (C := RX3) (T := TX3) (N := 27) hx hb hts inwX3 hown hK hP 0 0 rfl rfl rfl (by decide) (hts _ a82) (fun _ h9 => h9) dX3_order_57 ?_
                  refine gw_top (y := (nI 2)) (by simp [esg41, gw_u, upd]) ?_
                  refine lv_if_ne (tgt := 89) hx hb dX3_order_60 (by decide) (fun hc42 => ?_) (fun hc42 => ?_)
                  · exact hret _ _ _ _ _ hP hS dX3_order_89 (⟨rfl, (show _ = (nI 2) from by simp [esg41, gw_u, upd]).trans (show (nI 2) = kOrder x1 x2 x3 x4 by simp [kOrder, kif, hi1, hi2, hi3, hi4])⟩)
                  · exact absurd hc42 (by decide)
          · refine W.eq (g2 := F0 m 33 ls [.int (nI 0), .ref (ad 0)]) rfl ?_
            refine lv_if_eq (tgt := 48) hx hb dX3_order_33 (by decide) (fun hc43 => ?_) (fun hc43 => ?_)
            · refine lv_iconst (v := (nI 2)) hx hb dX3_order_48 (by decide) ?_
              refine lv_goto (tgt := 53) hx hb dX3_order_49 (by decide) ?_
              refine gw_put (C := RX3) (T := TX3) (N := 27) (ty := .int) hx hb hts inwX3 tyX3 tyX3_ok nmX3 hown hK hP hD hS 0 0 rfl rfl rfl (by decide) (hts _ a82) (fun _ h9 => h9) rfl (by decide +kernel) rfl rfl dX3_order_53 (fun H locs hP hD hS => ?_)
              obtain ⟨sg44, esg44⟩ : ∃ z : Nat → Nat → Int32, z = gw_u sg0 0 (upd (sg0 0) 0 (nI 2)) := ⟨_, rfl⟩
              rw [← esg44] at hP hD
              refine lv_aload_n hx hb dX3_order_56 rfl (lv_at hl 0 rfl) ?_
              refine gw_geti (C := RX3) (T := TX3) (N := 27) hx hb hts inwX3 hown hK hP 0 0 rfl rfl rfl (by decide) (hts _ a82) (fun _ h9 => h9) dX3_order_57 ?_
              refine gw_top (y := (nI 2)) (by simp [esg44, gw_u, upd]) ?_
              refine lv_if_ne (tgt := 89) hx hb dX3_order_60 (by decide) (fun hc45 => ?_) (fun hc45 => ?_)
              · exact hret _ _ _ _ _ hP hS dX3_order_89 (⟨rfl, (show _ = (nI 2) from by simp [esg44, gw_u, upd]).trans (show (nI 2) = kOrder x1 x2 x3 x4 by simp [kOrder, kif, hi1, hi2, hi3])⟩)
              · exact absurd hc45 (by decide)
            · exact absurd hc43 (by decide)
      · refine W.eq (g2 := F0 m 22 ls [.int (nI 0), .ref (ad 0)]) rfl ?_
        refine lv_if_eq (tgt := 48) hx hb dX3_order_22 (by decide) (fun hc46 => ?_) (fun hc46 => ?_)
        · refine lv_iconst (v := (nI 2)) hx hb dX3_order_48 (by decide) ?_
          refine lv_goto (tgt := 53) hx hb dX3_order_49 (by decide) ?_
          refine gw_put (C := RX3) (T := TX3) (N := 27) (ty := .int) hx hb hts inwX3 tyX3 tyX3_ok nmX3 hown hK hP hD hS 0 0 rfl rfl rfl (by decide) (hts _ a82) (fun _ h9 => h9) rfl (by decide +kernel) rfl rfl dX3_order_53 (fun H locs hP hD hS => ?_)
          obtain ⟨sg47, esg47⟩ : ∃ z : Nat → Nat → Int32, z = gw_u sg0 0 (upd (sg0 0) 0 (nI 2)) := ⟨_, rfl⟩
          rw [← esg47] at hP hD
          refine lv_aload_n hx hb dX3_order_56 rfl (lv_at hl 0 rfl) ?_
          refine gw_geti (C := RX3) (T := TX3) (N := 27) hx hb hts inwX3 hown hK hP 0 0 rfl rfl rfl (by decide) (hts _ a82) (fun _ h9 => h9) dX3_order_57 ?_
          refine gw_top (y := (nI 2)) (by simp [esg47, gw_u, upd]) ?_
          refine lv_if_ne (tgt := 89) hx hb dX3_order_60 (by decide) (fun hc48 => ?_) (fun hc48 => ?_)
          · exact hret _ _ _ _ _ hP hS dX3_order_89 (⟨rfl, (show _ = (nI 2) from by simp [esg47, gw_u, upd]).trans (show (nI 2) = kOrder x1 x2 x3 x4 by simp [kOrder, kif, hi1, hi2])⟩)
          · exact absurd hc48 (by decide)
        · exact absurd hc46 (by decide)
    · exact absurd hc7 (by decide)
  · refine W.eq (g2 := F0 m 7 ls [.int (nI 0), .ref (ad 0)]) rfl ?_
    refine lv_if_ne (tgt := 14) hx hb dX3_order_7 (by decide) (fun hc49 => ?_) (fun hc49 => ?_)
    · exact absurd hc49 (by decide)
    · refine lv_iconst (v := (nI 1)) hx hb dX3_order_10 (by decide) ?_
      refine lv_goto (tgt := 53) hx hb dX3_order_11 (by decide) ?_
      refine gw_put (C := RX3) (T := TX3) (N := 27) (ty := .int) hx hb hts inwX3 tyX3 tyX3_ok nmX3 hown hK hP hD hS 0 0 rfl rfl rfl (by decide) (hts _ a82) (fun _ h9 => h9) rfl (by decide +kernel) rfl rfl dX3_order_53 (fun H locs hP hD hS => ?_)
      obtain ⟨sg50, esg50⟩ : ∃ z : Nat → Nat → Int32, z = gw_u sg0 0 (upd (sg0 0) 0 (nI 1)) := ⟨_, rfl⟩
      rw [← esg50] at hP hD
      refine lv_aload_n hx hb dX3_order_56 rfl (lv_at hl 0 rfl) ?_
      refine gw_geti (C := RX3) (T := TX3) (N := 27) hx hb hts inwX3 hown hK hP 0 0 rfl rfl rfl (by decide) (hts _ a82) (fun _ h9 => h9) dX3_order_57 ?_
      refine gw_top (y := (nI 1)) (by simp [esg50, gw_u, upd]) ?_
      refine lv_if_ne (tgt := 89) hx hb dX3_order_60 (by decide) (fun hc51 => ?_) (fun hc51 => ?_)
      · exact hret _ _ _ _ _ hP hS dX3_order_89 (⟨rfl, (show _ = (nI 1) from by simp [esg50, gw_u, upd]).trans (show (nI 1) = kOrder x1 x2 x3 x4 by simp [kOrder, kif, hi1])⟩)
      · exact absurd hc51 (by decide)
abbrev rmX3_hours : Room := { frames := 1, cells := 0, slots := 0, locals := 22 }
set_option maxRecDepth 100000 in
set_option maxHeartbeats 4000000 in
theorem m_X3_hours (l : Launch) (hl9 : l.stackTraces = false) (D : va_G) (cI : ClassId) (cJ : ClassId × ClassId) (ad : Nat → Nat) (sg0 : Nat → Nat → Int32) (sz : Nat) (x1 : Int32) (x2 : Int32) (hF : ∀ k j : Nat, k < 13 → sg0 k j = fm k j) : gc_M l yX3_hours wsX3_hours rmX3_hours D vwCl (tyS cI cJ) cI cJ gxT gxN SM [.ref (ad 0), .int x1, .int x2] ad sg0 sz 0 0 (fun v sg2 => v = none ∧ sg2 0 0 = kHours x1 x2) := by
  refine gc_Mv_of (cc := cX3_hours) (maxL := 3) (by decide) rfl (Nat.le_of_ble_eq_true rfl) ?_
  intro p e s m below meth c A ls Q hin hE hret
  obtain ⟨⟨hx, hb, hml, hown, hts⟩, -, hlocks, -, hA, hP, hK, hD, hS, hl⟩ := hin
  have hts : ∀ w ∈ wsAll, w.before ([.ref (ad 0), .int x1, .int x2] : List Value).toArray s = true := fun w h => hts w (List.mem_cons_of_mem _ h)
  have hl : lv_has ls 3 [(0, .ref (ad 0)), (1, .int x1), (2, .int x2)] := hl
  refine lv_aload_n hx hb dX3_hours_0 rfl (lv_at hl 0 rfl) ?_
  refine lv_iload_n hx hb dX3_hours_1 rfl (lv_at hl 1 rfl) ?_
  refine lv_iconst (v := (nI 0)) hx hb dX3_hours_2 (by decide) ?_
  refine lv_sipush (v := (nI 1440)) hx hb dX3_hours_3 (by decide) ?_
  refine gc_go (pl := []) (S2 := SE) (ad := ad) (sg := sg0) (va_runS (As := [.int x1, .int (nI 0), .int (nI 1440)]) (rest := [.ref (ad 0)]) ⟨hx, hb, hml, hown, hts⟩ (m_X3_isIn l hl9 D cI cJ (fun j => ad (gw_p [] j)) (fun j => sg0 (gw_p [] j)) _ x1 (nI 0) (nI 1440) ) (cwS 3 hts (gwS a85 a86 a87 a88) rfl rfl rfl (by decide +kernel) ⟨by decide, by decide⟩) (gc_preS hK hP hD hS hA hE rfl) rfl rfl hl.1 rfl (lv_room (Nat.le_of_ble_eq_true rfl)) dX3_hours_6 ⟨by decide, by decide⟩) hP hD hS hA rfl (fun v1 sp2 sg3 H locs hp4 ha5 hb6 hP hD hS => ?_)
  rw [show sg3 = sg0 from funext (fun k => hb6 k (by simp))] at hP hD
  rcases hp4 with ⟨rfl, hi1⟩ | ⟨rfl, hi1⟩
  · refine W.eq (g2 := F0 m 9 ls [.int (nI 1), .ref (ad 0)]) rfl ?_
    refine lv_if_eq (tgt := 27) hx hb dX3_hours_9 (by decide) (fun hc7 => ?_) (fun hc7 => ?_)
    · exact absurd hc7 (by decide)
    · refine lv_iload_n hx hb dX3_hours_12 rfl (lv_at hl 2 rfl) ?_
      refine lv_iconst (v := (nI 0)) hx hb dX3_hours_13 (by decide) ?_
      refine lv_sipush (v := (nI 1440)) hx hb dX3_hours_14 (by decide) ?_
      refine gc_go (pl := []) (S2 := SE) (ad := ad) (sg := sg0) (va_runS (As := [.int x2, .int (nI 0), .int (nI 1440)]) (rest := [.ref (ad 0)]) ⟨hx, hb, hml, hown, hts⟩ (m_X3_isIn l hl9 D cI cJ (fun j => ad (gw_p [] j)) (fun j => sg0 (gw_p [] j)) _ x2 (nI 0) (nI 1440) ) (cwS 3 hts (gwS a85 a86 a87 a88) rfl rfl rfl (by decide +kernel) ⟨by decide, by decide⟩) (gc_preS hK hP hD hS hA hE rfl) rfl rfl hl.1 rfl (lv_room (Nat.le_of_ble_eq_true rfl)) dX3_hours_17 ⟨by decide, by decide⟩) hP hD hS hA rfl (fun v8 sp9 sg10 H locs hp11 ha12 hb13 hP hD hS => ?_)
      rw [show sg10 = sg0 from funext (fun k => hb13 k (by simp))] at hP hD
      rcases hp11 with ⟨rfl, hi2⟩ | ⟨rfl, hi2⟩
      · refine W.eq (g2 := F0 m 20 ls [.int (nI 1), .ref (ad 0)]) rfl ?_
        refine lv_if_eq (tgt := 27) hx hb dX3_hours_20 (by decide) (fun hc14 => ?_) (fun hc14 => ?_)
        · exact absurd hc14 (by decide)
        · refine lv_iconst (v := (nI 0)) hx hb dX3_hours_23 (by decide) ?_
          refine lv_goto (tgt := 28) hx hb dX3_hours_24 (by decide) ?_
          refine gw_put (C := RX3) (T := TX3) (N := 27) (ty := .int) hx hb hts inwX3 tyX3 tyX3_ok nmX3 hown hK hP hD hS 0 0 rfl rfl rfl (by decide) (hts _ a82) (fun _ h9 => h9) rfl (by decide +kernel) rfl rfl dX3_hours_28 (fun H locs hP hD hS => ?_)
          obtain ⟨sg15, esg15⟩ : ∃ z : Nat → Nat → Int32, z = gw_u sg0 0 (upd (sg0 0) 0 (nI 0)) := ⟨_, rfl⟩
          rw [← esg15] at hP hD
          refine lv_aload_n hx hb dX3_hours_31 rfl (lv_at hl 0 rfl) ?_
          refine gw_geti (C := RX3) (T := TX3) (N := 27) hx hb hts inwX3 hown hK hP 0 0 rfl rfl rfl (by decide) (hts _ a82) (fun _ h9 => h9) dX3_hours_32 ?_
          refine gw_top (y := (nI 0)) (by simp [esg15, gw_u, upd]) ?_
          refine lv_if_ne (tgt := 52) hx hb dX3_hours_35 (by decide) (fun hc16 => ?_) (fun hc16 => ?_)
          · exact absurd hc16 (by decide)
          · have hk9 : kHours x1 x2 = nI 0 := by simp [kHours, kif, hi1, hi2]
            refine lv_aload_n hx hb dX3_hours_38 rfl (lv_at hl 0 rfl) ?_
            refine lv_iload_n hx hb dX3_hours_39 rfl (lv_at hl 1 rfl) ?_
            refine gw_put (C := RX3) (T := TX3) (N := 27) (ty := .int) hx hb hts inwX3 tyX3 tyX3_ok nmX3 hown hK hP hD hS 0 11 rfl rfl rfl (by decide) (hts _ a106) (fun _ h9 => h9) rfl (by decide +kernel) rfl rfl dX3_hours_40 (fun H locs hP hD hS => ?_)
            obtain ⟨sg17, esg17⟩ : ∃ z : Nat → Nat → Int32, z = gw_u sg15 0 (upd (sg15 0) 11 x1) := ⟨_, rfl⟩
            rw [← esg17] at hP hD
            refine lv_aload_n hx hb dX3_hours_43 rfl (lv_at hl 0 rfl) ?_
            refine lv_iload_n hx hb dX3_hours_44 rfl (lv_at hl 2 rfl) ?_
            refine gw_put (C := RX3) (T := TX3) (N := 27) (ty := .int) hx hb hts inwX3 tyX3 tyX3_ok nmX3 hown hK hP hD hS 0 12 rfl rfl rfl (by decide) (hts _ a107) (fun _ h9 => h9) rfl (by decide +kernel) rfl rfl dX3_hours_45 (fun H locs hP hD hS => ?_)
            obtain ⟨sg18, esg18⟩ : ∃ z : Nat → Nat → Int32, z = gw_u sg17 0 (upd (sg17 0) 12 x2) := ⟨_, rfl⟩
            rw [← esg18] at hP hD
            refine lv_aload_n hx hb dX3_hours_48 rfl (lv_at hl 0 rfl) ?_
            refine gc_go0 (va_runV (As := []) (rest := []) ⟨hx, hb, hml, hown, hts⟩ (m_X3_forget l hl9 D cI cJ ad sg18 _  ) (cwV 0 hts (gwV a92 a93 a94 a87 a95) rfl rfl rfl (by decide +kernel) ⟨by decide, by decide⟩) (gc_preV0 hK hP hD hS hA hE rfl rfl rfl) rfl rfl hl.1 rfl (lv_room (Nat.le_of_ble_eq_true rfl)) dX3_hours_49 ⟨by decide, by decide⟩) hD hS hA (fun v19 sg21 H locs hp22 hP hD hS => ?_)
            obtain ⟨rfl, hq7⟩ := hp22
            have hq9 := hq7 0 (by decide) (by decide)
            have hq8 := hq7 3 (by decide) (by decide)
            refine W.eq (g2 := F0 m 52 ls []) rfl ?_
            exact hret _ _ _ _ _ hP hS dX3_hours_52 (⟨rfl, (show _ = (nI 0) from by simp [hq8, hq9, esg18, esg17, esg15, gw_u, upd]).trans hk9.symm⟩)
      · refine W.eq (g2 := F0 m 20 ls [.int (nI 0), .ref (ad 0)]) rfl ?_
        refine lv_if_eq (tgt := 27) hx hb dX3_hours_20 (by decide) (fun hc25 => ?_) (fun hc25 => ?_)
        · refine lv_iconst (v := (nI 1)) hx hb dX3_hours_27 (by decide) ?_
          refine gw_put (C := RX3) (T := TX3) (N := 27) (ty := .int) hx hb hts inwX3 tyX3 tyX3_ok nmX3 hown hK hP hD hS 0 0 rfl rfl rfl (by decide) (hts _ a82) (fun _ h9 => h9) rfl (by decide +kernel) rfl rfl dX3_hours_28 (fun H locs hP hD hS => ?_)
          obtain ⟨sg26, esg26⟩ : ∃ z : Nat → Nat → Int32, z = gw_u sg0 0 (upd (sg0 0) 0 (nI 1)) := ⟨_, rfl⟩
          rw [← esg26] at hP hD
          refine lv_aload_n hx hb dX3_hours_31 rfl (lv_at hl 0 rfl) ?_
          refine gw_geti (C := RX3) (T := TX3) (N := 27) hx hb hts inwX3 hown hK hP 0 0 rfl rfl rfl (by decide) (hts _ a82) (fun _ h9 => h9) dX3_hours_32 ?_
          refine gw_top (y := (nI 1)) (by simp [esg26, gw_u, upd]) ?_
          refine lv_if_ne (tgt := 52) hx hb dX3_hours_35 (by decide) (fun hc27 => ?_) (fun hc27 => ?_)
          · exact hret _ _ _ _ _ hP hS dX3_hours_52 (⟨rfl, (show _ = (nI 1) from by simp [esg26, gw_u, upd]).trans (show (nI 1) = kHours x1 x2 by simp [kHours, kif, hi1, hi2])⟩)
          · exact absurd hc27 (by decide)
        · exact absurd hc25 (by decide)
  · refine W.eq (g2 := F0 m 9 ls [.int (nI 0), .ref (ad 0)]) rfl ?_
    refine lv_if_eq (tgt := 27) hx hb dX3_hours_9 (by decide) (fun hc28 => ?_) (fun hc28 => ?_)
    · refine lv_iconst (v := (nI 1)) hx hb dX3_hours_27 (by decide) ?_
      refine gw_put (C := RX3) (T := TX3) (N := 27) (ty := .int) hx hb hts inwX3 tyX3 tyX3_ok nmX3 hown hK hP hD hS 0 0 rfl rfl rfl (by decide) (hts _ a82) (fun _ h9 => h9) rfl (by decide +kernel) rfl rfl dX3_hours_28 (fun H locs hP hD hS => ?_)
      obtain ⟨sg29, esg29⟩ : ∃ z : Nat → Nat → Int32, z = gw_u sg0 0 (upd (sg0 0) 0 (nI 1)) := ⟨_, rfl⟩
      rw [← esg29] at hP hD
      refine lv_aload_n hx hb dX3_hours_31 rfl (lv_at hl 0 rfl) ?_
      refine gw_geti (C := RX3) (T := TX3) (N := 27) hx hb hts inwX3 hown hK hP 0 0 rfl rfl rfl (by decide) (hts _ a82) (fun _ h9 => h9) dX3_hours_32 ?_
      refine gw_top (y := (nI 1)) (by simp [esg29, gw_u, upd]) ?_
      refine lv_if_ne (tgt := 52) hx hb dX3_hours_35 (by decide) (fun hc30 => ?_) (fun hc30 => ?_)
      · exact hret _ _ _ _ _ hP hS dX3_hours_52 (⟨rfl, (show _ = (nI 1) from by simp [esg29, gw_u, upd]).trans (show (nI 1) = kHours x1 x2 by simp [kHours, kif, hi1])⟩)
      · exact absurd hc30 (by decide)
    · exact absurd hc28 (by decide)
abbrev rmX3_search : Room := { frames := 1, cells := 0, slots := 0, locals := 22 }
set_option maxRecDepth 100000 in
set_option maxHeartbeats 4000000 in
theorem m_X3_search (l : Launch) (hl9 : l.stackTraces = false) (D : va_G) (cI : ClassId) (cJ : ClassId × ClassId) (ad : Nat → Nat) (sg0 : Nat → Nat → Int32) (sz : Nat) (x1 : Int32) (hF : ∀ k j : Nat, k < 13 → sg0 k j = fm k j) : gc_M l yX3_search wsX3_search rmX3_search D vwCl (tyS cI cJ) cI cJ gxT gxN SM [.ref (ad 0), .int x1] ad sg0 sz 0 0 (fun v sg2 => v = some (.int (nI 0)) ∧ sg2 0 0 = kSearch x1) := by
  refine gc_Mi_of (cc := cX3_search) (maxL := 2) (by decide) rfl (Nat.le_of_ble_eq_true rfl) ?_
  intro p e s m below meth c A ls Q hin hE hret
  obtain ⟨⟨hx, hb, hml, hown, hts⟩, -, hlocks, -, hA, hP, hK, hD, hS, hl⟩ := hin
  have hts : ∀ w ∈ wsAll, w.before ([.ref (ad 0), .int x1] : List Value).toArray s = true := fun w h => hts w (List.mem_cons_of_mem _ h)
  have hl : lv_has ls 2 [(0, .ref (ad 0)), (1, .int x1)] := hl
  refine lv_aload_n hx hb dX3_search_0 rfl (lv_at hl 0 rfl) ?_
  refine lv_iload_n hx hb dX3_search_1 rfl (lv_at hl 1 rfl) ?_
  refine lv_iconst (v := (nI 0)) hx hb dX3_search_2 (by decide) ?_
  refine lv_iconst (v := (nI 3)) hx hb dX3_search_3 (by decide) ?_
  refine gc_go (pl := []) (S2 := SE) (ad := ad) (sg := sg0) (va_runS (As := [.int x1, .int (nI 0), .int (nI 3)]) (rest := [.ref (ad 0)]) ⟨hx, hb, hml, hown, hts⟩ (m_X3_isIn l hl9 D cI cJ (fun j => ad (gw_p [] j)) (fun j => sg0 (gw_p [] j)) _ x1 (nI 0) (nI 3) ) (cwS 3 hts (gwS a85 a86 a87 a88) rfl rfl rfl (by decide +kernel) ⟨by decide, by decide⟩) (gc_preS hK hP hD hS hA hE rfl) rfl rfl hl.1 rfl (lv_room (Nat.le_of_ble_eq_true rfl)) dX3_search_4 ⟨by decide, by decide⟩) hP hD hS hA rfl (fun v1 sp2 sg3 H locs hp4 ha5 hb6 hP hD hS => ?_)
  rw [show sg3 = sg0 from funext (fun k => hb6 k (by simp))] at hP hD
  rcases hp4 with ⟨rfl, hi1⟩ | ⟨rfl, hi1⟩
  · refine W.eq (g2 := F0 m 7 ls [.int (nI 1), .ref (ad 0)]) rfl ?_
    refine lv_if_ne (tgt := 14) hx hb dX3_search_7 (by decide) (fun hc7 => ?_) (fun hc7 => ?_)
    · refine lv_aload_n hx hb dX3_search_14 rfl (lv_at hl 0 rfl) ?_
      refine gw_geti (C := RX3) (T := TX3) (N := 27) hx hb hts inwX3 hown hK hP 0 15 rfl rfl rfl (by decide) (hts _ a83) (fun _ h9 => h9) dX3_search_15 ?_
      refine gw_top (y := (nI 0)) (by simp [gw_u, upd, hF 0 15 (by decide), fm]) ?_
      refine lv_if_ne (tgt := 25) hx hb dX3_search_18 (by decide) (fun hc8 => ?_) (fun hc8 => ?_)
      · exact absurd hc8 (by decide)
      · refine lv_iconst (v := (nI 2)) hx hb dX3_search_21 (by decide) ?_
        refine lv_goto (tgt := 26) hx hb dX3_search_22 (by decide) ?_
        refine gw_put (C := RX3) (T := TX3) (N := 27) (ty := .int) hx hb hts inwX3 tyX3 tyX3_ok nmX3 hown hK hP hD hS 0 0 rfl rfl rfl (by decide) (hts _ a82) (fun _ h9 => h9) rfl (by decide +kernel) rfl rfl dX3_search_26 (fun H locs hP hD hS => ?_)
        obtain ⟨sg9, esg9⟩ : ∃ z : Nat → Nat → Int32, z = gw_u sg0 0 (upd (sg0 0) 0 (nI 2)) := ⟨_, rfl⟩
        rw [← esg9] at hP hD
        refine lv_aload_n hx hb dX3_search_29 rfl (lv_at hl 0 rfl) ?_
        refine gw_geti (C := RX3) (T := TX3) (N := 27) hx hb hts inwX3 hown hK hP 0 0 rfl rfl rfl (by decide) (hts _ a82) (fun _ h9 => h9) dX3_search_30 ?_
        refine gw_top (y := (nI 2)) (by simp [esg9, gw_u, upd]) ?_
        refine lv_if_le (tgt := 38) hx hb dX3_search_33 (by decide) (fun hc10 => ?_) (fun hc10 => ?_)
        · exact absurd hc10 (by decide)
        · refine lv_iconst (v := (nI 0)) hx hb dX3_search_36 (by decide) ?_
          exact hret _ _ _ _ _ _ hP hS dX3_search_37 (⟨rfl, (show _ = (nI 2) from by simp [esg9, gw_u, upd]).trans (show (nI 2) = kSearch x1 by simp [kSearch, kif, hi1])⟩)
    · exact absurd hc7 (by decide)
  · refine W.eq (g2 := F0 m 7 ls [.int (nI 0), .ref (ad 0)]) rfl ?_
    refine lv_if_ne (tgt := 14) hx hb dX3_search_7 (by decide) (fun hc11 => ?_) (fun hc11 => ?_)
    · exact absurd hc11 (by decide)
    · refine lv_iconst (v := (nI 1)) hx hb dX3_search_10 (by decide) ?_
      refine lv_goto (tgt := 26) hx hb dX3_search_11 (by decide) ?_
      refine gw_put (C := RX3) (T := TX3) (N := 27) (ty := .int) hx hb hts inwX3 tyX3 tyX3_ok nmX3 hown hK hP hD hS 0 0 rfl rfl rfl (by decide) (hts _ a82) (fun _ h9 => h9) rfl (by decide +kernel) rfl rfl dX3_search_26 (fun H locs hP hD hS => ?_)
      obtain ⟨sg12, esg12⟩ : ∃ z : Nat → Nat → Int32, z = gw_u sg0 0 (upd (sg0 0) 0 (nI 1)) := ⟨_, rfl⟩
      rw [← esg12] at hP hD
      refine lv_aload_n hx hb dX3_search_29 rfl (lv_at hl 0 rfl) ?_
      refine gw_geti (C := RX3) (T := TX3) (N := 27) hx hb hts inwX3 hown hK hP 0 0 rfl rfl rfl (by decide) (hts _ a82) (fun _ h9 => h9) dX3_search_30 ?_
      refine gw_top (y := (nI 1)) (by simp [esg12, gw_u, upd]) ?_
      refine lv_if_le (tgt := 38) hx hb dX3_search_33 (by decide) (fun hc13 => ?_) (fun hc13 => ?_)
      · exact absurd hc13 (by decide)
      · refine lv_iconst (v := (nI 0)) hx hb dX3_search_36 (by decide) ?_
        exact hret _ _ _ _ _ _ hP hS dX3_search_37 (⟨rfl, (show _ = (nI 1) from by simp [esg12, gw_u, upd]).trans (show (nI 1) = kSearch x1 by simp [kSearch, kif, hi1])⟩)
abbrev rmX3_used : Room := { frames := 1, cells := 0, slots := 0, locals := 21 }
set_option maxRecDepth 100000 in
set_option maxHeartbeats 4000000 in
theorem m_X3_used (l : Launch) (hl9 : l.stackTraces = false) (D : va_G) (cI : ClassId) (cJ : ClassId × ClassId) (ad : Nat → Nat) (sg0 : Nat → Nat → Int32) (sz : Nat) (x1 : Int32) (hF : ∀ k j : Nat, k < 13 → sg0 k j = fm k j) : gc_M l yX3_used wsX3_used rmX3_used D vwCl (tyS cI cJ) cI cJ gxT gxN SM [.ref (ad 0), .int x1] ad sg0 sz 0 0 (fun v sg2 => v = some (.int (nI 0)) ∧ sg2 0 0 = nI 1) := by
  refine gc_Mi_of (cc := cX3_used) (maxL := 2) (by decide) rfl (Nat.le_of_ble_eq_true rfl) ?_
  intro p e s m below meth c A ls Q hin hE hret
  obtain ⟨⟨hx, hb, hml, hown, hts⟩, -, hlocks, -, hA, hP, hK, hD, hS, hl⟩ := hin
  have hts : ∀ w ∈ wsAll, w.before ([.ref (ad 0), .int x1] : List Value).toArray s = true := fun w h => hts w (List.mem_cons_of_mem _ h)
  have hl : lv_has ls 2 [(0, .ref (ad 0)), (1, .int x1)] := hl
  refine lv_aload_n hx hb dX3_used_0 rfl (lv_at hl 0 rfl) ?_
  refine lv_aload_n hx hb dX3_used_1 rfl (lv_at hl 0 rfl) ?_
  refine lv_iload_n hx hb dX3_used_2 rfl (lv_at hl 1 rfl) ?_
  refine gc_go0 (va_runV (As := [.int x1]) (rest := [.ref (ad 0)]) ⟨hx, hb, hml, hown, hts⟩ (m_X3_isPattern l hl9 D cI cJ ad sg0 _ x1 hF) (cwV 1 hts (gwV a99 a100 a101 a87 a102) rfl rfl rfl (by decide +kernel) ⟨by decide, by decide⟩) (gc_preV0 hK hP hD hS hA hE rfl rfl rfl) rfl rfl hl.1 rfl (lv_room (Nat.le_of_ble_eq_true rfl)) dX3_used_3 ⟨by decide, by decide⟩) hD hS hA (fun v1 sg3 H locs hp4 hP hD hS => ?_)
  obtain ⟨rfl, hs9⟩ := hp4
  rw [hs9] at hP hD
  refine W.eq (g2 := F0 m 6 ls [.int (nI 0), .ref (ad 0)]) rfl ?_
  refine lv_if_ne (tgt := 13) hx hb dX3_used_6 (by decide) (fun hc7 => ?_) (fun hc7 => ?_)
  · exact absurd hc7 (by decide)
  · refine lv_iconst (v := (nI 1)) hx hb dX3_used_9 (by decide) ?_
    refine lv_goto (tgt := 25) hx hb dX3_used_10 (by decide) ?_
    refine gw_put (C := RX3) (T := TX3) (N := 27) (ty := .int) hx hb hts inwX3 tyX3 tyX3_ok nmX3 hown hK hP hD hS 0 0 rfl rfl rfl (by decide) (hts _ a82) (fun _ h9 => h9) rfl (by decide +kernel) rfl rfl dX3_used_25 (fun H locs hP hD hS => ?_)
    obtain ⟨sg8, esg8⟩ : ∃ z : Nat → Nat → Int32, z = gw_u sg0 0 (upd (sg0 0) 0 (nI 1)) := ⟨_, rfl⟩
    rw [← esg8] at hP hD
    refine lv_aload_n hx hb dX3_used_28 rfl (lv_at hl 0 rfl) ?_
    refine gw_geti (C := RX3) (T := TX3) (N := 27) hx hb hts inwX3 hown hK hP 0 0 rfl rfl rfl (by decide) (hts _ a82) (fun _ h9 => h9) dX3_used_29 ?_
    refine gw_top (y := (nI 1)) (by simp [esg8, gw_u, upd]) ?_
    refine lv_if_le (tgt := 39) hx hb dX3_used_32 (by decide) (fun hc9 => ?_) (fun hc9 => ?_)
    · exact absurd hc9 (by decide)
    · refine lv_iconst (v := (nI 0)) hx hb dX3_used_35 (by decide) ?_
      refine lv_goto (tgt := 45) hx hb dX3_used_36 (by decide) ?_
      exact hret _ _ _ _ _ _ hP hS dX3_used_45 (⟨rfl, by simp [esg8, gw_u, upd]⟩)
abbrev rmX3_best : Room := { frames := 1, cells := 0, slots := 0, locals := 22 }
set_option maxRecDepth 100000 in
set_option maxHeartbeats 4000000 in
theorem m_X3_best (l : Launch) (hl9 : l.stackTraces = false) (D : va_G) (cI : ClassId) (cJ : ClassId × ClassId) (ad : Nat → Nat) (sg0 : Nat → Nat → Int32) (sz : Nat) (x1 : Int32) (hF : ∀ k j : Nat, k < 13 → sg0 k j = fm k j) : gc_M l yX3_best wsX3_best rmX3_best D vwCl (tyS cI cJ) cI cJ gxT gxN SM [.ref (ad 0), .int x1] ad sg0 sz 0 0 (fun v sg2 => v = some (.int (nI 0)) ∧ sg2 0 0 = kBest x1) := by
  refine gc_Mi_of (cc := cX3_best) (maxL := 4) (by decide) rfl (Nat.le_of_ble_eq_true rfl) ?_
  intro p e s m below meth c A ls Q hin hE hret
  obtain ⟨⟨hx, hb, hml, hown, hts⟩, -, hlocks, -, hA, hP, hK, hD, hS, hl⟩ := hin
  have hts : ∀ w ∈ wsAll, w.before ([.ref (ad 0), .int x1] : List Value).toArray s = true := fun w h => hts w (List.mem_cons_of_mem _ h)
  have hl : lv_has ls 4 [(0, .ref (ad 0)), (1, .int x1)] := hl
  refine lv_aload_n hx hb dX3_best_0 rfl (lv_at hl 0 rfl) ?_
  refine lv_iload_n hx hb dX3_best_1 rfl (lv_at hl 1 rfl) ?_
  refine lv_iconst (v := (nI 0)) hx hb dX3_best_2 (by decide) ?_
  refine lv_iconst (v := (nI 2)) hx hb dX3_best_3 (by decide) ?_
  refine gc_go (pl := []) (S2 := SE) (ad := ad) (sg := sg0) (va_runS (As := [.int x1, .int (nI 0), .int (nI 2)]) (rest := [.ref (ad 0)]) ⟨hx, hb, hml, hown, hts⟩ (m_X3_isIn l hl9 D cI cJ (fun j => ad (gw_p [] j)) (fun j => sg0 (gw_p [] j)) _ x1 (nI 0) (nI 2) ) (cwS 3 hts (gwS a85 a86 a87 a88) rfl rfl rfl (by decide +kernel) ⟨by decide, by decide⟩) (gc_preS hK hP hD hS hA hE rfl) rfl rfl hl.1 rfl (lv_room (Nat.le_of_ble_eq_true rfl)) dX3_best_4 ⟨by decide, by decide⟩) hP hD hS hA rfl (fun v1 sp2 sg3 H locs hp4 ha5 hb6 hP hD hS => ?_)
  rw [show sg3 = sg0 from funext (fun k => hb6 k (by simp))] at hP hD
  rcases hp4 with ⟨rfl, hi1⟩ | ⟨rfl, hi1⟩
  · refine W.eq (g2 := F0 m 7 ls [.int (nI 1), .ref (ad 0)]) rfl ?_
    refine lv_if_ne (tgt := 14) hx hb dX3_best_7 (by decide) (fun hc7 => ?_) (fun hc7 => ?_)
    · refine lv_aload_n hx hb dX3_best_14 rfl (lv_at hl 0 rfl) ?_
      refine gw_geti (C := RX3) (T := TX3) (N := 27) hx hb hts inwX3 hown hK hP 0 16 rfl rfl rfl (by decide) (hts _ a84) (fun _ h9 => h9) dX3_best_15 ?_
      refine gw_top (y := (nI 0)) (by simp [gw_u, upd, hF 0 16 (by decide), fm]) ?_
      refine lv_if_ne (tgt := 25) hx hb dX3_best_18 (by decide) (fun hc8 => ?_) (fun hc8 => ?_)
      · exact absurd hc8 (by decide)
      · refine lv_iconst (v := (nI 2)) hx hb dX3_best_21 (by decide) ?_
        refine lv_goto (tgt := 26) hx hb dX3_best_22 (by decide) ?_
        refine gw_put (C := RX3) (T := TX3) (N := 27) (ty := .int) hx hb hts inwX3 tyX3 tyX3_ok nmX3 hown hK hP hD hS 0 0 rfl rfl rfl (by decide) (hts _ a82) (fun _ h9 => h9) rfl (by decide +kernel) rfl rfl dX3_best_26 (fun H locs hP hD hS => ?_)
        obtain ⟨sg9, esg9⟩ : ∃ z : Nat → Nat → Int32, z = gw_u sg0 0 (upd (sg0 0) 0 (nI 2)) := ⟨_, rfl⟩
        rw [← esg9] at hP hD
        refine lv_aload_n hx hb dX3_best_29 rfl (lv_at hl 0 rfl) ?_
        refine gw_geti (C := RX3) (T := TX3) (N := 27) hx hb hts inwX3 hown hK hP 0 0 rfl rfl rfl (by decide) (hts _ a82) (fun _ h9 => h9) dX3_best_30 ?_
        refine gw_top (y := (nI 2)) (by simp [esg9, gw_u, upd]) ?_
        refine lv_if_le (tgt := 38) hx hb dX3_best_33 (by decide) (fun hc10 => ?_) (fun hc10 => ?_)
        · exact absurd hc10 (by decide)
        · refine lv_iconst (v := (nI 0)) hx hb dX3_best_36 (by decide) ?_
          exact hret _ _ _ _ _ _ hP hS dX3_best_37 (⟨rfl, (show _ = (nI 2) from by simp [esg9, gw_u, upd]).trans (show (nI 2) = kBest x1 by simp [kBest, kif, hi1])⟩)
    · exact absurd hc7 (by decide)
  · refine W.eq (g2 := F0 m 7 ls [.int (nI 0), .ref (ad 0)]) rfl ?_
    refine lv_if_ne (tgt := 14) hx hb dX3_best_7 (by decide) (fun hc11 => ?_) (fun hc11 => ?_)
    · exact absurd hc11 (by decide)
    · refine lv_iconst (v := (nI 1)) hx hb dX3_best_10 (by decide) ?_
      refine lv_goto (tgt := 26) hx hb dX3_best_11 (by decide) ?_
      refine gw_put (C := RX3) (T := TX3) (N := 27) (ty := .int) hx hb hts inwX3 tyX3 tyX3_ok nmX3 hown hK hP hD hS 0 0 rfl rfl rfl (by decide) (hts _ a82) (fun _ h9 => h9) rfl (by decide +kernel) rfl rfl dX3_best_26 (fun H locs hP hD hS => ?_)
      obtain ⟨sg12, esg12⟩ : ∃ z : Nat → Nat → Int32, z = gw_u sg0 0 (upd (sg0 0) 0 (nI 1)) := ⟨_, rfl⟩
      rw [← esg12] at hP hD
      refine lv_aload_n hx hb dX3_best_29 rfl (lv_at hl 0 rfl) ?_
      refine gw_geti (C := RX3) (T := TX3) (N := 27) hx hb hts inwX3 hown hK hP 0 0 rfl rfl rfl (by decide) (hts _ a82) (fun _ h9 => h9) dX3_best_30 ?_
      refine gw_top (y := (nI 1)) (by simp [esg12, gw_u, upd]) ?_
      refine lv_if_le (tgt := 38) hx hb dX3_best_33 (by decide) (fun hc13 => ?_) (fun hc13 => ?_)
      · exact absurd hc13 (by decide)
      · refine lv_iconst (v := (nI 0)) hx hb dX3_best_36 (by decide) ?_
        exact hret _ _ _ _ _ _ hP hS dX3_best_37 (⟨rfl, (show _ = (nI 1) from by simp [esg12, gw_u, upd]).trans (show (nI 1) = kBest x1 by simp [kBest, kif, hi1])⟩)
abbrev rmX3_made : Room := { frames := 1, cells := 0, slots := 0, locals := 22 }
set_option maxRecDepth 100000 in
set_option maxHeartbeats 4000000 in
theorem m_X3_made (l : Launch) (hl9 : l.stackTraces = false) (D : va_G) (cI : ClassId) (cJ : ClassId × ClassId) (ad : Nat → Nat) (sg0 : Nat → Nat → Int32) (sz : Nat) (x1 : Int32) (hF : ∀ k j : Nat, k < 13 → sg0 k j = fm k j) : gc_M l yX3_made wsX3_made rmX3_made D vwCl (tyS cI cJ) cI cJ gxT gxN SM [.ref (ad 0), .int x1] ad sg0 sz 0 0 (fun v sg2 => v = some (.int (nI 0)) ∧ sg2 0 0 = kMade x1) := by
  refine gc_Mi_of (cc := cX3_made) (maxL := 2) (by decide) rfl (Nat.le_of_ble_eq_true rfl) ?_
  intro p e s m below meth c A ls Q hin hE hret
  obtain ⟨⟨hx, hb, hml, hown, hts⟩, -, hlocks, -, hA, hP, hK, hD, hS, hl⟩ := hin
  have hts : ∀ w ∈ wsAll, w.before ([.ref (ad 0), .int x1] : List Value).toArray s = true := fun w h => hts w (List.mem_cons_of_mem _ h)
  have hl : lv_has ls 2 [(0, .ref (ad 0)), (1, .int x1)] := hl
  refine lv_aload_n hx hb dX3_made_0 rfl (lv_at hl 0 rfl) ?_
  refine lv_iload_n hx hb dX3_made_1 rfl (lv_at hl 1 rfl) ?_
  refine lv_iconst (v := (nI 0)) hx hb dX3_made_2 (by decide) ?_
  refine lv_iconst (v := (nI 3)) hx hb dX3_made_3 (by decide) ?_
  refine gc_go (pl := []) (S2 := SE) (ad := ad) (sg := sg0) (va_runS (As := [.int x1, .int (nI 0), .int (nI 3)]) (rest := [.ref (ad 0)]) ⟨hx, hb, hml, hown, hts⟩ (m_X3_isIn l hl9 D cI cJ (fun j => ad (gw_p [] j)) (fun j => sg0 (gw_p [] j)) _ x1 (nI 0) (nI 3) ) (cwS 3 hts (gwS a85 a86 a87 a88) rfl rfl rfl (by decide +kernel) ⟨by decide, by decide⟩) (gc_preS hK hP hD hS hA hE rfl) rfl rfl hl.1 rfl (lv_room (Nat.le_of_ble_eq_true rfl)) dX3_made_4 ⟨by decide, by decide⟩) hP hD hS hA rfl (fun v1 sp2 sg3 H locs hp4 ha5 hb6 hP hD hS => ?_)
  rw [show sg3 = sg0 from funext (fun k => hb6 k (by simp))] at hP hD
  rcases hp4 with ⟨rfl, hi1⟩ | ⟨rfl, hi1⟩
  · refine W.eq (g2 := F0 m 7 ls [.int (nI 1), .ref (ad 0)]) rfl ?_
    refine lv_if_ne (tgt := 14) hx hb dX3_made_7 (by decide) (fun hc7 => ?_) (fun hc7 => ?_)
    · refine lv_aload_n hx hb dX3_made_14 rfl (lv_at hl 0 rfl) ?_
      refine gw_geti (C := RX3) (T := TX3) (N := 27) hx hb hts inwX3 hown hK hP 0 16 rfl rfl rfl (by decide) (hts _ a84) (fun _ h9 => h9) dX3_made_15 ?_
      refine gw_top (y := (nI 0)) (by simp [gw_u, upd, hF 0 16 (by decide), fm]) ?_
      refine lv_if_ne (tgt := 25) hx hb dX3_made_18 (by decide) (fun hc8 => ?_) (fun hc8 => ?_)
      · exact absurd hc8 (by decide)
      · refine lv_iconst (v := (nI 2)) hx hb dX3_made_21 (by decide) ?_
        refine lv_goto (tgt := 26) hx hb dX3_made_22 (by decide) ?_
        refine gw_put (C := RX3) (T := TX3) (N := 27) (ty := .int) hx hb hts inwX3 tyX3 tyX3_ok nmX3 hown hK hP hD hS 0 0 rfl rfl rfl (by decide) (hts _ a82) (fun _ h9 => h9) rfl (by decide +kernel) rfl rfl dX3_made_26 (fun H locs hP hD hS => ?_)
        obtain ⟨sg9, esg9⟩ : ∃ z : Nat → Nat → Int32, z = gw_u sg0 0 (upd (sg0 0) 0 (nI 2)) := ⟨_, rfl⟩
        rw [← esg9] at hP hD
        refine lv_aload_n hx hb dX3_made_29 rfl (lv_at hl 0 rfl) ?_
        refine gw_geti (C := RX3) (T := TX3) (N := 27) hx hb hts inwX3 hown hK hP 0 0 rfl rfl rfl (by decide) (hts _ a82) (fun _ h9 => h9) dX3_made_30 ?_
        refine gw_top (y := (nI 2)) (by simp [esg9, gw_u, upd]) ?_
        refine lv_if_le (tgt := 40) hx hb dX3_made_33 (by decide) (fun hc10 => ?_) (fun hc10 => ?_)
        · exact absurd hc10 (by decide)
        · refine lv_iconst (v := (nI 0)) hx hb dX3_made_36 (by decide) ?_
          refine lv_goto (tgt := 49) hx hb dX3_made_37 (by decide) ?_
          exact hret _ _ _ _ _ _ hP hS dX3_made_49 (⟨rfl, (show _ = (nI 2) from by simp [esg9, gw_u, upd]).trans (show (nI 2) = kMade x1 by simp [kMade, kif, hi1])⟩)
    · exact absurd hc7 (by decide)
  · refine W.eq (g2 := F0 m 7 ls [.int (nI 0), .ref (ad 0)]) rfl ?_
    refine lv_if_ne (tgt := 14) hx hb dX3_made_7 (by decide) (fun hc11 => ?_) (fun hc11 => ?_)
    · exact absurd hc11 (by decide)
    · refine lv_iconst (v := (nI 1)) hx hb dX3_made_10 (by decide) ?_
      refine lv_goto (tgt := 26) hx hb dX3_made_11 (by decide) ?_
      refine gw_put (C := RX3) (T := TX3) (N := 27) (ty := .int) hx hb hts inwX3 tyX3 tyX3_ok nmX3 hown hK hP hD hS 0 0 rfl rfl rfl (by decide) (hts _ a82) (fun _ h9 => h9) rfl (by decide +kernel) rfl rfl dX3_made_26 (fun H locs hP hD hS => ?_)
      obtain ⟨sg12, esg12⟩ : ∃ z : Nat → Nat → Int32, z = gw_u sg0 0 (upd (sg0 0) 0 (nI 1)) := ⟨_, rfl⟩
      rw [← esg12] at hP hD
      refine lv_aload_n hx hb dX3_made_29 rfl (lv_at hl 0 rfl) ?_
      refine gw_geti (C := RX3) (T := TX3) (N := 27) hx hb hts inwX3 hown hK hP 0 0 rfl rfl rfl (by decide) (hts _ a82) (fun _ h9 => h9) dX3_made_30 ?_
      refine gw_top (y := (nI 1)) (by simp [esg12, gw_u, upd]) ?_
      refine lv_if_le (tgt := 40) hx hb dX3_made_33 (by decide) (fun hc13 => ?_) (fun hc13 => ?_)
      · exact absurd hc13 (by decide)
      · refine lv_iconst (v := (nI 0)) hx hb dX3_made_36 (by decide) ?_
        refine lv_goto (tgt := 49) hx hb dX3_made_37 (by decide) ?_
        exact hret _ _ _ _ _ _ hP hS dX3_made_49 (⟨rfl, (show _ = (nI 1) from by simp [esg12, gw_u, upd]).trans (show (nI 1) = kMade x1 by simp [kMade, kif, hi1])⟩)
abbrev rmX3_saw : Room := { frames := 0, cells := 0, slots := 0, locals := 0 }
set_option maxRecDepth 100000 in
set_option maxHeartbeats 4000000 in
theorem m_X3_saw (l : Launch) (hl9 : l.stackTraces = false) (D : va_G) (cI : ClassId) (cJ : ClassId × ClassId) (ad : Nat → Nat) (sg0 : Nat → Nat → Int32) (sz : Nat) (hF : ∀ k j : Nat, k < 13 → sg0 k j = fm k j) : gc_M l yX3_saw wsX3_saw rmX3_saw D vwCl (tyS cI cJ) cI cJ gxT gxN SM [.ref (ad 0)] ad sg0 sz 0 0 (fun v sg2 => v = some (.int (nI 0)) ∧ sg2 0 0 = nI 1) := by
  refine gc_Mi_of (cc := cX3_saw) (maxL := 3) (by decide) rfl (Nat.le_of_ble_eq_true rfl) ?_
  intro p e s m below meth c A ls Q hin hE hret
  obtain ⟨⟨hx, hb, hml, hown, hts⟩, -, hlocks, -, hA, hP, hK, hD, hS, hl⟩ := hin
  have hts : ∀ w ∈ wsAll, w.before ([.ref (ad 0)] : List Value).toArray s = true := fun w h => hts w (List.mem_cons_of_mem _ h)
  have hl : lv_has ls 3 [(0, .ref (ad 0))] := hl
  refine lv_aload_n hx hb dX3_saw_0 rfl (lv_at hl 0 rfl) ?_
  refine lv_aload_n hx hb dX3_saw_1 rfl (lv_at hl 0 rfl) ?_
  refine gw_geti (C := RX3) (T := TX3) (N := 27) hx hb hts inwX3 hown hK hP 0 16 rfl rfl rfl (by decide) (hts _ a84) (fun _ h9 => h9) dX3_saw_2 ?_
  refine gw_top (y := (nI 0)) (by simp [gw_u, upd, hF 0 16 (by decide), fm]) ?_
  refine lv_if_eq (tgt := 12) hx hb dX3_saw_5 (by decide) (fun hc1 => ?_) (fun hc1 => ?_)
  · refine lv_iconst (v := (nI 1)) hx hb dX3_saw_12 (by decide) ?_
    refine gw_put (C := RX3) (T := TX3) (N := 27) (ty := .int) hx hb hts inwX3 tyX3 tyX3_ok nmX3 hown hK hP hD hS 0 0 rfl rfl rfl (by decide) (hts _ a82) (fun _ h9 => h9) rfl (by decide +kernel) rfl rfl dX3_saw_13 (fun H locs hP hD hS => ?_)
    obtain ⟨sg2, esg2⟩ : ∃ z : Nat → Nat → Int32, z = gw_u sg0 0 (upd (sg0 0) 0 (nI 1)) := ⟨_, rfl⟩
    rw [← esg2] at hP hD
    refine lv_aload_n hx hb dX3_saw_16 rfl (lv_at hl 0 rfl) ?_
    refine gw_geti (C := RX3) (T := TX3) (N := 27) hx hb hts inwX3 hown hK hP 0 0 rfl rfl rfl (by decide) (hts _ a82) (fun _ h9 => h9) dX3_saw_17 ?_
    refine gw_top (y := (nI 1)) (by simp [esg2, gw_u, upd]) ?_
    refine lv_if_le (tgt := 25) hx hb dX3_saw_20 (by decide) (fun hc3 => ?_) (fun hc3 => ?_)
    · exact absurd hc3 (by decide)
    · refine lv_iconst (v := (nI 0)) hx hb dX3_saw_23 (by decide) ?_
      exact hret _ _ _ _ _ _ hP hS dX3_saw_24 (⟨rfl, by simp [esg2, gw_u, upd]⟩)
  · exact absurd hc1 (by decide)
abbrev rmX3_mill : Room := { frames := 1, cells := 0, slots := 0, locals := 22 }
set_option maxRecDepth 100000 in
set_option maxHeartbeats 4000000 in
theorem m_X3_mill (l : Launch) (hl9 : l.stackTraces = false) (D : va_G) (cI : ClassId) (cJ : ClassId × ClassId) (ad : Nat → Nat) (sg0 : Nat → Nat → Int32) (sz : Nat) (x1 : Int32) (hF : ∀ k j : Nat, k < 13 → sg0 k j = fm k j) : gc_M l yX3_mill wsX3_mill rmX3_mill D vwCl (tyS cI cJ) cI cJ gxT gxN SM [.ref (ad 0), .int x1] ad sg0 sz 0 0 (fun v sg2 => v = some (.int (nI 0)) ∧ sg2 0 0 = kMill x1) := by
  refine gc_Mi_of (cc := cX3_mill) (maxL := 2) (by decide) rfl (Nat.le_of_ble_eq_true rfl) ?_
  intro p e s m below meth c A ls Q hin hE hret
  obtain ⟨⟨hx, hb, hml, hown, hts⟩, -, hlocks, -, hA, hP, hK, hD, hS, hl⟩ := hin
  have hts : ∀ w ∈ wsAll, w.before ([.ref (ad 0), .int x1] : List Value).toArray s = true := fun w h => hts w (List.mem_cons_of_mem _ h)
  have hl : lv_has ls 2 [(0, .ref (ad 0)), (1, .int x1)] := hl
  refine lv_aload_n hx hb dX3_mill_0 rfl (lv_at hl 0 rfl) ?_
  refine lv_iload_n hx hb dX3_mill_1 rfl (lv_at hl 1 rfl) ?_
  refine lv_iconst (v := (nI 0)) hx hb dX3_mill_2 (by decide) ?_
  refine lv_iconst (v := (nI 5)) hx hb dX3_mill_3 (by decide) ?_
  refine gc_go (pl := []) (S2 := SE) (ad := ad) (sg := sg0) (va_runS (As := [.int x1, .int (nI 0), .int (nI 5)]) (rest := [.ref (ad 0)]) ⟨hx, hb, hml, hown, hts⟩ (m_X3_isIn l hl9 D cI cJ (fun j => ad (gw_p [] j)) (fun j => sg0 (gw_p [] j)) _ x1 (nI 0) (nI 5) ) (cwS 3 hts (gwS a85 a86 a87 a88) rfl rfl rfl (by decide +kernel) ⟨by decide, by decide⟩) (gc_preS hK hP hD hS hA hE rfl) rfl rfl hl.1 rfl (lv_room (Nat.le_of_ble_eq_true rfl)) dX3_mill_4 ⟨by decide, by decide⟩) hP hD hS hA rfl (fun v1 sp2 sg3 H locs hp4 ha5 hb6 hP hD hS => ?_)
  rw [show sg3 = sg0 from funext (fun k => hb6 k (by simp))] at hP hD
  rcases hp4 with ⟨rfl, hi1⟩ | ⟨rfl, hi1⟩
  · refine W.eq (g2 := F0 m 7 ls [.int (nI 1), .ref (ad 0)]) rfl ?_
    refine lv_if_eq (tgt := 14) hx hb dX3_mill_7 (by decide) (fun hc7 => ?_) (fun hc7 => ?_)
    · exact absurd hc7 (by decide)
    · refine lv_iconst (v := (nI 0)) hx hb dX3_mill_10 (by decide) ?_
      refine lv_goto (tgt := 15) hx hb dX3_mill_11 (by decide) ?_
      refine gw_put (C := RX3) (T := TX3) (N := 27) (ty := .int) hx hb hts inwX3 tyX3 tyX3_ok nmX3 hown hK hP hD hS 0 0 rfl rfl rfl (by decide) (hts _ a82) (fun _ h9 => h9) rfl (by decide +kernel) rfl rfl dX3_mill_15 (fun H locs hP hD hS => ?_)
      obtain ⟨sg8, esg8⟩ : ∃ z : Nat → Nat → Int32, z = gw_u sg0 0 (upd (sg0 0) 0 (nI 0)) := ⟨_, rfl⟩
      rw [← esg8] at hP hD
      refine lv_aload_n hx hb dX3_mill_18 rfl (lv_at hl 0 rfl) ?_
      refine gw_geti (C := RX3) (T := TX3) (N := 27) hx hb hts inwX3 hown hK hP 0 0 rfl rfl rfl (by decide) (hts _ a82) (fun _ h9 => h9) dX3_mill_19 ?_
      refine gw_top (y := (nI 0)) (by simp [esg8, gw_u, upd]) ?_
      refine lv_if_le (tgt := 27) hx hb dX3_mill_22 (by decide) (fun hc9 => ?_) (fun hc9 => ?_)
      · have hk9 : kMill x1 = nI 0 := by simp [kMill, kif, hi1]
        obtain ⟨j1, hj1, rfl⟩ := inof5 hi1
        refine lv_iload_n hx hb dX3_mill_27 rfl (lv_at hl 1 rfl) ?_
        refine lv_if_ne (tgt := 38) hx hb dX3_mill_28 (by decide) (fun hz1 => ?_) (fun hz1 => ?_)
        · refine lv_iload_n hx hb dX3_mill_38 rfl (lv_at hl 1 rfl) ?_
          refine lv_iconst (v := (nI 1)) hx hb dX3_mill_39 (by decide) ?_
          refine lv_icmp_ne (tgt := 50) hx hb dX3_mill_40 (by decide) (fun hz2 => ?_) (fun hz2 => ?_)
          · have hz2 : ¬ (j1 = 1) := fun q => hz2 ((nI_eq (a := j1) (b := 1) (by omega) (by omega)).mpr q)
            have hj2 : 2 ≤ j1 := by have h0 : j1 ≠ 0 := fun z => hz1 (by rw [z]; rfl); have := hz2; omega
            refine lv_aload_n hx hb dX3_mill_50 rfl (lv_at hl 0 rfl) ?_
            refine gw_getr (C := RX3) (T := TX3) (N := 27) hx hb hts inwX3 hown hK hP 0 10 9 rfl rfl rfl (by decide) (hts _ a108) (fun _ h9 => h9) dX3_mill_51 ?_
            refine lv_iload_n hx hb dX3_mill_54 rfl (lv_at hl 1 rfl) ?_
            refine lv_iconst (v := (nI 2)) hx hb dX3_mill_55 (by decide) ?_
            refine lv_isub hx hb dX3_mill_56 ?_
            refine gw_top (y := (nI (j1 - 2))) (nI_sub hj2) ?_
            refine gw_ald hx hb hK hP 9 0 (n := 4) rfl rfl (i := j1 - 2) (by omega) (by decide) dX3_mill_57 ?_
            refine gw_top (y := (nI 0)) (by simp [esg8, gw_u, upd, hF 9 (j1 - 2) (by decide), fm]) ?_
            exact hret _ _ _ _ _ _ hP hS dX3_mill_58 (⟨rfl, (show _ = (nI 0) from by simp [esg8, gw_u, upd]).trans hk9.symm⟩)
          · have hz2 : j1 = 1 := (nI_eq (a := j1) (b := 1) (by omega) (by omega)).mp hz2
            refine lv_aload_n hx hb dX3_mill_43 rfl (lv_at hl 0 rfl) ?_
            refine gw_geti (C := RX3) (T := TX3) (N := 27) hx hb hts inwX3 hown hK hP 0 14 rfl rfl rfl (by decide) (hts _ a109) (fun _ h9 => h9) dX3_mill_44 ?_
            refine gw_top (y := (nI 0)) (by simp [esg8, gw_u, upd, hF 0 14 (by decide), fm]) ?_
            refine lv_goto (tgt := 58) hx hb dX3_mill_47 (by decide) ?_
            exact hret _ _ _ _ _ _ hP hS dX3_mill_58 (⟨rfl, (show _ = (nI 0) from by simp [esg8, gw_u, upd]).trans hk9.symm⟩)
        · refine lv_aload_n hx hb dX3_mill_31 rfl (lv_at hl 0 rfl) ?_
          refine gw_geti (C := RX3) (T := TX3) (N := 27) hx hb hts inwX3 hown hK hP 0 13 rfl rfl rfl (by decide) (hts _ a110) (fun _ h9 => h9) dX3_mill_32 ?_
          refine gw_top (y := (nI 0)) (by simp [esg8, gw_u, upd, hF 0 13 (by decide), fm]) ?_
          refine lv_goto (tgt := 58) hx hb dX3_mill_35 (by decide) ?_
          exact hret _ _ _ _ _ _ hP hS dX3_mill_58 (⟨rfl, (show _ = (nI 0) from by simp [esg8, gw_u, upd]).trans hk9.symm⟩)
      · exact absurd hc9 (by decide)
  · refine W.eq (g2 := F0 m 7 ls [.int (nI 0), .ref (ad 0)]) rfl ?_
    refine lv_if_eq (tgt := 14) hx hb dX3_mill_7 (by decide) (fun hc10 => ?_) (fun hc10 => ?_)
    · refine lv_iconst (v := (nI 1)) hx hb dX3_mill_14 (by decide) ?_
      refine gw_put (C := RX3) (T := TX3) (N := 27) (ty := .int) hx hb hts inwX3 tyX3 tyX3_ok nmX3 hown hK hP hD hS 0 0 rfl rfl rfl (by decide) (hts _ a82) (fun _ h9 => h9) rfl (by decide +kernel) rfl rfl dX3_mill_15 (fun H locs hP hD hS => ?_)
      obtain ⟨sg11, esg11⟩ : ∃ z : Nat → Nat → Int32, z = gw_u sg0 0 (upd (sg0 0) 0 (nI 1)) := ⟨_, rfl⟩
      rw [← esg11] at hP hD
      refine lv_aload_n hx hb dX3_mill_18 rfl (lv_at hl 0 rfl) ?_
      refine gw_geti (C := RX3) (T := TX3) (N := 27) hx hb hts inwX3 hown hK hP 0 0 rfl rfl rfl (by decide) (hts _ a82) (fun _ h9 => h9) dX3_mill_19 ?_
      refine gw_top (y := (nI 1)) (by simp [esg11, gw_u, upd]) ?_
      refine lv_if_le (tgt := 27) hx hb dX3_mill_22 (by decide) (fun hc12 => ?_) (fun hc12 => ?_)
      · exact absurd hc12 (by decide)
      · refine lv_iconst (v := (nI 0)) hx hb dX3_mill_25 (by decide) ?_
        exact hret _ _ _ _ _ _ hP hS dX3_mill_26 (⟨rfl, (show _ = (nI 1) from by simp [esg11, gw_u, upd]).trans (show nI 1 = kMill x1 by simp [kMill, kif, hi1])⟩)
    · exact absurd hc10 (by decide)
