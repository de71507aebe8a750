abbrev rmX3_isIn : Room := { frames := 0, cells := 0, slots := 0, locals := 0 }
set_option maxRecDepth 100000 in
set_option maxHeartbeats 4000000 in
theorem m_X3_isIn (l : Launch) (hl9 : l.stackTraces = false) (D : va_G) (cI : ClassId) (cJ : ClassId × ClassId) (ad : Nat → Nat) (sg0 : Nat → Nat → Int32) (sz : Nat) (x0 : Int32) (x1 : Int32) (x2 : Int32) : gc_M l yX3_isIn wsX3_isIn rmX3_isIn D vwCl (tyS cI cJ) cI cJ gxT gxN SE [.int x0, .int x1, .int x2] ad sg0 sz 0 0 (fun v sg2 => (v = some (.int (nI 1)) ∧ inR x0 x1 x2) ∨ (v = some (.int (nI 0)) ∧ ¬ inR x0 x1 x2)) := by
  refine gc_Mz_of (cc := cX3_isIn) (maxL := 3) (by decide) rfl (Nat.le_of_ble_eq_true rfl) ?_
  intro p e s m below meth c A ls Q hin hE hret
  obtain ⟨⟨hx, hb, hml, hown, hts⟩, -, hlocks, -, hA, hP, hK, hD, hS, hl⟩ := hin
  have hts : ∀ w ∈ wsAll, w.before ([.int x0, .int x1, .int x2] : List Value).toArray s = true := fun w h => hts w (List.mem_cons_of_mem _ h)
  have hl : lv_has ls 3 [(0, .int x0), (1, .int x1), (2, .int x2)] := hl
  refine lv_iload_n hx hb dX3_isIn_0 rfl (lv_at hl 0 rfl) ?_
  refine lv_iload_n hx hb dX3_isIn_1 rfl (lv_at hl 1 rfl) ?_
  refine lv_icmp_lt (tgt := 14) hx hb dX3_isIn_2 (by decide) (fun h1 => ?_) (fun h1 => ?_)
  · refine lv_iconst (v := (nI 0)) hx hb dX3_isIn_14 (by decide) ?_
    exact hret _ _ _ _ _ _ hP hS dX3_isIn_15 rfl (Or.inr ⟨rfl, by first | exact fun q => q.1 h1 | exact fun q => q.2 h6⟩)
  · refine lv_iload_n hx hb dX3_isIn_5 rfl (lv_at hl 0 rfl) ?_
    refine lv_iload_n hx hb dX3_isIn_6 rfl (lv_at hl 2 rfl) ?_
    refine lv_icmp_gt (tgt := 14) hx hb dX3_isIn_7 (by decide) (fun h6 => ?_) (fun h6 => ?_)
    · refine lv_iconst (v := (nI 0)) hx hb dX3_isIn_14 (by decide) ?_
      exact hret _ _ _ _ _ _ hP hS dX3_isIn_15 rfl (Or.inr ⟨rfl, by first | exact fun q => q.1 h1 | exact fun q => q.2 h6⟩)
    · refine lv_iconst (v := (nI 1)) hx hb dX3_isIn_10 (by decide) ?_
      refine lv_goto (tgt := 15) hx hb dX3_isIn_11 (by decide) ?_
      exact hret _ _ _ _ _ _ hP hS dX3_isIn_15 rfl (Or.inl ⟨rfl, h1, h6⟩)
abbrev rmX3_thrown : Room := { frames := 0, cells := 0, slots := 0, locals := 0 }
set_option maxRecDepth 100000 in
set_option maxHeartbeats 4000000 in
theorem m_X3_thrown (l : Launch) (hl9 : l.stackTraces = false) (D : va_G) (cI : ClassId) (cJ : ClassId × ClassId) (ad : Nat → Nat) (sg0 : Nat → Nat → Int32) (sz : Nat) : gc_M l yX3_thrown wsX3_thrown rmX3_thrown D vwCl (tyS cI cJ) cI cJ gxT gxN SM [.ref (ad 0)] ad sg0 sz 0 0 (fun v sg2 => v = some (.int (sg0 0 0)) ∧ sg2 = sg0) := by
  refine gc_Mi_of (cc := cX3_thrown) (maxL := 1) (by decide) rfl (Nat.le_of_ble_eq_true rfl) ?_
  intro p e s m below meth c A ls Q hin hE hret
  obtain ⟨⟨hx, hb, hml, hown, hts⟩, -, hlocks, -, hA, hP, hK, hD, hS, hl⟩ := hin
  have hts : ∀ w ∈ wsAll, w.before ([.ref (ad 0)] : List Value).toArray s = true := fun w h => hts w (List.mem_cons_of_mem _ h)
  have hl : lv_has ls 1 [(0, .ref (ad 0))] := hl
  refine lv_aload_n hx hb dX3_thrown_0 rfl (lv_at hl 0 rfl) ?_
  refine gw_geti (C := RX3) (T := TX3) (N := 27) hx hb hts inwX3 hown hK hP 0 0 rfl rfl rfl (by decide) (hts _ a130) (fun _ h9 => h9) dX3_thrown_1 ?_
  refine lv_topi (fun v1 hv1 => ?_)
  exact hret _ _ _ _ _ _ hP hS dX3_thrown_4 (⟨by rw [hv1], rfl⟩)
abbrev rmX3_forget : Room := { frames := 0, cells := 0, slots := 0, locals := 0 }
set_option maxRecDepth 100000 in
set_option maxHeartbeats 4000000 in
theorem m_X3_forget (l : Launch) (hl9 : l.stackTraces = false) (D : va_G) (cI : ClassId) (cJ : ClassId × ClassId) (ad : Nat → Nat) (sg0 : Nat → Nat → Int32) (sz : Nat) (hI : IvM sg0) : gc_M l yX3_forget wsX3_forget rmX3_forget D vwCl (tyS cI cJ) cI cJ gxT gxN SM [.ref (ad 0)] ad sg0 sz 0 0 (fun v sg2 => KM sg0 sg2 ∧ v = none ∧ ∀ j : Nat, j ≠ 15 → j ≠ 16 → sg2 0 j = sg0 0 j) := by
  refine gc_Mv_of (cc := cX3_forget) (maxL := 1) (by decide) rfl (Nat.le_of_ble_eq_true rfl) ?_
  intro p e s m below meth c A ls Q hin hE hret
  obtain ⟨⟨hx, hb, hml, hown, hts⟩, -, hlocks, -, hA, hP, hK, hD, hS, hl⟩ := hin
  have hts : ∀ w ∈ wsAll, w.before ([.ref (ad 0)] : List Value).toArray s = true := fun w h => hts w (List.mem_cons_of_mem _ h)
  have hl : lv_has ls 1 [(0, .ref (ad 0))] := hl
  have hk := KM.refl hI
  refine lv_aload_n hx hb dX3_forget_0 rfl (lv_at hl 0 rfl) ?_
  refine lv_iconst (v := (nI 0)) hx hb dX3_forget_1 (by decide) ?_
  refine gw_put (C := RX3) (T := TX3) (N := 27) (ty := .boolean) hx hb hts inwX3 tyX3 tyX3_ok nmX3 hown hK hP hD hS 0 15 rfl rfl rfl (by decide) (hts _ a131) (fun _ h9 => h9) rfl (by decide +kernel) rfl rfl dX3_forget_2 (fun H locs hP hD hS => ?_)
  obtain ⟨sg1, esg1⟩ : ∃ z : Nat → Nat → Int32, z = gw_u sg0 0 (upd (sg0 0) 15 (nI 0)) := ⟨_, rfl⟩
  rw [← esg1] at hP hD
  have hk : KM sg0 sg1 := by rw [esg1]; exact hk.wf (by decide) (by decide) (by decide) _
  refine lv_aload_n hx hb dX3_forget_5 rfl (lv_at hl 0 rfl) ?_
  refine lv_iconst (v := (nI 0)) hx hb dX3_forget_6 (by decide) ?_
  refine gw_put (C := RX3) (T := TX3) (N := 27) (ty := .boolean) hx hb hts inwX3 tyX3 tyX3_ok nmX3 hown hK hP hD hS 0 16 rfl rfl rfl (by decide) (hts _ a132) (fun _ h9 => h9) rfl (by decide +kernel) rfl rfl dX3_forget_7 (fun H locs hP hD hS => ?_)
  obtain ⟨sg2, esg2⟩ : ∃ z : Nat → Nat → Int32, z = gw_u sg1 0 (upd (sg1 0) 16 (nI 0)) := ⟨_, rfl⟩
  rw [← esg2] at hP hD
  have hk : KM sg0 sg2 := by rw [esg2]; exact hk.wf (by decide) (by decide) (by decide) _
  exact hret _ _ _ _ _ hP hS dX3_forget_10 (⟨hk, rfl, fun j h1 h2 => by simp [esg2, esg1, gw_u, upd, h1, h2]⟩)
abbrev rmX3_logs : Room := { frames := 1, cells := 0, slots := 0, locals := 22 }
set_option maxRecDepth 100000 in
set_option maxHeartbeats 4000000 in
theorem m_X3_logs (l : Launch) (hl9 : l.stackTraces = false) (D : va_G) (cI : ClassId) (cJ : ClassId × ClassId) (ad : Nat → Nat) (sg0 : Nat → Nat → Int32) (sz : Nat) (x1 : Int32) (x2 : Int32) (x3 : Int32) (hI : IvM sg0) : gc_M l yX3_logs wsX3_logs rmX3_logs D vwCl (tyS cI cJ) cI cJ gxT gxN SM [.ref (ad 0), .int x1, .int x2, .int x3] ad sg0 sz 0 0 (fun v sg2 => KM sg0 sg2 ∧ v = none ∧ sg2 0 0 = kLogs x1 x2 x3) := by
  refine gc_Mv_of (cc := cX3_logs) (maxL := 4) (by decide) rfl (Nat.le_of_ble_eq_true rfl) ?_
  intro p e s m below meth c A ls Q hin hE hret
  obtain ⟨⟨hx, hb, hml, hown, hts⟩, -, hlocks, -, hA, hP, hK, hD, hS, hl⟩ := hin
  have hts : ∀ w ∈ wsAll, w.before ([.ref (ad 0), .int x1, .int x2, .int x3] : List Value).toArray s = true := fun w h => hts w (List.mem_cons_of_mem _ h)
  have hl : lv_has ls 4 [(0, .ref (ad 0)), (1, .int x1), (2, .int x2), (3, .int x3)] := hl
  have hk := KM.refl hI
  refine lv_aload_n hx hb dX3_logs_0 rfl (lv_at hl 0 rfl) ?_
  refine lv_iload_n hx hb dX3_logs_1 rfl (lv_at hl 1 rfl) ?_
  refine lv_iconst (v := (nI 0)) hx hb dX3_logs_2 (by decide) ?_
  refine lv_iconst (v := (nI 3)) hx hb dX3_logs_3 (by decide) ?_
  refine gc_go (pl := []) (S2 := SE) (ad := ad) (sg := sg0) (va_runS (As := [.int x1, .int (nI 0), .int (nI 3)]) (rest := [.ref (ad 0)]) ⟨hx, hb, hml, hown, hts⟩ (m_X3_isIn l hl9 D cI cJ (fun j => ad (gw_p [] j)) (fun j => sg0 (gw_p [] j)) _ x1 (nI 0) (nI 3) ) (cwS 3 hts (gwS a133 a134 a135 a136) rfl rfl rfl (by decide +kernel) ⟨by decide, by decide⟩) (gc_preS hK hP hD hS hA hE rfl) rfl rfl hl.1 rfl (lv_room (Nat.le_of_ble_eq_true rfl)) dX3_logs_4 ⟨by decide, by decide⟩) hP hD hS hA rfl (fun v1 sp2 sg3 H locs hp4 ha5 hb6 hP hD hS => ?_)
  rw [show sg3 = sg0 from funext (fun k => hb6 k (by simp))] at hP hD
  rcases hp4 with ⟨rfl, hi1⟩ | ⟨rfl, hi1⟩
  · refine W.eq (g2 := F0 m 7 ls [.int (nI 1), .ref (ad 0)]) rfl ?_
    refine lv_if_ne (tgt := 14) hx hb dX3_logs_7 (by decide) (fun hc7 => ?_) (fun hc7 => ?_)
    · refine lv_iload_n hx hb dX3_logs_14 rfl (lv_at hl 2 rfl) ?_
      refine lv_iconst (v := (nI 0)) hx hb dX3_logs_15 (by decide) ?_
      refine lv_sipush (v := (nI 1000)) hx hb dX3_logs_16 (by decide) ?_
      refine gc_go (pl := []) (S2 := SE) (ad := ad) (sg := sg0) (va_runS (As := [.int x2, .int (nI 0), .int (nI 1000)]) (rest := [.ref (ad 0)]) ⟨hx, hb, hml, hown, hts⟩ (m_X3_isIn l hl9 D cI cJ (fun j => ad (gw_p [] j)) (fun j => sg0 (gw_p [] j)) _ x2 (nI 0) (nI 1000) ) (cwS 3 hts (gwS a133 a134 a135 a136) rfl rfl rfl (by decide +kernel) ⟨by decide, by decide⟩) (gc_preS hK hP hD hS hA hE rfl) rfl rfl hl.1 rfl (lv_room (Nat.le_of_ble_eq_true rfl)) dX3_logs_19 ⟨by decide, by decide⟩) hP hD hS hA rfl (fun v8 sp9 sg10 H locs hp11 ha12 hb13 hP hD hS => ?_)
      rw [show sg10 = sg0 from funext (fun k => hb13 k (by simp))] at hP hD
      rcases hp11 with ⟨rfl, hi2⟩ | ⟨rfl, hi2⟩
      · refine W.eq (g2 := F0 m 22 ls [.int (nI 1), .ref (ad 0)]) rfl ?_
        refine lv_if_eq (tgt := 35) hx hb dX3_logs_22 (by decide) (fun hc14 => ?_) (fun hc14 => ?_)
        · exact absurd hc14 (by decide)
        · refine lv_iload_n hx hb dX3_logs_25 rfl (lv_at hl 3 rfl) ?_
          refine lv_iconst (v := (nI 0)) hx hb dX3_logs_26 (by decide) ?_
          refine lv_ldc (v := (nI 100000)) hx hb hown (hts _ a137) dX3_logs_27 ?_
          refine gc_go (pl := []) (S2 := SE) (ad := ad) (sg := sg0) (va_runS (As := [.int x3, .int (nI 0), .int (nI 100000)]) (rest := [.ref (ad 0)]) ⟨hx, hb, hml, hown, hts⟩ (m_X3_isIn l hl9 D cI cJ (fun j => ad (gw_p [] j)) (fun j => sg0 (gw_p [] j)) _ x3 (nI 0) (nI 100000) ) (cwS 3 hts (gwS a133 a134 a135 a136) rfl rfl rfl (by decide +kernel) ⟨by decide, by decide⟩) (gc_preS hK hP hD hS hA hE rfl) rfl rfl hl.1 rfl (lv_room (Nat.le_of_ble_eq_true rfl)) dX3_logs_29 ⟨by decide, by decide⟩) hP hD hS hA rfl (fun v15 sp16 sg17 H locs hp18 ha19 hb20 hP hD hS => ?_)
          rw [show sg17 = sg0 from funext (fun k => hb20 k (by simp))] at hP hD
          rcases hp18 with ⟨rfl, hi3⟩ | ⟨rfl, hi3⟩
          · refine W.eq (g2 := F0 m 32 ls [.int (nI 1), .ref (ad 0)]) rfl ?_
            refine lv_if_ne (tgt := 39) hx hb dX3_logs_32 (by decide) (fun hc21 => ?_) (fun hc21 => ?_)
            · refine lv_iconst (v := (nI 0)) hx hb dX3_logs_39 (by decide) ?_
              refine gw_put (C := RX3) (T := TX3) (N := 27) (ty := .int) hx hb hts inwX3 tyX3 tyX3_ok nmX3 hown hK hP hD hS 0 0 rfl rfl rfl (by decide) (hts _ a130) (fun _ h9 => h9) rfl (by decide +kernel) rfl rfl dX3_logs_40 (fun H locs hP hD hS => ?_)
              obtain ⟨sg22, esg22⟩ : ∃ z : Nat → Nat → Int32, z = gw_u sg0 0 (upd (sg0 0) 0 (nI 0)) := ⟨_, rfl⟩
              rw [← esg22] at hP hD
              have hk : KM sg0 sg22 := by rw [esg22]; exact hk.wf (by decide) (by decide) (by decide) _
              refine lv_aload_n hx hb dX3_logs_43 rfl (lv_at hl 0 rfl) ?_
              refine gw_geti (C := RX3) (T := TX3) (N := 27) hx hb hts inwX3 hown hK hP 0 0 rfl rfl rfl (by decide) (hts _ a130) (fun _ h9 => h9) dX3_logs_44 ?_
              refine gw_top (y := (nI 0)) (by simp [esg22, gw_u, upd]) ?_
              refine lv_if_ne (tgt := 68) hx hb dX3_logs_47 (by decide) (fun hc23 => ?_) (fun hc23 => ?_)
              · exact absurd hc23 (by decide)
              · have hk9 : kLogs x1 x2 x3 = nI 0 := by simp [kLogs, kif, hi1, hi2, hi3]
                obtain ⟨j1, hj1, rfl⟩ := inof3 hi1
                refine lv_aload_n hx hb dX3_logs_50 rfl (lv_at hl 0 rfl) ?_
                refine gw_getr (C := RX3) (T := TX3) (N := 27) hx hb hts inwX3 hown hK hP 0 1 1 rfl rfl rfl (by decide) (hts _ a138) (fun _ h9 => h9) dX3_logs_51 ?_
                refine lv_iload_n hx hb dX3_logs_54 rfl (lv_at hl 1 rfl) ?_
                refine lv_iload_n hx hb dX3_logs_55 rfl (lv_at hl 2 rfl) ?_
                refine gw_ast hx hb hK hP hD hS 1 0 (n := 4) rfl rfl (i := j1) (by omega) (by decide) dX3_logs_56 (fun H locs hP hD hS => ?_)
                obtain ⟨sg24, esg24⟩ : ∃ z : Nat → Nat → Int32, z = gw_u sg22 1 (upd (sg22 1) j1 x2) := ⟨_, rfl⟩
                rw [← esg24] at hP hD
                have hk : KM sg0 sg24 := by rw [esg24]; exact hk.wa 1 (by decide) (by decide) _
                refine lv_aload_n hx hb dX3_logs_57 rfl (lv_at hl 0 rfl) ?_
                refine gw_getr (C := RX3) (T := TX3) (N := 27) hx hb hts inwX3 hown hK hP 0 2 2 rfl rfl rfl (by decide) (hts _ a139) (fun _ h9 => h9) dX3_logs_58 ?_
                refine lv_iload_n hx hb dX3_logs_61 rfl (lv_at hl 1 rfl) ?_
                refine lv_iload_n hx hb dX3_logs_62 rfl (lv_at hl 3 rfl) ?_
                refine gw_ast hx hb hK hP hD hS 2 0 (n := 4) rfl rfl (i := j1) (by omega) (by decide) dX3_logs_63 (fun H locs hP hD hS => ?_)
                obtain ⟨sg25, esg25⟩ : ∃ z : Nat → Nat → Int32, z = gw_u sg24 2 (upd (sg24 2) j1 x3) := ⟨_, rfl⟩
                rw [← esg25] at hP hD
                have hk : KM sg0 sg25 := by rw [esg25]; exact hk.wa 2 (by decide) (by decide) _
                refine lv_aload_n hx hb dX3_logs_64 rfl (lv_at hl 0 rfl) ?_
                refine gc_go0 (va_runV (As := []) (rest := []) ⟨hx, hb, hml, hown, hts⟩ (m_X3_forget l hl9 D cI cJ ad sg25 _  hk.1) (cwV 0 hts (gwV a140 a141 a142 a135 a143) rfl rfl rfl (by decide +kernel) ⟨by decide, by decide⟩) (gc_preV0 hK hP hD hS hA hE rfl rfl rfl) rfl rfl hl.1 rfl (lv_room (Nat.le_of_ble_eq_true rfl)) dX3_logs_65 ⟨by decide, by decide⟩) hD hS hA (fun v26 sg28 H locs hp29 hP hD hS => ?_)
                obtain ⟨hk1, rfl, hq7⟩ := hp29
                have hq9 := hq7 0 (by decide) (by decide)
                have hk := hk.trans hk1
                refine W.eq (g2 := F0 m 68 ls []) rfl ?_
                exact hret _ _ _ _ _ hP hS dX3_logs_68 (⟨hk, rfl, (show _ = (nI 0) from by simp [hq9, esg25, esg24, esg22, gw_u, upd]).trans hk9.symm⟩)
            · exact absurd hc21 (by decide)
          · refine W.eq (g2 := F0 m 32 ls [.int (nI 0), .ref (ad 0)]) rfl ?_
            refine lv_if_ne (tgt := 39) hx hb dX3_logs_32 (by decide) (fun hc32 => ?_) (fun hc32 => ?_)
            · exact absurd hc32 (by decide)
            · refine lv_iconst (v := (nI 2)) hx hb dX3_logs_35 (by decide) ?_
              refine lv_goto (tgt := 40) hx hb dX3_logs_36 (by decide) ?_
              refine gw_put (C := RX3) (T := TX3) (N := 27) (ty := .int) hx hb hts inwX3 tyX3 tyX3_ok nmX3 hown hK hP hD hS 0 0 rfl rfl rfl (by decide) (hts _ a130) (fun _ h9 => h9) rfl (by decide +kernel) rfl rfl dX3_logs_40 (fun H locs hP hD hS => ?_)
              obtain ⟨sg33, esg33⟩ : ∃ z : Nat → Nat → Int32, z = gw_u sg0 0 (upd (sg0 0) 0 (nI 2)) := ⟨_, rfl⟩
              rw [← esg33] at hP hD
              have hk : KM sg0 sg33 := by rw [esg33]; exact hk.wf (by decide) (by decide) (by decide) _
              refine lv_aload_n hx hb dX3_logs_43 rfl (lv_at hl 0 rfl) ?_
              refine gw_geti (C := RX3) (T := TX3) (N := 27) hx hb hts inwX3 hown hK hP 0 0 rfl rfl rfl (by decide) (hts _ a130) (fun _ h9 => h9) dX3_logs_44 ?_
              refine gw_top (y := (nI 2)) (by simp [esg33, gw_u, upd]) ?_
              refine lv_if_ne (tgt := 68) hx hb dX3_logs_47 (by decide) (fun hc34 => ?_) (fun hc34 => ?_)
              · exact hret _ _ _ _ _ hP hS dX3_logs_68 (⟨hk, rfl, (show _ = (nI 2) from by simp [esg33, gw_u, upd]).trans (show (nI 2) = kLogs x1 x2 x3 by simp [kLogs, kif, hi1, hi2, hi3])⟩)
              · exact absurd hc34 (by decide)
      · refine W.eq (g2 := F0 m 22 ls [.int (nI 0), .ref (ad 0)]) rfl ?_
        refine lv_if_eq (tgt := 35) hx hb dX3_logs_22 (by decide) (fun hc35 => ?_) (fun hc35 => ?_)
        · refine lv_iconst (v := (nI 2)) hx hb dX3_logs_35 (by decide) ?_
          refine lv_goto (tgt := 40) hx hb dX3_logs_36 (by decide) ?_
          refine gw_put (C := RX3) (T := TX3) (N := 27) (ty := .int) hx hb hts inwX3 tyX3 tyX3_ok nmX3 hown hK hP hD hS 0 0 rfl rfl rfl (by decide) (hts _ a130) (fun _ h9 => h9) rfl (by decide +kernel) rfl rfl dX3_logs_40 (fun H locs hP hD hS => ?_)
          obtain ⟨sg36, esg36⟩ : ∃ z : Nat → Nat → Int32, z = gw_u sg0 0 (upd (sg0 0) 0 (nI 2)) := ⟨_, rfl⟩
          rw [← esg36] at hP hD
          have hk : KM sg0 sg36 := by rw [esg36]; exact hk.wf (by decide) (by decide) (by decide) _
          refine lv_aload_n hx hb dX3_logs_43 rfl (lv_at hl 0 rfl) ?_
          refine gw_geti (C := RX3) (T := TX3) (N := 27) hx hb hts inwX3 hown hK hP 0 0 rfl rfl rfl (by decide) (hts _ a130) (fun _ h9 => h9) dX3_logs_44 ?_
          refine gw_top (y := (nI 2)) (by simp [esg36, gw_u, upd]) ?_
          refine lv_if_ne (tgt := 68) hx hb dX3_logs_47 (by decide) (fun hc37 => ?_) (fun hc37 => ?_)
          · exact hret _ _ _ _ _ hP hS dX3_logs_68 (⟨hk, rfl, (show _ = (nI 2) from by simp [esg36, gw_u, upd]).trans (show (nI 2) = kLogs x1 x2 x3 by simp [kLogs, kif, hi1, hi2])⟩)
          · exact absurd hc37 (by decide)
        · exact absurd hc35 (by decide)
    · exact absurd hc7 (by decide)
  · refine W.eq (g2 := F0 m 7 ls [.int (nI 0), .ref (ad 0)]) rfl ?_
    refine lv_if_ne (tgt := 14) hx hb dX3_logs_7 (by decide) (fun hc38 => ?_) (fun hc38 => ?_)
    · exact absurd hc38 (by decide)
    · refine lv_iconst (v := (nI 1)) hx hb dX3_logs_10 (by decide) ?_
      refine lv_goto (tgt := 40) hx hb dX3_logs_11 (by decide) ?_
      refine gw_put (C := RX3) (T := TX3) (N := 27) (ty := .int) hx hb hts inwX3 tyX3 tyX3_ok nmX3 hown hK hP hD hS 0 0 rfl rfl rfl (by decide) (hts _ a130) (fun _ h9 => h9) rfl (by decide +kernel) rfl rfl dX3_logs_40 (fun H locs hP hD hS => ?_)
      obtain ⟨sg39, esg39⟩ : ∃ z : Nat → Nat → Int32, z = gw_u sg0 0 (upd (sg0 0) 0 (nI 1)) := ⟨_, rfl⟩
      rw [← esg39] at hP hD
      have hk : KM sg0 sg39 := by rw [esg39]; exact hk.wf (by decide) (by decide) (by decide) _
      refine lv_aload_n hx hb dX3_logs_43 rfl (lv_at hl 0 rfl) ?_
      refine gw_geti (C := RX3) (T := TX3) (N := 27) hx hb hts inwX3 hown hK hP 0 0 rfl rfl rfl (by decide) (hts _ a130) (fun _ h9 => h9) dX3_logs_44 ?_
      refine gw_top (y := (nI 1)) (by simp [esg39, gw_u, upd]) ?_
      refine lv_if_ne (tgt := 68) hx hb dX3_logs_47 (by decide) (fun hc40 => ?_) (fun hc40 => ?_)
      · exact hret _ _ _ _ _ hP hS dX3_logs_68 (⟨hk, rfl, (show _ = (nI 1) from by simp [esg39, gw_u, upd]).trans (show (nI 1) = kLogs x1 x2 x3 by simp [kLogs, kif, hi1])⟩)
      · exact absurd hc40 (by decide)
abbrev rmX3_order : Room := { frames := 1, cells := 0, slots := 0, locals := 22 }
set_option maxRecDepth 100000 in
set_option maxHeartbeats 4000000 in
theorem m_X3_order (l : Launch) (hl9 : l.stackTraces = false) (D : va_G) (cI : ClassId) (cJ : ClassId × ClassId) (ad : Nat → Nat) (sg0 : Nat → Nat → Int32) (sz : Nat) (x1 : Int32) (x2 : Int32) (x3 : Int32) (x4 : Int32) (hI : IvM sg0) : gc_M l yX3_order wsX3_order rmX3_order D vwCl (tyS cI cJ) cI cJ gxT gxN SM [.ref (ad 0), .int x1, .int x2, .int x3, .int x4] ad sg0 sz 0 0 (fun v sg2 => KM sg0 sg2 ∧ v = none ∧ sg2 0 0 = kOrder x1 x2 x3 x4) := by
  refine gc_Mv_of (cc := cX3_order) (maxL := 5) (by decide) rfl (Nat.le_of_ble_eq_true rfl) ?_
  intro p e s m below meth c A ls Q hin hE hret
  obtain ⟨⟨hx, hb, hml, hown, hts⟩, -, hlocks, -, hA, hP, hK, hD, hS, hl⟩ := hin
  have hts : ∀ w ∈ wsAll, w.before ([.ref (ad 0), .int x1, .int x2, .int x3, .int x4] : List Value).toArray s = true := fun w h => hts w (List.mem_cons_of_mem _ h)
  have hl : lv_has ls 5 [(0, .ref (ad 0)), (1, .int x1), (2, .int x2), (3, .int x3), (4, .int x4)] := hl
  have hk := KM.refl hI
  refine lv_aload_n hx hb dX3_order_0 rfl (lv_at hl 0 rfl) ?_
  refine lv_iload_n hx hb dX3_order_1 rfl (lv_at hl 1 rfl) ?_
  refine lv_iconst (v := (nI 0)) hx hb dX3_order_2 (by decide) ?_
  refine lv_iconst (v := (nI 3)) hx hb dX3_order_3 (by decide) ?_
  refine gc_go (pl := []) (S2 := SE) (ad := ad) (sg := sg0) (va_runS (As := [.int x1, .int (nI 0), .int (nI 3)]) (rest := [.ref (ad 0)]) ⟨hx, hb, hml, hown, hts⟩ (m_X3_isIn l hl9 D cI cJ (fun j => ad (gw_p [] j)) (fun j => sg0 (gw_p [] j)) _ x1 (nI 0) (nI 3) ) (cwS 3 hts (gwS a133 a134 a135 a136) rfl rfl rfl (by decide +kernel) ⟨by decide, by decide⟩) (gc_preS hK hP hD hS hA hE rfl) rfl rfl hl.1 rfl (lv_room (Nat.le_of_ble_eq_true rfl)) dX3_order_4 ⟨by decide, by decide⟩) hP hD hS hA rfl (fun v1 sp2 sg3 H locs hp4 ha5 hb6 hP hD hS => ?_)
  rw [show sg3 = sg0 from funext (fun k => hb6 k (by simp))] at hP hD
  rcases hp4 with ⟨rfl, hi1⟩ | ⟨rfl, hi1⟩
  · refine W.eq (g2 := F0 m 7 ls [.int (nI 1), .ref (ad 0)]) rfl ?_
    refine lv_if_ne (tgt := 14) hx hb dX3_order_7 (by decide) (fun hc7 => ?_) (fun hc7 => ?_)
    · refine lv_iload_n hx hb dX3_order_14 rfl (lv_at hl 2 rfl) ?_
      refine lv_iconst (v := (nI 0)) hx hb dX3_order_15 (by decide) ?_
      refine lv_sipush (v := (nI 1000)) hx hb dX3_order_16 (by decide) ?_
      refine gc_go (pl := []) (S2 := SE) (ad := ad) (sg := sg0) (va_runS (As := [.int x2, .int (nI 0), .int (nI 1000)]) (rest := [.ref (ad 0)]) ⟨hx, hb, hml, hown, hts⟩ (m_X3_isIn l hl9 D cI cJ (fun j => ad (gw_p [] j)) (fun j => sg0 (gw_p [] j)) _ x2 (nI 0) (nI 1000) ) (cwS 3 hts (gwS a133 a134 a135 a136) rfl rfl rfl (by decide +kernel) ⟨by decide, by decide⟩) (gc_preS hK hP hD hS hA hE rfl) rfl rfl hl.1 rfl (lv_room (Nat.le_of_ble_eq_true rfl)) dX3_order_19 ⟨by decide, by decide⟩) hP hD hS hA rfl (fun v8 sp9 sg10 H locs hp11 ha12 hb13 hP hD hS => ?_)
      rw [show sg10 = sg0 from funext (fun k => hb13 k (by simp))] at hP hD
      rcases hp11 with ⟨rfl, hi2⟩ | ⟨rfl, hi2⟩
      · refine W.eq (g2 := F0 m 22 ls [.int (nI 1), .ref (ad 0)]) rfl ?_
        refine lv_if_eq (tgt := 48) hx hb dX3_order_22 (by decide) (fun hc14 => ?_) (fun hc14 => ?_)
        · exact absurd hc14 (by decide)
        · refine lv_iload_n hx hb dX3_order_25 rfl (lv_at hl 3 rfl) ?_
          refine lv_iload_n hx hb dX3_order_26 rfl (lv_at hl 2 rfl) ?_
          refine lv_sipush (v := (nI 1000)) hx hb dX3_order_27 (by decide) ?_
          refine gc_go (pl := []) (S2 := SE) (ad := ad) (sg := sg0) (va_runS (As := [.int x3, .int x2, .int (nI 1000)]) (rest := [.ref (ad 0)]) ⟨hx, hb, hml, hown, hts⟩ (m_X3_isIn l hl9 D cI cJ (fun j => ad (gw_p [] j)) (fun j => sg0 (gw_p [] j)) _ x3 x2 (nI 1000) ) (cwS 3 hts (gwS a133 a134 a135 a136) rfl rfl rfl (by decide +kernel) ⟨by decide, by decide⟩) (gc_preS hK hP hD hS hA hE rfl) rfl rfl hl.1 rfl (lv_room (Nat.le_of_ble_eq_true rfl)) dX3_order_30 ⟨by decide, by decide⟩) hP hD hS hA rfl (fun v15 sp16 sg17 H locs hp18 ha19 hb20 hP hD hS => ?_)
          rw [show sg17 = sg0 from funext (fun k => hb20 k (by simp))] at hP hD
          rcases hp18 with ⟨rfl, hi3⟩ | ⟨rfl, hi3⟩
          · refine W.eq (g2 := F0 m 33 ls [.int (nI 1), .ref (ad 0)]) rfl ?_
            refine lv_if_eq (tgt := 48) hx hb dX3_order_33 (by decide) (fun hc21 => ?_) (fun hc21 => ?_)
            · exact absurd hc21 (by decide)
            · refine lv_iload hx hb dX3_order_36 (lv_at hl 4 rfl) ?_
              refine lv_iconst (v := (nI 0)) hx hb dX3_order_38 (by decide) ?_
              refine lv_sipush (v := (nI 1000)) hx hb dX3_order_39 (by decide) ?_
              refine gc_go (pl := []) (S2 := SE) (ad := ad) (sg := sg0) (va_runS (As := [.int x4, .int (nI 0), .int (nI 1000)]) (rest := [.ref (ad 0)]) ⟨hx, hb, hml, hown, hts⟩ (m_X3_isIn l hl9 D cI cJ (fun j => ad (gw_p [] j)) (fun j => sg0 (gw_p [] j)) _ x4 (nI 0) (nI 1000) ) (cwS 3 hts (gwS a133 a134 a135 a136) rfl rfl rfl (by decide +kernel) ⟨by decide, by decide⟩) (gc_preS hK hP hD hS hA hE rfl) rfl rfl hl.1 rfl (lv_room (Nat.le_of_ble_eq_true rfl)) dX3_order_42 ⟨by decide, by decide⟩) hP hD hS hA rfl (fun v22 sp23 sg24 H locs hp25 ha26 hb27 hP hD hS => ?_)
              rw [show sg24 = sg0 from funext (fun k => hb27 k (by simp))] at hP hD
              rcases hp25 with ⟨rfl, hi4⟩ | ⟨rfl, hi4⟩
              · refine W.eq (g2 := F0 m 45 ls [.int (nI 1), .ref (ad 0)]) rfl ?_
                refine lv_if_ne (tgt := 52) hx hb dX3_order_45 (by decide) (fun hc28 => ?_) (fun hc28 => ?_)
                · refine lv_iconst (v := (nI 0)) hx hb dX3_order_52 (by decide) ?_
                  refine gw_put (C := RX3) (T := TX3) (N := 27) (ty := .int) hx hb hts inwX3 tyX3 tyX3_ok nmX3 hown hK hP hD hS 0 0 rfl rfl rfl (by decide) (hts _ a130) (fun _ h9 => h9) rfl (by decide +kernel) rfl rfl dX3_order_53 (fun H locs hP hD hS => ?_)
                  obtain ⟨sg29, esg29⟩ : ∃ z : Nat → Nat → Int32, z = gw_u sg0 0 (upd (sg0 0) 0 (nI 0)) := ⟨_, rfl⟩
                  rw [← esg29] at hP hD
                  have hk : KM sg0 sg29 := by rw [esg29]; exact hk.wf (by decide) (by decide) (by decide) _
                  refine lv_aload_n hx hb dX3_order_56 rfl (lv_at hl 0 rfl) ?_
                  refine gw_geti (C := RX3) (T := TX3) (N := 27) hx hb hts inwX3 hown hK hP 0 0 rfl rfl rfl (by decide) (hts _ a130) (fun _ h9 => h9) dX3_order_57 ?_
                  refine gw_top (y := (nI 0)) (by simp [esg29, gw_u, upd]) ?_
                  refine lv_if_ne (tgt := 89) hx hb dX3_order_60 (by decide) (fun hc30 => ?_) (fun hc30 => ?_)
                  · exact absurd hc30 (by decide)
                  · have hk9 : kOrder x1 x2 x3 x4 = nI 0 := by simp [kOrder, kif, hi1, hi2, hi3, hi4]
                    obtain ⟨j1, hj1, rfl⟩ := inof3 hi1
                    refine lv_aload_n hx hb dX3_order_63 rfl (lv_at hl 0 rfl) ?_
                    refine gw_getr (C := RX3) (T := TX3) (N := 27) hx hb hts inwX3 hown hK hP 0 7 6 rfl rfl rfl (by decide) (hts _ a144) (fun _ h9 => h9) dX3_order_64 ?_
                    refine lv_iload_n hx hb dX3_order_67 rfl (lv_at hl 1 rfl) ?_
                    refine lv_iload_n hx hb dX3_order_68 rfl (lv_at hl 2 rfl) ?_
                    refine gw_ast hx hb hK hP hD hS 6 0 (n := 4) rfl rfl (i := j1) (by omega) (by decide) dX3_order_69 (fun H locs hP hD hS => ?_)
                    obtain ⟨sg31, esg31⟩ : ∃ z : Nat → Nat → Int32, z = gw_u sg29 6 (upd (sg29 6) j1 x2) := ⟨_, rfl⟩
                    rw [← esg31] at hP hD
                    have hk : KM sg0 sg31 := by rw [esg31]; exact hk.wa 6 (by decide) (by decide) _
                    refine lv_aload_n hx hb dX3_order_70 rfl (lv_at hl 0 rfl) ?_
                    refine gw_getr (C := RX3) (T := TX3) (N := 27) hx hb hts inwX3 hown hK hP 0 8 7 rfl rfl rfl (by decide) (hts _ a145) (fun _ h9 => h9) dX3_order_71 ?_
                    refine lv_iload_n hx hb dX3_order_74 rfl (lv_at hl 1 rfl) ?_
                    refine lv_iload_n hx hb dX3_order_75 rfl (lv_at hl 3 rfl) ?_
                    refine gw_ast hx hb hK hP hD hS 7 0 (n := 4) rfl rfl (i := j1) (by omega) (by decide) dX3_order_76 (fun H locs hP hD hS => ?_)
                    obtain ⟨sg32, esg32⟩ : ∃ z : Nat → Nat → Int32, z = gw_u sg31 7 (upd (sg31 7) j1 x3) := ⟨_, rfl⟩
                    rw [← esg32] at hP hD
                    have hk : KM sg0 sg32 := by rw [esg32]; exact hk.wa 7 (by decide) (by decide) _
                    refine lv_aload_n hx hb dX3_order_77 rfl (lv_at hl 0 rfl) ?_
                    refine gw_getr (C := RX3) (T := TX3) (N := 27) hx hb hts inwX3 hown hK hP 0 9 8 rfl rfl rfl (by decide) (hts _ a146) (fun _ h9 => h9) dX3_order_78 ?_
                    refine lv_iload_n hx hb dX3_order_81 rfl (lv_at hl 1 rfl) ?_
                    refine lv_iload hx hb dX3_order_82 (lv_at hl 4 rfl) ?_
                    refine gw_ast hx hb hK hP hD hS 8 0 (n := 4) rfl rfl (i := j1) (by omega) (by decide) dX3_order_84 (fun H locs hP hD hS => ?_)
                    obtain ⟨sg33, esg33⟩ : ∃ z : Nat → Nat → Int32, z = gw_u sg32 8 (upd (sg32 8) j1 x4) := ⟨_, rfl⟩
                    rw [← esg33] at hP hD
                    have hk : KM sg0 sg33 := by rw [esg33]; exact hk.wa 8 (by decide) (by decide) _
                    refine lv_aload_n hx hb dX3_order_85 rfl (lv_at hl 0 rfl) ?_
                    refine gc_go0 (va_runV (As := []) (rest := []) ⟨hx, hb, hml, hown, hts⟩ (m_X3_forget l hl9 D cI cJ ad sg33 _  hk.1) (cwV 0 hts (gwV a140 a141 a142 a135 a143) rfl rfl rfl (by decide +kernel) ⟨by decide, by decide⟩) (gc_preV0 hK hP hD hS hA hE rfl rfl rfl) rfl rfl hl.1 rfl (lv_room (Nat.le_of_ble_eq_true rfl)) dX3_order_86 ⟨by decide, by decide⟩) hD hS hA (fun v34 sg36 H locs hp37 hP hD hS => ?_)
                    obtain ⟨hk1, rfl, hq7⟩ := hp37
                    have hq9 := hq7 0 (by decide) (by decide)
                    have hk := hk.trans hk1
                    refine W.eq (g2 := F0 m 89 ls []) rfl ?_
                    exact hret _ _ _ _ _ hP hS dX3_order_89 (⟨hk, rfl, (show _ = (nI 0) from by simp [hq9, esg33, esg32, esg31, esg29, gw_u, upd]).trans hk9.symm⟩)
                · exact absurd hc28 (by decide)
              · refine W.eq (g2 := F0 m 45 ls [.int (nI 0), .ref (ad 0)]) rfl ?_
                refine lv_if_ne (tgt := 52) hx hb dX3_order_45 (by decide) (fun hc40 => ?_) (fun hc40 => ?_)
                · exact absurd hc40 (by decide)
                · refine lv_iconst (v := (nI 2)) hx hb dX3_order_48 (by decide) ?_
                  refine lv_goto (tgt := 53) hx hb dX3_order_49 (by decide) ?_
                  refine gw_put (C := RX3) (T := TX3) (N := 27) (ty := .int) hx hb hts inwX3 tyX3 tyX3_ok nmX3 hown hK hP hD hS 0 0 rfl rfl rfl (by decide) (hts _ a130) (fun _ h9 => h9) rfl (by decide +kernel) rfl rfl dX3_order_53 (fun H locs hP hD hS => ?_)
                  obtain ⟨sg41, esg41⟩ : ∃ z : Nat → Nat → Int32, z = gw_u sg0 0 (upd (sg0 0) 0 (nI 2)) := ⟨_, rfl⟩
                  rw [← esg41] at hP hD
                  have hk : KM sg0 sg41 := by rw [esg41]; exact hk.wf (by decide) (by decide) (by decide) _
                  refine lv_aload_n hx hb dX3_order_56 rfl (lv_at hl 0 rfl) ?_
                  refine gw_geti (C := RX3) (T := TX3) (N := 27) hx hb hts inwX3 hown hK hP 0 0 rfl rfl rfl (by decide) (hts _ a130) (fun _ h9 => h9) dX3_order_57 ?_
                  refine gw_top (y := (nI 2)) (by simp [esg41, gw_u, upd]) ?_
                  refine lv_if_ne (tgt := 89) hx hb dX3_order_60 (by decide) (fun hc42 => ?_) (fun hc42 => ?_)
                  · exact hret _ _ _ _ _ hP hS dX3_order_89 (⟨hk, rfl, (show _ = (nI 2) from by simp [esg41, gw_u, upd]).trans (show (nI 2) = kOrder x1 x2 x3 x4 by simp [kOrder, kif, hi1, hi2, hi3, hi4])⟩)
                  · exact absurd hc42 (by decide)
          · refine W.eq (g2 := F0 m 33 ls [.int (nI 0), .ref (ad 0)]) rfl ?_
            refine lv_if_eq (tgt := 48) hx hb dX3_order_33 (by decide) (fun hc43 => ?_) (fun hc43 => ?_)
            · refine lv_iconst (v := (nI 2)) hx hb dX3_order_48 (by decide) ?_
              refine lv_goto (tgt := 53) hx hb dX3_order_49 (by decide) ?_
              refine gw_put (C := RX3) (T := TX3) (N := 27) (ty := .int) hx hb hts inwX3 tyX3 tyX3_ok nmX3 hown hK hP hD hS 0 0 rfl rfl rfl (by decide) (hts _ a130) (fun _ h9 => h9) rfl (by decide +kernel) rfl rfl dX3_order_53 (fun H locs hP hD hS => ?_)
              obtain ⟨sg44, esg44⟩ : ∃ z : Nat → Nat → Int32, z = gw_u sg0 0 (upd (sg0 0) 0 (nI 2)) := ⟨_, rfl⟩
              rw [← esg44] at hP hD
              have hk : KM sg0 sg44 := by rw [esg44]; exact hk.wf (by decide) (by decide) (by decide) _
              refine lv_aload_n hx hb dX3_order_56 rfl (lv_at hl 0 rfl) ?_
              refine gw_geti (C := RX3) (T := TX3) (N := 27) hx hb hts inwX3 hown hK hP 0 0 rfl rfl rfl (by decide) (hts _ a130) (fun _ h9 => h9) dX3_order_57 ?_
              refine gw_top (y := (nI 2)) (by simp [esg44, gw_u, upd]) ?_
              refine lv_if_ne (tgt := 89) hx hb dX3_order_60 (by decide) (fun hc45 => ?_) (fun hc45 => ?_)
              · exact hret _ _ _ _ _ hP hS dX3_order_89 (⟨hk, rfl, (show _ = (nI 2) from by simp [esg44, gw_u, upd]).trans (show (nI 2) = kOrder x1 x2 x3 x4 by simp [kOrder, kif, hi1, hi2, hi3])⟩)
              · exact absurd hc45 (by decide)
            · exact absurd hc43 (by decide)
      · refine W.eq (g2 := F0 m 22 ls [.int (nI 0), .ref (ad 0)]) rfl ?_
        refine lv_if_eq (tgt := 48) hx hb dX3_order_22 (by decide) (fun hc46 => ?_) (fun hc46 => ?_)
        · refine lv_iconst (v := (nI 2)) hx hb dX3_order_48 (by decide) ?_
          refine lv_goto (tgt := 53) hx hb dX3_order_49 (by decide) ?_
          refine gw_put (C := RX3) (T := TX3) (N := 27) (ty := .int) hx hb hts inwX3 tyX3 tyX3_ok nmX3 hown hK hP hD hS 0 0 rfl rfl rfl (by decide) (hts _ a130) (fun _ h9 => h9) rfl (by decide +kernel) rfl rfl dX3_order_53 (fun H locs hP hD hS => ?_)
          obtain ⟨sg47, esg47⟩ : ∃ z : Nat → Nat → Int32, z = gw_u sg0 0 (upd (sg0 0) 0 (nI 2)) := ⟨_, rfl⟩
          rw [← esg47] at hP hD
          have hk : KM sg0 sg47 := by rw [esg47]; exact hk.wf (by decide) (by decide) (by decide) _
          refine lv_aload_n hx hb dX3_order_56 rfl (lv_at hl 0 rfl) ?_
          refine gw_geti (C := RX3) (T := TX3) (N := 27) hx hb hts inwX3 hown hK hP 0 0 rfl rfl rfl (by decide) (hts _ a130) (fun _ h9 => h9) dX3_order_57 ?_
          refine gw_top (y := (nI 2)) (by simp [esg47, gw_u, upd]) ?_
          refine lv_if_ne (tgt := 89) hx hb dX3_order_60 (by decide) (fun hc48 => ?_) (fun hc48 => ?_)
          · exact hret _ _ _ _ _ hP hS dX3_order_89 (⟨hk, rfl, (show _ = (nI 2) from by simp [esg47, gw_u, upd]).trans (show (nI 2) = kOrder x1 x2 x3 x4 by simp [kOrder, kif, hi1, hi2])⟩)
          · exact absurd hc48 (by decide)
        · exact absurd hc46 (by decide)
    · exact absurd hc7 (by decide)
  · refine W.eq (g2 := F0 m 7 ls [.int (nI 0), .ref (ad 0)]) rfl ?_
    refine lv_if_ne (tgt := 14) hx hb dX3_order_7 (by decide) (fun hc49 => ?_) (fun hc49 => ?_)
    · exact absurd hc49 (by decide)
    · refine lv_iconst (v := (nI 1)) hx hb dX3_order_10 (by decide) ?_
      refine lv_goto (tgt := 53) hx hb dX3_order_11 (by decide) ?_
      refine gw_put (C := RX3) (T := TX3) (N := 27) (ty := .int) hx hb hts inwX3 tyX3 tyX3_ok nmX3 hown hK hP hD hS 0 0 rfl rfl rfl (by decide) (hts _ a130) (fun _ h9 => h9) rfl (by decide +kernel) rfl rfl dX3_order_53 (fun H locs hP hD hS => ?_)
      obtain ⟨sg50, esg50⟩ : ∃ z : Nat → Nat → Int32, z = gw_u sg0 0 (upd (sg0 0) 0 (nI 1)) := ⟨_, rfl⟩
      rw [← esg50] at hP hD
      have hk : KM sg0 sg50 := by rw [esg50]; exact hk.wf (by decide) (by decide) (by decide) _
      refine lv_aload_n hx hb dX3_order_56 rfl (lv_at hl 0 rfl) ?_
      refine gw_geti (C := RX3) (T := TX3) (N := 27) hx hb hts inwX3 hown hK hP 0 0 rfl rfl rfl (by decide) (hts _ a130) (fun _ h9 => h9) dX3_order_57 ?_
      refine gw_top (y := (nI 1)) (by simp [esg50, gw_u, upd]) ?_
      refine lv_if_ne (tgt := 89) hx hb dX3_order_60 (by decide) (fun hc51 => ?_) (fun hc51 => ?_)
      · exact hret _ _ _ _ _ hP hS dX3_order_89 (⟨hk, rfl, (show _ = (nI 1) from by simp [esg50, gw_u, upd]).trans (show (nI 1) = kOrder x1 x2 x3 x4 by simp [kOrder, kif, hi1])⟩)
      · exact absurd hc51 (by decide)
abbrev rmX3_hours : Room := { frames := 1, cells := 0, slots := 0, locals := 22 }
set_option maxRecDepth 100000 in
set_option maxHeartbeats 4000000 in
theorem m_X3_hours (l : Launch) (hl9 : l.stackTraces = false) (D : va_G) (cI : ClassId) (cJ : ClassId × ClassId) (ad : Nat → Nat) (sg0 : Nat → Nat → Int32) (sz : Nat) (x1 : Int32) (x2 : Int32) (hI : IvM sg0) : gc_M l yX3_hours wsX3_hours rmX3_hours D vwCl (tyS cI cJ) cI cJ gxT gxN SM [.ref (ad 0), .int x1, .int x2] ad sg0 sz 0 0 (fun v sg2 => KM sg0 sg2 ∧ v = none ∧ sg2 0 0 = kHours x1 x2) := by
  refine gc_Mv_of (cc := cX3_hours) (maxL := 3) (by decide) rfl (Nat.le_of_ble_eq_true rfl) ?_
  intro p e s m below meth c A ls Q hin hE hret
  obtain ⟨⟨hx, hb, hml, hown, hts⟩, -, hlocks, -, hA, hP, hK, hD, hS, hl⟩ := hin
  have hts : ∀ w ∈ wsAll, w.before ([.ref (ad 0), .int x1, .int x2] : List Value).toArray s = true := fun w h => hts w (List.mem_cons_of_mem _ h)
  have hl : lv_has ls 3 [(0, .ref (ad 0)), (1, .int x1), (2, .int x2)] := hl
  have hk := KM.refl hI
  refine lv_aload_n hx hb dX3_hours_0 rfl (lv_at hl 0 rfl) ?_
  refine lv_iload_n hx hb dX3_hours_1 rfl (lv_at hl 1 rfl) ?_
  refine lv_iconst (v := (nI 0)) hx hb dX3_hours_2 (by decide) ?_
  refine lv_sipush (v := (nI 1440)) hx hb dX3_hours_3 (by decide) ?_
  refine gc_go (pl := []) (S2 := SE) (ad := ad) (sg := sg0) (va_runS (As := [.int x1, .int (nI 0), .int (nI 1440)]) (rest := [.ref (ad 0)]) ⟨hx, hb, hml, hown, hts⟩ (m_X3_isIn l hl9 D cI cJ (fun j => ad (gw_p [] j)) (fun j => sg0 (gw_p [] j)) _ x1 (nI 0) (nI 1440) ) (cwS 3 hts (gwS a133 a134 a135 a136) rfl rfl rfl (by decide +kernel) ⟨by decide, by decide⟩) (gc_preS hK hP hD hS hA hE rfl) rfl rfl hl.1 rfl (lv_room (Nat.le_of_ble_eq_true rfl)) dX3_hours_6 ⟨by decide, by decide⟩) hP hD hS hA rfl (fun v1 sp2 sg3 H locs hp4 ha5 hb6 hP hD hS => ?_)
  rw [show sg3 = sg0 from funext (fun k => hb6 k (by simp))] at hP hD
  rcases hp4 with ⟨rfl, hi1⟩ | ⟨rfl, hi1⟩
  · refine W.eq (g2 := F0 m 9 ls [.int (nI 1), .ref (ad 0)]) rfl ?_
    refine lv_if_eq (tgt := 27) hx hb dX3_hours_9 (by decide) (fun hc7 => ?_) (fun hc7 => ?_)
    · exact absurd hc7 (by decide)
    · refine lv_iload_n hx hb dX3_hours_12 rfl (lv_at hl 2 rfl) ?_
      refine lv_iconst (v := (nI 0)) hx hb dX3_hours_13 (by decide) ?_
      refine lv_sipush (v := (nI 1440)) hx hb dX3_hours_14 (by decide) ?_
      refine gc_go (pl := []) (S2 := SE) (ad := ad) (sg := sg0) (va_runS (As := [.int x2, .int (nI 0), .int (nI 1440)]) (rest := [.ref (ad 0)]) ⟨hx, hb, hml, hown, hts⟩ (m_X3_isIn l hl9 D cI cJ (fun j => ad (gw_p [] j)) (fun j => sg0 (gw_p [] j)) _ x2 (nI 0) (nI 1440) ) (cwS 3 hts (gwS a133 a134 a135 a136) rfl rfl rfl (by decide +kernel) ⟨by decide, by decide⟩) (gc_preS hK hP hD hS hA hE rfl) rfl rfl hl.1 rfl (lv_room (Nat.le_of_ble_eq_true rfl)) dX3_hours_17 ⟨by decide, by decide⟩) hP hD hS hA rfl (fun v8 sp9 sg10 H locs hp11 ha12 hb13 hP hD hS => ?_)
      rw [show sg10 = sg0 from funext (fun k => hb13 k (by simp))] at hP hD
      rcases hp11 with ⟨rfl, hi2⟩ | ⟨rfl, hi2⟩
      · refine W.eq (g2 := F0 m 20 ls [.int (nI 1), .ref (ad 0)]) rfl ?_
        refine lv_if_eq (tgt := 27) hx hb dX3_hours_20 (by decide) (fun hc14 => ?_) (fun hc14 => ?_)
        · exact absurd hc14 (by decide)
        · refine lv_iconst (v := (nI 0)) hx hb dX3_hours_23 (by decide) ?_
          refine lv_goto (tgt := 28) hx hb dX3_hours_24 (by decide) ?_
          refine gw_put (C := RX3) (T := TX3) (N := 27) (ty := .int) hx hb hts inwX3 tyX3 tyX3_ok nmX3 hown hK hP hD hS 0 0 rfl rfl rfl (by decide) (hts _ a130) (fun _ h9 => h9) rfl (by decide +kernel) rfl rfl dX3_hours_28 (fun H locs hP hD hS => ?_)
          obtain ⟨sg15, esg15⟩ : ∃ z : Nat → Nat → Int32, z = gw_u sg0 0 (upd (sg0 0) 0 (nI 0)) := ⟨_, rfl⟩
          rw [← esg15] at hP hD
          have hk : KM sg0 sg15 := by rw [esg15]; exact hk.wf (by decide) (by decide) (by decide) _
          refine lv_aload_n hx hb dX3_hours_31 rfl (lv_at hl 0 rfl) ?_
          refine gw_geti (C := RX3) (T := TX3) (N := 27) hx hb hts inwX3 hown hK hP 0 0 rfl rfl rfl (by decide) (hts _ a130) (fun _ h9 => h9) dX3_hours_32 ?_
          refine gw_top (y := (nI 0)) (by simp [esg15, gw_u, upd]) ?_
          refine lv_if_ne (tgt := 52) hx hb dX3_hours_35 (by decide) (fun hc16 => ?_) (fun hc16 => ?_)
          · exact absurd hc16 (by decide)
          · have hk9 : kHours x1 x2 = nI 0 := by simp [kHours, kif, hi1, hi2]
            refine lv_aload_n hx hb dX3_hours_38 rfl (lv_at hl 0 rfl) ?_
            refine lv_iload_n hx hb dX3_hours_39 rfl (lv_at hl 1 rfl) ?_
            refine gw_put (C := RX3) (T := TX3) (N := 27) (ty := .int) hx hb hts inwX3 tyX3 tyX3_ok nmX3 hown hK hP hD hS 0 11 rfl rfl rfl (by decide) (hts _ a147) (fun _ h9 => h9) rfl (by decide +kernel) rfl rfl dX3_hours_40 (fun H locs hP hD hS => ?_)
            obtain ⟨sg17, esg17⟩ : ∃ z : Nat → Nat → Int32, z = gw_u sg15 0 (upd (sg15 0) 11 x1) := ⟨_, rfl⟩
            rw [← esg17] at hP hD
            have hk : KM sg0 sg17 := by rw [esg17]; exact hk.wf (by decide) (by decide) (by decide) _
            refine lv_aload_n hx hb dX3_hours_43 rfl (lv_at hl 0 rfl) ?_
            refine lv_iload_n hx hb dX3_hours_44 rfl (lv_at hl 2 rfl) ?_
            refine gw_put (C := RX3) (T := TX3) (N := 27) (ty := .int) hx hb hts inwX3 tyX3 tyX3_ok nmX3 hown hK hP hD hS 0 12 rfl rfl rfl (by decide) (hts _ a148) (fun _ h9 => h9) rfl (by decide +kernel) rfl rfl dX3_hours_45 (fun H locs hP hD hS => ?_)
            obtain ⟨sg18, esg18⟩ : ∃ z : Nat → Nat → Int32, z = gw_u sg17 0 (upd (sg17 0) 12 x2) := ⟨_, rfl⟩
            rw [← esg18] at hP hD
            have hk : KM sg0 sg18 := by rw [esg18]; exact hk.wf (by decide) (by decide) (by decide) _
            refine lv_aload_n hx hb dX3_hours_48 rfl (lv_at hl 0 rfl) ?_
            refine gc_go0 (va_runV (As := []) (rest := []) ⟨hx, hb, hml, hown, hts⟩ (m_X3_forget l hl9 D cI cJ ad sg18 _  hk.1) (cwV 0 hts (gwV a140 a141 a142 a135 a143) rfl rfl rfl (by decide +kernel) ⟨by decide, by decide⟩) (gc_preV0 hK hP hD hS hA hE rfl rfl rfl) rfl rfl hl.1 rfl (lv_room (Nat.le_of_ble_eq_true rfl)) dX3_hours_49 ⟨by decide, by decide⟩) hD hS hA (fun v19 sg21 H locs hp22 hP hD hS => ?_)
            obtain ⟨hk1, rfl, hq7⟩ := hp22
            have hq9 := hq7 0 (by decide) (by decide)
            have hk := hk.trans hk1
            refine W.eq (g2 := F0 m 52 ls []) rfl ?_
            exact hret _ _ _ _ _ hP hS dX3_hours_52 (⟨hk, rfl, (show _ = (nI 0) from by simp [hq9, esg18, esg17, esg15, gw_u, upd]).trans hk9.symm⟩)
      · refine W.eq (g2 := F0 m 20 ls [.int (nI 0), .ref (ad 0)]) rfl ?_
        refine lv_if_eq (tgt := 27) hx hb dX3_hours_20 (by decide) (fun hc25 => ?_) (fun hc25 => ?_)
        · refine lv_iconst (v := (nI 1)) hx hb dX3_hours_27 (by decide) ?_
          refine gw_put (C := RX3) (T := TX3) (N := 27) (ty := .int) hx hb hts inwX3 tyX3 tyX3_ok nmX3 hown hK hP hD hS 0 0 rfl rfl rfl (by decide) (hts _ a130) (fun _ h9 => h9) rfl (by decide +kernel) rfl rfl dX3_hours_28 (fun H locs hP hD hS => ?_)
          obtain ⟨sg26, esg26⟩ : ∃ z : Nat → Nat → Int32, z = gw_u sg0 0 (upd (sg0 0) 0 (nI 1)) := ⟨_, rfl⟩
          rw [← esg26] at hP hD
          have hk : KM sg0 sg26 := by rw [esg26]; exact hk.wf (by decide) (by decide) (by decide) _
          refine lv_aload_n hx hb dX3_hours_31 rfl (lv_at hl 0 rfl) ?_
          refine gw_geti (C := RX3) (T := TX3) (N := 27) hx hb hts inwX3 hown hK hP 0 0 rfl rfl rfl (by decide) (hts _ a130) (fun _ h9 => h9) dX3_hours_32 ?_
          refine gw_top (y := (nI 1)) (by simp [esg26, gw_u, upd]) ?_
          refine lv_if_ne (tgt := 52) hx hb dX3_hours_35 (by decide) (fun hc27 => ?_) (fun hc27 => ?_)
          · exact hret _ _ _ _ _ hP hS dX3_hours_52 (⟨hk, rfl, (show _ = (nI 1) from by simp [esg26, gw_u, upd]).trans (show (nI 1) = kHours x1 x2 by simp [kHours, kif, hi1, hi2])⟩)
          · exact absurd hc27 (by decide)
        · exact absurd hc25 (by decide)
  · refine W.eq (g2 := F0 m 9 ls [.int (nI 0), .ref (ad 0)]) rfl ?_
    refine lv_if_eq (tgt := 27) hx hb dX3_hours_9 (by decide) (fun hc28 => ?_) (fun hc28 => ?_)
    · refine lv_iconst (v := (nI 1)) hx hb dX3_hours_27 (by decide) ?_
      refine gw_put (C := RX3) (T := TX3) (N := 27) (ty := .int) hx hb hts inwX3 tyX3 tyX3_ok nmX3 hown hK hP hD hS 0 0 rfl rfl rfl (by decide) (hts _ a130) (fun _ h9 => h9) rfl (by decide +kernel) rfl rfl dX3_hours_28 (fun H locs hP hD hS => ?_)
      obtain ⟨sg29, esg29⟩ : ∃ z : Nat → Nat → Int32, z = gw_u sg0 0 (upd (sg0 0) 0 (nI 1)) := ⟨_, rfl⟩
      rw [← esg29] at hP hD
      have hk : KM sg0 sg29 := by rw [esg29]; exact hk.wf (by decide) (by decide) (by decide) _
      refine lv_aload_n hx hb dX3_hours_31 rfl (lv_at hl 0 rfl) ?_
      refine gw_geti (C := RX3) (T := TX3) (N := 27) hx hb hts inwX3 hown hK hP 0 0 rfl rfl rfl (by decide) (hts _ a130) (fun _ h9 => h9) dX3_hours_32 ?_
      refine gw_top (y := (nI 1)) (by simp [esg29, gw_u, upd]) ?_
      refine lv_if_ne (tgt := 52) hx hb dX3_hours_35 (by decide) (fun hc30 => ?_) (fun hc30 => ?_)
      · exact hret _ _ _ _ _ hP hS dX3_hours_52 (⟨hk, rfl, (show _ = (nI 1) from by simp [esg29, gw_u, upd]).trans (show (nI 1) = kHours x1 x2 by simp [kHours, kif, hi1])⟩)
      · exact absurd hc30 (by decide)
    · exact absurd hc28 (by decide)
abbrev rmX3_isPattern : Room := { frames := 0, cells := 0, slots := 0, locals := 0 }
set_option maxRecDepth 100000 in
set_option maxHeartbeats 4000000 in
theorem m_X3_isPattern (l : Launch) (hl9 : l.stackTraces = false) (D : va_G) (cI : ClassId) (cJ : ClassId × ClassId) (ad : Nat → Nat) (sg0 : Nat → Nat → Int32) (sz : Nat) (x1 : Int32) (hI : IvM sg0) : gc_M l yX3_isPattern wsX3_isPattern rmX3_isPattern D vwCl (tyS cI cJ) cI cJ gxT gxN SM [.ref (ad 0), .int x1] ad sg0 sz 0 0 (fun v sg2 => sg2 = sg0 ∧ ((v = some (.int (nI 1)) ∧ inX x1 (sg0 0 3)) ∨ (v = some (.int (nI 0)) ∧ ¬ inX x1 (sg0 0 3)))) := by
  refine gc_Mz_of (cc := cX3_isPattern) (maxL := 2) (by decide) rfl (Nat.le_of_ble_eq_true rfl) ?_
  intro p e s m below meth c A ls Q hin hE hret
  obtain ⟨⟨hx, hb, hml, hown, hts⟩, -, hlocks, -, hA, hP, hK, hD, hS, hl⟩ := hin
  have hts : ∀ w ∈ wsAll, w.before ([.ref (ad 0), .int x1] : List Value).toArray s = true := fun w h => hts w (List.mem_cons_of_mem _ h)
  have hl : lv_has ls 2 [(0, .ref (ad 0)), (1, .int x1)] := hl
  have hk := KM.refl hI
  refine lv_iload_n hx hb dX3_isPattern_0 rfl (lv_at hl 1 rfl) ?_
  refine lv_if_lt (tgt := 16) hx hb dX3_isPattern_1 (by decide) (fun h1 => ?_) (fun h1 => ?_)
  · refine lv_iconst (v := (nI 0)) hx hb dX3_isPattern_16 (by decide) ?_
    exact hret _ _ _ _ _ _ hP hS dX3_isPattern_17 rfl (⟨rfl, Or.inr ⟨rfl, by first | exact fun q => q.1 h1 | exact fun q => absurd q.2 (by rw [eN]; exact i_nlt.mpr h6)⟩⟩)
  · refine lv_iload_n hx hb dX3_isPattern_4 rfl (lv_at hl 1 rfl) ?_
    refine lv_aload_n hx hb dX3_isPattern_5 rfl (lv_at hl 0 rfl) ?_
    refine gw_geti (C := RX3) (T := TX3) (N := 27) hx hb hts inwX3 hown hK hP 0 3 rfl rfl rfl (by decide) (hts _ a149) (fun _ h9 => h9) dX3_isPattern_6 ?_
    obtain ⟨N, hN, eN⟩ := hk.1.1
    refine gw_top (y := (nI N)) (eN) ?_
    refine lv_icmp_ge (tgt := 16) hx hb dX3_isPattern_9 (by decide) (fun h6 => ?_) (fun h6 => ?_)
    · refine lv_iconst (v := (nI 0)) hx hb dX3_isPattern_16 (by decide) ?_
      exact hret _ _ _ _ _ _ hP hS dX3_isPattern_17 rfl (⟨rfl, Or.inr ⟨rfl, by first | exact fun q => q.1 h1 | exact fun q => absurd q.2 (by rw [eN]; exact i_nlt.mpr h6)⟩⟩)
    · refine lv_iconst (v := (nI 1)) hx hb dX3_isPattern_12 (by decide) ?_
      refine lv_goto (tgt := 17) hx hb dX3_isPattern_13 (by decide) ?_
      exact hret _ _ _ _ _ _ hP hS dX3_isPattern_17 rfl (⟨rfl, Or.inl ⟨rfl, h1, by rw [eN]; exact i_nle.mp h6⟩⟩)
abbrev rmX3_gives : Room := { frames := 1, cells := 0, slots := 0, locals := 22 }
set_option maxRecDepth 100000 in
set_option maxHeartbeats 4000000 in
theorem m_X3_gives (l : Launch) (hl9 : l.stackTraces = false) (D : va_G) (cI : ClassId) (cJ : ClassId × ClassId) (ad : Nat → Nat) (sg0 : Nat → Nat → Int32) (sz : Nat) (x1 : Int32) (x2 : Int32) (x3 : Int32) (hI : IvM sg0) : gc_M l yX3_gives wsX3_gives rmX3_gives D vwCl (tyS cI cJ) cI cJ gxT gxN SM [.ref (ad 0), .int x1, .int x2, .int x3] ad sg0 sz 0 0 (fun v sg2 => KM sg0 sg2 ∧ v = none ∧ sg2 0 0 = kGives (sg0 0 3) x1 x2 x3) := by
  refine gc_Mv_of (cc := cX3_gives) (maxL := 4) (by decide) rfl (Nat.le_of_ble_eq_true rfl) ?_
  intro p e s m below meth c A ls Q hin hE hret
  obtain ⟨⟨hx, hb, hml, hown, hts⟩, -, hlocks, -, hA, hP, hK, hD, hS, hl⟩ := hin
  have hts : ∀ w ∈ wsAll, w.before ([.ref (ad 0), .int x1, .int x2, .int x3] : List Value).toArray s = true := fun w h => hts w (List.mem_cons_of_mem _ h)
  have hl : lv_has ls 4 [(0, .ref (ad 0)), (1, .int x1), (2, .int x2), (3, .int x3)] := hl
  have hk := KM.refl hI
  refine lv_aload_n hx hb dX3_gives_0 rfl (lv_at hl 0 rfl) ?_
  refine lv_aload_n hx hb dX3_gives_1 rfl (lv_at hl 0 rfl) ?_
  refine lv_iload_n hx hb dX3_gives_2 rfl (lv_at hl 1 rfl) ?_
  refine gc_go0 (va_runV (As := [.int x1]) (rest := [.ref (ad 0)]) ⟨hx, hb, hml, hown, hts⟩ (m_X3_isPattern l hl9 D cI cJ ad sg0 _ x1 hk.1) (cwV 1 hts (gwV a150 a151 a152 a135 a153) rfl rfl rfl (by decide +kernel) ⟨by decide, by decide⟩) (gc_preV0 hK hP hD hS hA hE rfl rfl rfl) rfl rfl hl.1 rfl (lv_room (Nat.le_of_ble_eq_true rfl)) dX3_gives_3 ⟨by decide, by decide⟩) hD hS hA (fun v1 sg3 H locs hp4 hP hD hS => ?_)
  obtain ⟨hs9, hp9⟩ := hp4
  rw [hs9] at hP hD
  rcases hp9 with ⟨rfl, hp1⟩ | ⟨rfl, hp1⟩
  · refine W.eq (g2 := F0 m 6 ls [.int (nI 1), .ref (ad 0)]) rfl ?_
    refine lv_if_eq (tgt := 18) hx hb dX3_gives_6 (by decide) (fun hc7 => ?_) (fun hc7 => ?_)
    · exact absurd hc7 (by decide)
    · refine lv_iload_n hx hb dX3_gives_9 rfl (lv_at hl 2 rfl) ?_
      refine lv_iconst (v := (nI 0)) hx hb dX3_gives_10 (by decide) ?_
      refine lv_iconst (v := (nI 3)) hx hb dX3_gives_11 (by decide) ?_
      refine gc_go (pl := []) (S2 := SE) (ad := ad) (sg := sg0) (va_runS (As := [.int x2, .int (nI 0), .int (nI 3)]) (rest := [.ref (ad 0)]) ⟨hx, hb, hml, hown, hts⟩ (m_X3_isIn l hl9 D cI cJ (fun j => ad (gw_p [] j)) (fun j => sg0 (gw_p [] j)) _ x2 (nI 0) (nI 3) ) (cwS 3 hts (gwS a133 a134 a135 a136) rfl rfl rfl (by decide +kernel) ⟨by decide, by decide⟩) (gc_preS hK hP hD hS hA hE rfl) rfl rfl hl.1 rfl (lv_room (Nat.le_of_ble_eq_true rfl)) dX3_gives_12 ⟨by decide, by decide⟩) hP hD hS hA rfl (fun v8 sp9 sg10 H locs hp11 ha12 hb13 hP hD hS => ?_)
      rw [show sg10 = sg0 from funext (fun k => hb13 k (by simp))] at hP hD
      rcases hp11 with ⟨rfl, hi1⟩ | ⟨rfl, hi1⟩
      · refine W.eq (g2 := F0 m 15 ls [.int (nI 1), .ref (ad 0)]) rfl ?_
        refine lv_if_ne (tgt := 22) hx hb dX3_gives_15 (by decide) (fun hc14 => ?_) (fun hc14 => ?_)
        · refine lv_iload_n hx hb dX3_gives_22 rfl (lv_at hl 3 rfl) ?_
          refine lv_iconst (v := (nI 0)) hx hb dX3_gives_23 (by decide) ?_
          refine lv_bipush (v := (nI 9)) hx hb dX3_gives_24 (by decide) ?_
          refine gc_go (pl := []) (S2 := SE) (ad := ad) (sg := sg0) (va_runS (As := [.int x3, .int (nI 0), .int (nI 9)]) (rest := [.ref (ad 0)]) ⟨hx, hb, hml, hown, hts⟩ (m_X3_isIn l hl9 D cI cJ (fun j => ad (gw_p [] j)) (fun j => sg0 (gw_p [] j)) _ x3 (nI 0) (nI 9) ) (cwS 3 hts (gwS a133 a134 a135 a136) rfl rfl rfl (by decide +kernel) ⟨by decide, by decide⟩) (gc_preS hK hP hD hS hA hE rfl) rfl rfl hl.1 rfl (lv_room (Nat.le_of_ble_eq_true rfl)) dX3_gives_26 ⟨by decide, by decide⟩) hP hD hS hA rfl (fun v15 sp16 sg17 H locs hp18 ha19 hb20 hP hD hS => ?_)
          rw [show sg17 = sg0 from funext (fun k => hb20 k (by simp))] at hP hD
          rcases hp18 with ⟨rfl, hi2⟩ | ⟨rfl, hi2⟩
          · refine W.eq (g2 := F0 m 29 ls [.int (nI 1), .ref (ad 0)]) rfl ?_
            refine lv_if_ne (tgt := 36) hx hb dX3_gives_29 (by decide) (fun hc21 => ?_) (fun hc21 => ?_)
            · refine lv_iconst (v := (nI 0)) hx hb dX3_gives_36 (by decide) ?_
              refine gw_put (C := RX3) (T := TX3) (N := 27) (ty := .int) hx hb hts inwX3 tyX3 tyX3_ok nmX3 hown hK hP hD hS 0 0 rfl rfl rfl (by decide) (hts _ a130) (fun _ h9 => h9) rfl (by decide +kernel) rfl rfl dX3_gives_37 (fun H locs hP hD hS => ?_)
              obtain ⟨sg22, esg22⟩ : ∃ z : Nat → Nat → Int32, z = gw_u sg0 0 (upd (sg0 0) 0 (nI 0)) := ⟨_, rfl⟩
              rw [← esg22] at hP hD
              have hk : KM sg0 sg22 := by rw [esg22]; exact hk.wf (by decide) (by decide) (by decide) _
              refine lv_aload_n hx hb dX3_gives_40 rfl (lv_at hl 0 rfl) ?_
              refine gw_geti (C := RX3) (T := TX3) (N := 27) hx hb hts inwX3 hown hK hP 0 0 rfl rfl rfl (by decide) (hts _ a130) (fun _ h9 => h9) dX3_gives_41 ?_
              refine gw_top (y := (nI 0)) (by simp [esg22, gw_u, upd]) ?_
              refine lv_if_ne (tgt := 62) hx hb dX3_gives_44 (by decide) (fun hc23 => ?_) (fun hc23 => ?_)
              · exact absurd hc23 (by decide)
              · have hk9 : kGives (sg0 0 3) x1 x2 x3 = nI 0 := by simp [kGives, kif, hp1, hi1, hi2]
                obtain ⟨N, hN, eN⟩ := hI.1
                rw [eN] at hp1
                obtain ⟨j1, hj1, rfl⟩ := ixofN hN hp1
                obtain ⟨j2, hj2, rfl⟩ := inof3 hi1
                refine lv_aload_n hx hb dX3_gives_47 rfl (lv_at hl 0 rfl) ?_
                refine gw_getr (C := RX3) (T := TX3) (N := 27) hx hb hts inwX3 hown hK hP 0 6 5 rfl rfl rfl (by decide) (hts _ a154) (fun _ h9 => h9) dX3_gives_48 ?_
                refine lv_iconst (v := (nI 4)) hx hb dX3_gives_51 (by decide) ?_
                refine lv_iload_n hx hb dX3_gives_52 rfl (lv_at hl 1 rfl) ?_
                refine lv_imul hx hb dX3_gives_53 ?_
                refine gw_top (y := (nI (4 * j1))) (nI_mul _ _) ?_
                refine lv_iload_n hx hb dX3_gives_54 rfl (lv_at hl 2 rfl) ?_
                refine lv_iadd hx hb dX3_gives_55 ?_
                refine gw_top (y := (nI ((4 * j1) + j2))) (nI_add _ _) ?_
                refine lv_iload_n hx hb dX3_gives_56 rfl (lv_at hl 3 rfl) ?_
                refine gw_ast hx hb hK hP hD hS 5 0 (n := 24) rfl rfl (i := (4 * j1) + j2) (by omega) (by decide) dX3_gives_57 (fun H locs hP hD hS => ?_)
                obtain ⟨sg24, esg24⟩ : ∃ z : Nat → Nat → Int32, z = gw_u sg22 5 (upd (sg22 5) ((4 * j1) + j2) x3) := ⟨_, rfl⟩
                rw [← esg24] at hP hD
                have hk : KM sg0 sg24 := by rw [esg24]; exact hk.wa 5 (by decide) (by decide) _
                refine lv_aload_n hx hb dX3_gives_58 rfl (lv_at hl 0 rfl) ?_
                refine gc_go0 (va_runV (As := []) (rest := []) ⟨hx, hb, hml, hown, hts⟩ (m_X3_forget l hl9 D cI cJ ad sg24 _  hk.1) (cwV 0 hts (gwV a140 a141 a142 a135 a143) rfl rfl rfl (by decide +kernel) ⟨by decide, by decide⟩) (gc_preV0 hK hP hD hS hA hE rfl rfl rfl) rfl rfl hl.1 rfl (lv_room (Nat.le_of_ble_eq_true rfl)) dX3_gives_59 ⟨by decide, by decide⟩) hD hS hA (fun v25 sg27 H locs hp28 hP hD hS => ?_)
                obtain ⟨hk1, rfl, hq7⟩ := hp28
                have hq9 := hq7 0 (by decide) (by decide)
                have hk := hk.trans hk1
                refine W.eq (g2 := F0 m 62 ls []) rfl ?_
                exact hret _ _ _ _ _ hP hS dX3_gives_62 (⟨hk, rfl, (show _ = (nI 0) from by simp [hq9, esg24, esg22, gw_u, upd]).trans hk9.symm⟩)
            · exact absurd hc21 (by decide)
          · refine W.eq (g2 := F0 m 29 ls [.int (nI 0), .ref (ad 0)]) rfl ?_
            refine lv_if_ne (tgt := 36) hx hb dX3_gives_29 (by decide) (fun hc31 => ?_) (fun hc31 => ?_)
            · exact absurd hc31 (by decide)
            · refine lv_iconst (v := (nI 2)) hx hb dX3_gives_32 (by decide) ?_
              refine lv_goto (tgt := 37) hx hb dX3_gives_33 (by decide) ?_
              refine gw_put (C := RX3) (T := TX3) (N := 27) (ty := .int) hx hb hts inwX3 tyX3 tyX3_ok nmX3 hown hK hP hD hS 0 0 rfl rfl rfl (by decide) (hts _ a130) (fun _ h9 => h9) rfl (by decide +kernel) rfl rfl dX3_gives_37 (fun H locs hP hD hS => ?_)
              obtain ⟨sg32, esg32⟩ : ∃ z : Nat → Nat → Int32, z = gw_u sg0 0 (upd (sg0 0) 0 (nI 2)) := ⟨_, rfl⟩
              rw [← esg32] at hP hD
              have hk : KM sg0 sg32 := by rw [esg32]; exact hk.wf (by decide) (by decide) (by decide) _
              refine lv_aload_n hx hb dX3_gives_40 rfl (lv_at hl 0 rfl) ?_
              refine gw_geti (C := RX3) (T := TX3) (N := 27) hx hb hts inwX3 hown hK hP 0 0 rfl rfl rfl (by decide) (hts _ a130) (fun _ h9 => h9) dX3_gives_41 ?_
              refine gw_top (y := (nI 2)) (by simp [esg32, gw_u, upd]) ?_
              refine lv_if_ne (tgt := 62) hx hb dX3_gives_44 (by decide) (fun hc33 => ?_) (fun hc33 => ?_)
              · exact hret _ _ _ _ _ hP hS dX3_gives_62 (⟨hk, rfl, (show _ = (nI 2) from by simp [esg32, gw_u, upd]).trans (show (nI 2) = kGives (sg0 0 3) x1 x2 x3 by simp [kGives, kif, hp1, hi1, hi2])⟩)
              · exact absurd hc33 (by decide)
        · exact absurd hc14 (by decide)
      · refine W.eq (g2 := F0 m 15 ls [.int (nI 0), .ref (ad 0)]) rfl ?_
        refine lv_if_ne (tgt := 22) hx hb dX3_gives_15 (by decide) (fun hc34 => ?_) (fun hc34 => ?_)
        · exact absurd hc34 (by decide)
        · refine lv_iconst (v := (nI 1)) hx hb dX3_gives_18 (by decide) ?_
          refine lv_goto (tgt := 37) hx hb dX3_gives_19 (by decide) ?_
          refine gw_put (C := RX3) (T := TX3) (N := 27) (ty := .int) hx hb hts inwX3 tyX3 tyX3_ok nmX3 hown hK hP hD hS 0 0 rfl rfl rfl (by decide) (hts _ a130) (fun _ h9 => h9) rfl (by decide +kernel) rfl rfl dX3_gives_37 (fun H locs hP hD hS => ?_)
          obtain ⟨sg35, esg35⟩ : ∃ z : Nat → Nat → Int32, z = gw_u sg0 0 (upd (sg0 0) 0 (nI 1)) := ⟨_, rfl⟩
          rw [← esg35] at hP hD
          have hk : KM sg0 sg35 := by rw [esg35]; exact hk.wf (by decide) (by decide) (by decide) _
          refine lv_aload_n hx hb dX3_gives_40 rfl (lv_at hl 0 rfl) ?_
          refine gw_geti (C := RX3) (T := TX3) (N := 27) hx hb hts inwX3 hown hK hP 0 0 rfl rfl rfl (by decide) (hts _ a130) (fun _ h9 => h9) dX3_gives_41 ?_
          refine gw_top (y := (nI 1)) (by simp [esg35, gw_u, upd]) ?_
          refine lv_if_ne (tgt := 62) hx hb dX3_gives_44 (by decide) (fun hc36 => ?_) (fun hc36 => ?_)
          · exact hret _ _ _ _ _ hP hS dX3_gives_62 (⟨hk, rfl, (show _ = (nI 1) from by simp [esg35, gw_u, upd]).trans (show (nI 1) = kGives (sg0 0 3) x1 x2 x3 by simp [kGives, kif, hp1, hi1])⟩)
          · exact absurd hc36 (by decide)
  · refine W.eq (g2 := F0 m 6 ls [.int (nI 0), .ref (ad 0)]) rfl ?_
    refine lv_if_eq (tgt := 18) hx hb dX3_gives_6 (by decide) (fun hc37 => ?_) (fun hc37 => ?_)
    · refine lv_iconst (v := (nI 1)) hx hb dX3_gives_18 (by decide) ?_
      refine lv_goto (tgt := 37) hx hb dX3_gives_19 (by decide) ?_
      refine gw_put (C := RX3) (T := TX3) (N := 27) (ty := .int) hx hb hts inwX3 tyX3 tyX3_ok nmX3 hown hK hP hD hS 0 0 rfl rfl rfl (by decide) (hts _ a130) (fun _ h9 => h9) rfl (by decide +kernel) rfl rfl dX3_gives_37 (fun H locs hP hD hS => ?_)
      obtain ⟨sg38, esg38⟩ : ∃ z : Nat → Nat → Int32, z = gw_u sg0 0 (upd (sg0 0) 0 (nI 1)) := ⟨_, rfl⟩
      rw [← esg38] at hP hD
      have hk : KM sg0 sg38 := by rw [esg38]; exact hk.wf (by decide) (by decide) (by decide) _
      refine lv_aload_n hx hb dX3_gives_40 rfl (lv_at hl 0 rfl) ?_
      refine gw_geti (C := RX3) (T := TX3) (N := 27) hx hb hts inwX3 hown hK hP 0 0 rfl rfl rfl (by decide) (hts _ a130) (fun _ h9 => h9) dX3_gives_41 ?_
      refine gw_top (y := (nI 1)) (by simp [esg38, gw_u, upd]) ?_
      refine lv_if_ne (tgt := 62) hx hb dX3_gives_44 (by decide) (fun hc39 => ?_) (fun hc39 => ?_)
      · exact hret _ _ _ _ _ hP hS dX3_gives_62 (⟨hk, rfl, (show _ = (nI 1) from by simp [esg38, gw_u, upd]).trans (show (nI 1) = kGives (sg0 0 3) x1 x2 x3 by simp [kGives, kif, hp1])⟩)
      · exact absurd hc39 (by decide)
    · exact absurd hc37 (by decide)
abbrev rmX3_pattern : Room := { frames := 1, cells := 0, slots := 0, locals := 22 }
set_option maxRecDepth 100000 in
set_option maxHeartbeats 4000000 in
theorem m_X3_pattern (l : Launch) (hl9 : l.stackTraces = false) (D : va_G) (cI : ClassId) (cJ : ClassId × ClassId) (ad : Nat → Nat) (sg0 : Nat → Nat → Int32) (sz : Nat) (x1 : Int32) (x2 : Int32) (hI : IvM sg0) : gc_M l yX3_pattern wsX3_pattern rmX3_pattern D vwCl (tyS cI cJ) cI cJ gxT gxN SM [.ref (ad 0), .int x1, .int x2] ad sg0 sz 0 0 (fun v sg2 => IvM sg2 ∧ sg2 0 0 = kPattern (sg0 0 3) x1 x2 ∧ (sg2 0 0 = nI 0 → v = some (.int (sg0 0 3)) ∧ sg2 0 3 = sg0 0 3 + 1) ∧ (¬ sg2 0 0 = nI 0 → sg2 0 3 = sg0 0 3) ∧ ∃ r : Int32, v = some (.int r)) := by
  refine gc_Mi_of (cc := cX3_pattern) (maxL := 3) (by decide) rfl (Nat.le_of_ble_eq_true rfl) ?_
  intro p e s m below meth c A ls Q hin hE hret
  obtain ⟨⟨hx, hb, hml, hown, hts⟩, -, hlocks, -, hA, hP, hK, hD, hS, hl⟩ := hin
  have hts : ∀ w ∈ wsAll, w.before ([.ref (ad 0), .int x1, .int x2] : List Value).toArray s = true := fun w h => hts w (List.mem_cons_of_mem _ h)
  have hl : lv_has ls 3 [(0, .ref (ad 0)), (1, .int x1), (2, .int x2)] := hl
  have hk := KM.refl hI
  refine lv_aload_n hx hb dX3_pattern_0 rfl (lv_at hl 0 rfl) ?_
  refine lv_iload_n hx hb dX3_pattern_1 rfl (lv_at hl 1 rfl) ?_
  refine lv_iconst (v := (nI 0)) hx hb dX3_pattern_2 (by decide) ?_
  refine lv_iconst (v := (nI 3)) hx hb dX3_pattern_3 (by decide) ?_
  refine gc_go (pl := []) (S2 := SE) (ad := ad) (sg := sg0) (va_runS (As := [.int x1, .int (nI 0), .int (nI 3)]) (rest := [.ref (ad 0)]) ⟨hx, hb, hml, hown, hts⟩ (m_X3_isIn l hl9 D cI cJ (fun j => ad (gw_p [] j)) (fun j => sg0 (gw_p [] j)) _ x1 (nI 0) (nI 3) ) (cwS 3 hts (gwS a133 a134 a135 a136) rfl rfl rfl (by decide +kernel) ⟨by decide, by decide⟩) (gc_preS hK hP hD hS hA hE rfl) rfl rfl hl.1 rfl (lv_room (Nat.le_of_ble_eq_true rfl)) dX3_pattern_4 ⟨by decide, by decide⟩) hP hD hS hA rfl (fun v1 sp2 sg3 H locs hp4 ha5 hb6 hP hD hS => ?_)
  rw [show sg3 = sg0 from funext (fun k => hb6 k (by simp))] at hP hD
  rcases hp4 with ⟨rfl, hi1⟩ | ⟨rfl, hi1⟩
  · refine W.eq (g2 := F0 m 7 ls [.int (nI 1), .ref (ad 0)]) rfl ?_
    refine lv_if_ne (tgt := 14) hx hb dX3_pattern_7 (by decide) (fun hc7 => ?_) (fun hc7 => ?_)
    · refine lv_iload_n hx hb dX3_pattern_14 rfl (lv_at hl 2 rfl) ?_
      refine lv_iconst (v := (nI 1)) hx hb dX3_pattern_15 (by decide) ?_
      refine lv_sipush (v := (nI 480)) hx hb dX3_pattern_16 (by decide) ?_
      refine gc_go (pl := []) (S2 := SE) (ad := ad) (sg := sg0) (va_runS (As := [.int x2, .int (nI 1), .int (nI 480)]) (rest := [.ref (ad 0)]) ⟨hx, hb, hml, hown, hts⟩ (m_X3_isIn l hl9 D cI cJ (fun j => ad (gw_p [] j)) (fun j => sg0 (gw_p [] j)) _ x2 (nI 1) (nI 480) ) (cwS 3 hts (gwS a133 a134 a135 a136) rfl rfl rfl (by decide +kernel) ⟨by decide, by decide⟩) (gc_preS hK hP hD hS hA hE rfl) rfl rfl hl.1 rfl (lv_room (Nat.le_of_ble_eq_true rfl)) dX3_pattern_19 ⟨by decide, by decide⟩) hP hD hS hA rfl (fun v8 sp9 sg10 H locs hp11 ha12 hb13 hP hD hS => ?_)
      rw [show sg10 = sg0 from funext (fun k => hb13 k (by simp))] at hP hD
      rcases hp11 with ⟨rfl, hi2⟩ | ⟨rfl, hi2⟩
      · refine W.eq (g2 := F0 m 22 ls [.int (nI 1), .ref (ad 0)]) rfl ?_
        refine lv_if_ne (tgt := 29) hx hb dX3_pattern_22 (by decide) (fun hc14 => ?_) (fun hc14 => ?_)
        · refine lv_aload_n hx hb dX3_pattern_29 rfl (lv_at hl 0 rfl) ?_
          refine gw_geti (C := RX3) (T := TX3) (N := 27) hx hb hts inwX3 hown hK hP 0 3 rfl rfl rfl (by decide) (hts _ a149) (fun _ h9 => h9) dX3_pattern_30 ?_
          obtain ⟨N, hN, eN⟩ := hk.1.1
          refine gw_top (y := (nI N)) (eN) ?_
          refine lv_bipush (v := (nI 6)) hx hb dX3_pattern_33 (by decide) ?_
          refine lv_icmp_ne (tgt := 42) hx hb dX3_pattern_35 (by decide) (fun hn6 => ?_) (fun hn6 => ?_)
          · have hn6 : ¬ (N = 6) := fun q => hn6 ((nI_eq (a := N) (b := 6) (by omega) (by omega)).mpr q)
            refine lv_iconst (v := (nI 0)) hx hb dX3_pattern_42 (by decide) ?_
            refine gw_put (C := RX3) (T := TX3) (N := 27) (ty := .int) hx hb hts inwX3 tyX3 tyX3_ok nmX3 hown hK hP hD hS 0 0 rfl rfl rfl (by decide) (hts _ a130) (fun _ h9 => h9) rfl (by decide +kernel) rfl rfl dX3_pattern_43 (fun H locs hP hD hS => ?_)
            obtain ⟨sg15, esg15⟩ : ∃ z : Nat → Nat → Int32, z = gw_u sg0 0 (upd (sg0 0) 0 (nI 0)) := ⟨_, rfl⟩
            rw [← esg15] at hP hD
            have hk : KM sg0 sg15 := by rw [esg15]; exact hk.wf (by decide) (by decide) (by decide) _
            refine lv_aload_n hx hb dX3_pattern_46 rfl (lv_at hl 0 rfl) ?_
            refine gw_geti (C := RX3) (T := TX3) (N := 27) hx hb hts inwX3 hown hK hP 0 0 rfl rfl rfl (by decide) (hts _ a130) (fun _ h9 => h9) dX3_pattern_47 ?_
            refine gw_top (y := (nI 0)) (by simp [esg15, gw_u, upd]) ?_
            refine lv_if_le (tgt := 55) hx hb dX3_pattern_50 (by decide) (fun hc16 => ?_) (fun hc16 => ?_)
            · have hk9 : kPattern (sg0 0 3) x1 x2 = nI 0 := by simp [kPattern, kif, hi1, hi2, eN, nI_ne6 (show N < 6 by omega)]
              obtain ⟨j1, hj1, rfl⟩ := inof3 hi1
              refine lv_aload_n hx hb dX3_pattern_55 rfl (lv_at hl 0 rfl) ?_
              refine gw_getr (C := RX3) (T := TX3) (N := 27) hx hb hts inwX3 hown hK hP 0 4 3 rfl rfl rfl (by decide) (hts _ a155) (fun _ h9 => h9) dX3_pattern_56 ?_
              refine lv_aload_n hx hb dX3_pattern_59 rfl (lv_at hl 0 rfl) ?_
              refine gw_geti (C := RX3) (T := TX3) (N := 27) hx hb hts inwX3 hown hK hP 0 3 rfl rfl rfl (by decide) (hts _ a149) (fun _ h9 => h9) dX3_pattern_60 ?_
              refine gw_top (y := (nI N)) (hk.2.trans eN) ?_
              refine lv_iload_n hx hb dX3_pattern_63 rfl (lv_at hl 1 rfl) ?_
              refine gw_ast hx hb hK hP hD hS 3 0 (n := 6) rfl rfl (i := N) (by omega) (by decide) dX3_pattern_64 (fun H locs hP hD hS => ?_)
              obtain ⟨sg17, esg17⟩ : ∃ z : Nat → Nat → Int32, z = gw_u sg15 3 (upd (sg15 3) N (nI j1)) := ⟨_, rfl⟩
              rw [← esg17] at hP hD
              have hk : KM sg0 sg17 := by rw [esg17]; exact hk.wc _ (by omega)
              refine lv_aload_n hx hb dX3_pattern_65 rfl (lv_at hl 0 rfl) ?_
              refine gw_getr (C := RX3) (T := TX3) (N := 27) hx hb hts inwX3 hown hK hP 0 5 4 rfl rfl rfl (by decide) (hts _ a156) (fun _ h9 => h9) dX3_pattern_66 ?_
              refine lv_aload_n hx hb dX3_pattern_69 rfl (lv_at hl 0 rfl) ?_
              refine gw_geti (C := RX3) (T := TX3) (N := 27) hx hb hts inwX3 hown hK hP 0 3 rfl rfl rfl (by decide) (hts _ a149) (fun _ h9 => h9) dX3_pattern_70 ?_
              refine gw_top (y := (nI N)) (hk.2.trans eN) ?_
              refine lv_iload_n hx hb dX3_pattern_73 rfl (lv_at hl 2 rfl) ?_
              refine gw_ast hx hb hK hP hD hS 4 0 (n := 6) rfl rfl (i := N) (by omega) (by decide) dX3_pattern_74 (fun H locs hP hD hS => ?_)
              obtain ⟨sg18, esg18⟩ : ∃ z : Nat → Nat → Int32, z = gw_u sg17 4 (upd (sg17 4) N x2) := ⟨_, rfl⟩
              rw [← esg18] at hP hD
              have hk : KM sg0 sg18 := by rw [esg18]; exact hk.wa 4 (by decide) (by decide) _
              refine lv_aload_n hx hb dX3_pattern_75 rfl (lv_at hl 0 rfl) ?_
              refine lv_dup hx hb dX3_pattern_76 rfl ?_
              refine gw_geti (C := RX3) (T := TX3) (N := 27) hx hb hts inwX3 hown hK hP 0 3 rfl rfl rfl (by decide) (hts _ a149) (fun _ h9 => h9) dX3_pattern_77 ?_
              refine gw_top (y := (nI N)) (hk.2.trans eN) ?_
              refine lv_iconst (v := (nI 1)) hx hb dX3_pattern_80 (by decide) ?_
              refine lv_iadd hx hb dX3_pattern_81 ?_
              refine gw_top (y := (nI (N + 1))) (nI_add _ _) ?_
              refine gw_put (C := RX3) (T := TX3) (N := 27) (ty := .int) hx hb hts inwX3 tyX3 tyX3_ok nmX3 hown hK hP hD hS 0 3 rfl rfl rfl (by decide) (hts _ a149) (fun _ h9 => h9) rfl (by decide +kernel) rfl rfl dX3_pattern_82 (fun H locs hP hD hS => ?_)
              obtain ⟨sg19, esg19⟩ : ∃ z : Nat → Nat → Int32, z = gw_u sg18 0 (upd (sg18 0) 3 (nI (N + 1))) := ⟨_, rfl⟩
              rw [← esg19] at hP hD
              have hpw : sg19 0 3 = nI (N + 1) := by simp [esg19, gw_u, upd]
              have hk : KM sg19 sg19 := KM.refl (by rw [esg19]; exact hk.wp (by omega))
              refine lv_aload_n hx hb dX3_pattern_85 rfl (lv_at hl 0 rfl) ?_
              refine gc_go0 (va_runV (As := []) (rest := []) ⟨hx, hb, hml, hown, hts⟩ (m_X3_forget l hl9 D cI cJ ad sg19 _  hk.1) (cwV 0 hts (gwV a140 a141 a142 a135 a143) rfl rfl rfl (by decide +kernel) ⟨by decide, by decide⟩) (gc_preV0 hK hP hD hS hA hE rfl rfl rfl) rfl rfl hl.1 rfl (lv_room (Nat.le_of_ble_eq_true rfl)) dX3_pattern_86 ⟨by decide, by decide⟩) hD hS hA (fun v20 sg22 H locs hp23 hP hD hS => ?_)
              obtain ⟨hk1, rfl, hq7⟩ := hp23
              have hq9 := hq7 0 (by decide) (by decide)
              have hk := hk.trans hk1
              refine W.eq (g2 := F0 m 89 ls []) rfl ?_
              refine lv_aload_n hx hb dX3_pattern_89 rfl (lv_at hl 0 rfl) ?_
              refine gw_geti (C := RX3) (T := TX3) (N := 27) hx hb hts inwX3 hown hK hP 0 3 rfl rfl rfl (by decide) (hts _ a149) (fun _ h9 => h9) dX3_pattern_90 ?_
              refine gw_top (y := (nI (N + 1))) (hk.2.trans hpw) ?_
              refine lv_iconst (v := (nI 1)) hx hb dX3_pattern_93 (by decide) ?_
              refine lv_isub hx hb dX3_pattern_94 ?_
              refine gw_top (y := (nI N)) (nI_pred N) ?_
              exact hret _ _ _ _ _ _ hP hS dX3_pattern_95 (⟨hk.1, (show _ = (nI 0) from by simp [hq9, esg19, esg18, esg17, esg15, gw_u, upd]).trans hk9.symm, fun _ => ⟨by rw [eN], by rw [hk.2, hpw, eN]; exact (nI_1 N).symm⟩, fun h => absurd (show _ = (nI 0) from by simp [hq9, esg19, esg18, esg17, esg15, gw_u, upd]) h, _, rfl⟩)
            · exact absurd hc16 (by decide)
          · have hn6 : N = 6 := (nI_eq (a := N) (b := 6) (by omega) (by omega)).mp hn6
            refine lv_iconst (v := (nI 3)) hx hb dX3_pattern_38 (by decide) ?_
            refine lv_goto (tgt := 43) hx hb dX3_pattern_39 (by decide) ?_
            refine gw_put (C := RX3) (T := TX3) (N := 27) (ty := .int) hx hb hts inwX3 tyX3 tyX3_ok nmX3 hown hK hP hD hS 0 0 rfl rfl rfl (by decide) (hts _ a130) (fun _ h9 => h9) rfl (by decide +kernel) rfl rfl dX3_pattern_43 (fun H locs hP hD hS => ?_)
            obtain ⟨sg26, esg26⟩ : ∃ z : Nat → Nat → Int32, z = gw_u sg0 0 (upd (sg0 0) 0 (nI 3)) := ⟨_, rfl⟩
            rw [← esg26] at hP hD
            have hk : KM sg0 sg26 := by rw [esg26]; exact hk.wf (by decide) (by decide) (by decide) _
            refine lv_aload_n hx hb dX3_pattern_46 rfl (lv_at hl 0 rfl) ?_
            refine gw_geti (C := RX3) (T := TX3) (N := 27) hx hb hts inwX3 hown hK hP 0 0 rfl rfl rfl (by decide) (hts _ a130) (fun _ h9 => h9) dX3_pattern_47 ?_
            refine gw_top (y := (nI 3)) (by simp [esg26, gw_u, upd]) ?_
            refine lv_if_le (tgt := 55) hx hb dX3_pattern_50 (by decide) (fun hc27 => ?_) (fun hc27 => ?_)
            · exact absurd hc27 (by decide)
            · refine lv_iconst (v := (nI 0)) hx hb dX3_pattern_53 (by decide) ?_
              exact hret _ _ _ _ _ _ hP hS dX3_pattern_54 (⟨hk.1, (show _ = (nI 3) from by simp [esg26, gw_u, upd]).trans (show (nI 3) = kPattern (sg0 0 3) x1 x2 by simp [kPattern, kif, hi1, hi2, eN, hn6]), fun h => absurd ((show _ = (nI 3) from by simp [esg26, gw_u, upd]).symm.trans h) (by decide), fun _ => hk.2, _, rfl⟩)
        · exact absurd hc14 (by decide)
      · refine W.eq (g2 := F0 m 22 ls [.int (nI 0), .ref (ad 0)]) rfl ?_
        refine lv_if_ne (tgt := 29) hx hb dX3_pattern_22 (by decide) (fun hc28 => ?_) (fun hc28 => ?_)
        · exact absurd hc28 (by decide)
        · refine lv_iconst (v := (nI 2)) hx hb dX3_pattern_25 (by decide) ?_
          refine lv_goto (tgt := 43) hx hb dX3_pattern_26 (by decide) ?_
          refine gw_put (C := RX3) (T := TX3) (N := 27) (ty := .int) hx hb hts inwX3 tyX3 tyX3_ok nmX3 hown hK hP hD hS 0 0 rfl rfl rfl (by decide) (hts _ a130) (fun _ h9 => h9) rfl (by decide +kernel) rfl rfl dX3_pattern_43 (fun H locs hP hD hS => ?_)
          obtain ⟨sg29, esg29⟩ : ∃ z : Nat → Nat → Int32, z = gw_u sg0 0 (upd (sg0 0) 0 (nI 2)) := ⟨_, rfl⟩
          rw [← esg29] at hP hD
          have hk : KM sg0 sg29 := by rw [esg29]; exact hk.wf (by decide) (by decide) (by decide) _
          refine lv_aload_n hx hb dX3_pattern_46 rfl (lv_at hl 0 rfl) ?_
          refine gw_geti (C := RX3) (T := TX3) (N := 27) hx hb hts inwX3 hown hK hP 0 0 rfl rfl rfl (by decide) (hts _ a130) (fun _ h9 => h9) dX3_pattern_47 ?_
          refine gw_top (y := (nI 2)) (by simp [esg29, gw_u, upd]) ?_
          refine lv_if_le (tgt := 55) hx hb dX3_pattern_50 (by decide) (fun hc30 => ?_) (fun hc30 => ?_)
          · exact absurd hc30 (by decide)
          · refine lv_iconst (v := (nI 0)) hx hb dX3_pattern_53 (by decide) ?_
            exact hret _ _ _ _ _ _ hP hS dX3_pattern_54 (⟨hk.1, (show _ = (nI 2) from by simp [esg29, gw_u, upd]).trans (show (nI 2) = kPattern (sg0 0 3) x1 x2 by simp [kPattern, kif, hi1, hi2]), fun h => absurd ((show _ = (nI 2) from by simp [esg29, gw_u, upd]).symm.trans h) (by decide), fun _ => hk.2, _, rfl⟩)
    · exact absurd hc7 (by decide)
  · refine W.eq (g2 := F0 m 7 ls [.int (nI 0), .ref (ad 0)]) rfl ?_
    refine lv_if_ne (tgt := 14) hx hb dX3_pattern_7 (by decide) (fun hc31 => ?_) (fun hc31 => ?_)
    · exact absurd hc31 (by decide)
    · refine lv_iconst (v := (nI 1)) hx hb dX3_pattern_10 (by decide) ?_
      refine lv_goto (tgt := 43) hx hb dX3_pattern_11 (by decide) ?_
      refine gw_put (C := RX3) (T := TX3) (N := 27) (ty := .int) hx hb hts inwX3 tyX3 tyX3_ok nmX3 hown hK hP hD hS 0 0 rfl rfl rfl (by decide) (hts _ a130) (fun _ h9 => h9) rfl (by decide +kernel) rfl rfl dX3_pattern_43 (fun H locs hP hD hS => ?_)
      obtain ⟨sg32, esg32⟩ : ∃ z : Nat → Nat → Int32, z = gw_u sg0 0 (upd (sg0 0) 0 (nI 1)) := ⟨_, rfl⟩
      rw [← esg32] at hP hD
      have hk : KM sg0 sg32 := by rw [esg32]; exact hk.wf (by decide) (by decide) (by decide) _
      refine lv_aload_n hx hb dX3_pattern_46 rfl (lv_at hl 0 rfl) ?_
      refine gw_geti (C := RX3) (T := TX3) (N := 27) hx hb hts inwX3 hown hK hP 0 0 rfl rfl rfl (by decide) (hts _ a130) (fun _ h9 => h9) dX3_pattern_47 ?_
      refine gw_top (y := (nI 1)) (by simp [esg32, gw_u, upd]) ?_
      refine lv_if_le (tgt := 55) hx hb dX3_pattern_50 (by decide) (fun hc33 => ?_) (fun hc33 => ?_)
      · exact absurd hc33 (by decide)
      · refine lv_iconst (v := (nI 0)) hx hb dX3_pattern_53 (by decide) ?_
        exact hret _ _ _ _ _ _ hP hS dX3_pattern_54 (⟨hk.1, (show _ = (nI 1) from by simp [esg32, gw_u, upd]).trans (show (nI 1) = kPattern (sg0 0 3) x1 x2 by simp [kPattern, kif, hi1]), fun h => absurd ((show _ = (nI 1) from by simp [esg32, gw_u, upd]).symm.trans h) (by decide), fun _ => hk.2, _, rfl⟩)
