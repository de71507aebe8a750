abbrev rmf_X3_isIn : Room := { frames := 0, cells := 0, slots := 0, locals := 0 }
set_option maxRecDepth 100000 in
set_option maxHeartbeats 4000000 in
theorem m_f_X3_isIn (l : Launch) (hl9 : l.stackTraces = false) (D : va_G) (cI : ClassId) (cJ : ClassId × ClassId) (ad : Nat → Nat) (sg0 : Nat → Nat → Int32) (sz : Nat) (x0 : Int32) (x1 : Int32) (x2 : Int32) : gc_M l yX3_isIn wsX3_isIn rmf_X3_isIn D vwCl (tyS cI cJ) cI cJ gxT gxN SE [.int x0, .int x1, .int x2] ad sg0 sz 0 0 (fun v sg2 => (v = some (.int (nI 1)) ∧ inR x0 x1 x2) ∨ (v = some (.int (nI 0)) ∧ ¬ inR x0 x1 x2)) := by
  refine gc_Mz_of (cc := cX3_isIn) (maxL := 3) (by decide) rfl (Nat.le_of_ble_eq_true rfl) ?_
  intro p e s m below meth c A ls Q hin hE hret
  obtain ⟨⟨hx, hb, hml, hown, hts⟩, -, hlocks, -, hA, hP, hK, hD, hS, hl⟩ := hin
  have hts : ∀ w ∈ wsAll, w.before ([.int x0, .int x1, .int x2] : List Value).toArray s = true := fun w h => hts w (List.mem_cons_of_mem _ h)
  have hl : lv_has ls 3 [(0, .int x0), (1, .int x1), (2, .int x2)] := hl
  refine lv_iload_n hx hb dX3_isIn_0 rfl (lv_at hl 0 rfl) ?_
  refine lv_iload_n hx hb dX3_isIn_1 rfl (lv_at hl 1 rfl) ?_
  refine lv_icmp_lt (tgt := 14) hx hb dX3_isIn_2 (by decide) (fun h1 => ?_) (fun h1 => ?_)
  · refine lv_iconst (v := (nI 0)) hx hb dX3_isIn_14 (by decide) ?_
    exact hret _ _ _ _ _ _ hP hS dX3_isIn_15 rfl (Or.inr ⟨rfl, by first | exact fun q => q.1 h1 | exact fun q => q.2 h6⟩)
  · refine lv_iload_n hx hb dX3_isIn_5 rfl (lv_at hl 0 rfl) ?_
    refine lv_iload_n hx hb dX3_isIn_6 rfl (lv_at hl 2 rfl) ?_
    refine lv_icmp_gt (tgt := 14) hx hb dX3_isIn_7 (by decide) (fun h6 => ?_) (fun h6 => ?_)
    · refine lv_iconst (v := (nI 0)) hx hb dX3_isIn_14 (by decide) ?_
      exact hret _ _ _ _ _ _ hP hS dX3_isIn_15 rfl (Or.inr ⟨rfl, by first | exact fun q => q.1 h1 | exact fun q => q.2 h6⟩)
    · refine lv_iconst (v := (nI 1)) hx hb dX3_isIn_10 (by decide) ?_
      refine lv_goto (tgt := 15) hx hb dX3_isIn_11 (by decide) ?_
      exact hret _ _ _ _ _ _ hP hS dX3_isIn_15 rfl (Or.inl ⟨rfl, h1, h6⟩)
abbrev rmf_X3_thrown : Room := { frames := 0, cells := 0, slots := 0, locals := 0 }
set_option maxRecDepth 100000 in
set_option maxHeartbeats 4000000 in
theorem m_f_X3_thrown (l : Launch) (hl9 : l.stackTraces = false) (D : va_G) (cI : ClassId) (cJ : ClassId × ClassId) (ad : Nat → Nat) (sg0 : Nat → Nat → Int32) (sz : Nat) : gc_M l yX3_thrown wsX3_thrown rmf_X3_thrown D vwCl (tyS cI cJ) cI cJ gxT gxN SM [.ref (ad 0)] ad sg0 sz 0 0 (fun v sg2 => v = some (.int (sg0 0 0)) ∧ sg2 = sg0) := by
  refine gc_Mi_of (cc := cX3_thrown) (maxL := 1) (by decide) rfl (Nat.le_of_ble_eq_true rfl) ?_
  intro p e s m below meth c A ls Q hin hE hret
  obtain ⟨⟨hx, hb, hml, hown, hts⟩, -, hlocks, -, hA, hP, hK, hD, hS, hl⟩ := hin
  have hts : ∀ w ∈ wsAll, w.before ([.ref (ad 0)] : List Value).toArray s = true := fun w h => hts w (List.mem_cons_of_mem _ h)
  have hl : lv_has ls 1 [(0, .ref (ad 0))] := hl
  refine lv_aload_n hx hb dX3_thrown_0 rfl (lv_at hl 0 rfl) ?_
  refine gw_geti (C := RX3) (T := TX3) (N := 27) hx hb hts inwX3 hown hK hP 0 0 rfl rfl rfl (by decide) (hts _ a130) (fun _ h9 => h9) dX3_thrown_1 ?_
  exact hret _ _ _ _ _ _ hP hS dX3_thrown_4 (⟨rfl, rfl⟩)
abbrev rmf_X3_forget : Room := { frames := 0, cells := 0, slots := 0, locals := 0 }
set_option maxRecDepth 100000 in
set_option maxHeartbeats 4000000 in
theorem m_f_X3_forget (l : Launch) (hl9 : l.stackTraces = false) (D : va_G) (cI : ClassId) (cJ : ClassId × ClassId) (ad : Nat → Nat) (sg0 : Nat → Nat → Int32) (sz : Nat) (T : TS) (hM : EM T sg0) : gc_M l yX3_forget wsX3_forget rmf_X3_forget D vwCl (tyS cI cJ) cI cJ gxT gxN SM [.ref (ad 0)] ad sg0 sz 0 0 (fun v sg2 => v = none ∧ EM (sFo T false) sg2 ∧ ∀ j : Nat, j ≠ 15 → j ≠ 16 → sg2 0 j = sg0 0 j) := by
  refine gc_Mv_of (cc := cX3_forget) (maxL := 1) (by decide) rfl (Nat.le_of_ble_eq_true rfl) ?_
  intro p e s m below meth c A ls Q hin hE hret
  obtain ⟨⟨hx, hb, hml, hown, hts⟩, -, hlocks, -, hA, hP, hK, hD, hS, hl⟩ := hin
  have hts : ∀ w ∈ wsAll, w.before ([.ref (ad 0)] : List Value).toArray s = true := fun w h => hts w (List.mem_cons_of_mem _ h)
  have hl : lv_has ls 1 [(0, .ref (ad 0))] := hl
  have hk := hM
  refine lv_aload_n hx hb dX3_forget_0 rfl (lv_at hl 0 rfl) ?_
  refine lv_iconst (v := (nI 0)) hx hb dX3_forget_1 (by decide) ?_
  refine gw_put (C := RX3) (T := TX3) (N := 27) (ty := .boolean) hx hb hts inwX3 tyX3 tyX3_ok nmX3 hown hK hP hD hS 0 15 rfl rfl rfl (by decide) (hts _ a131) (fun _ h9 => h9) rfl (by decide +kernel) rfl rfl dX3_forget_2 (fun H locs hP hD hS => ?_)
  obtain ⟨sg1, esg1⟩ : ∃ z : Nat → Nat → Int32, z = gw_u sg0 0 (upd (sg0 0) 15 (nI 0)) := ⟨_, rfl⟩
  rw [← esg1] at hP hD
  have hk : EM (T) sg1 := by rw [esg1]; exact mw_sea hk
  refine lv_aload_n hx hb dX3_forget_5 rfl (lv_at hl 0 rfl) ?_
  refine lv_iconst (v := (nI 0)) hx hb dX3_forget_6 (by decide) ?_
  refine gw_put (C := RX3) (T := TX3) (N := 27) (ty := .boolean) hx hb hts inwX3 tyX3 tyX3_ok nmX3 hown hK hP hD hS 0 16 rfl rfl rfl (by decide) (hts _ a132) (fun _ h9 => h9) rfl (by decide +kernel) rfl rfl dX3_forget_7 (fun H locs hP hD hS => ?_)
  obtain ⟨sg2, esg2⟩ : ∃ z : Nat → Nat → Int32, z = gw_u sg1 0 (upd (sg1 0) 16 (nI 0)) := ⟨_, rfl⟩
  rw [← esg2] at hP hD
  have hk : EM (sFo (T) false) sg2 := by rw [esg2]; exact mw_fo hk
  exact hret _ _ _ _ _ hP hS dX3_forget_10 (⟨rfl, hk, fun j h1 h2 => by simp [esg2, esg1, gw_u, upd, h1, h2]⟩)
abbrev rmf_X3_logs : Room := { frames := 1, cells := 0, slots := 0, locals := 22 }
set_option maxRecDepth 100000 in
set_option maxHeartbeats 4000000 in
theorem m_f_X3_logs (l : Launch) (hl9 : l.stackTraces = false) (D : va_G) (cI : ClassId) (cJ : ClassId × ClassId) (ad : Nat → Nat) (sg0 : Nat → Nat → Int32) (sz : Nat) (x1 : Int32) (x2 : Int32) (x3 : Int32) (T : TS) (hT : TOk T) (hM : EM T sg0) : gc_M l yX3_logs wsX3_logs rmf_X3_logs D vwCl (tyS cI cJ) cI cJ gxT gxN SM [.ref (ad 0), .int x1, .int x2, .int x3] ad sg0 sz 0 0 (fun v sg2 => EM (uT (kLogs x1 x2 x3) (tLogs T x1 x2 x3) T) sg2 ∧ sg2 0 0 = kLogs x1 x2 x3 ∧ v = none) := by
  refine gc_Mv_of (cc := cX3_logs) (maxL := 4) (by decide) rfl (Nat.le_of_ble_eq_true rfl) ?_
  intro p e s m below meth c A ls Q hin hE hret
  obtain ⟨⟨hx, hb, hml, hown, hts⟩, -, hlocks, -, hA, hP, hK, hD, hS, hl⟩ := hin
  have hts : ∀ w ∈ wsAll, w.before ([.ref (ad 0), .int x1, .int x2, .int x3] : List Value).toArray s = true := fun w h => hts w (List.mem_cons_of_mem _ h)
  have hl : lv_has ls 4 [(0, .ref (ad 0)), (1, .int x1), (2, .int x2), (3, .int x3)] := hl
  have hk := hM
  have hN6 := hM.1.1.1
  refine lv_aload_n hx hb dX3_logs_0 rfl (lv_at hl 0 rfl) ?_
  refine lv_iload_n hx hb dX3_logs_1 rfl (lv_at hl 1 rfl) ?_
  refine lv_iconst (v := (nI 0)) hx hb dX3_logs_2 (by decide) ?_
  refine lv_iconst (v := (nI 3)) hx hb dX3_logs_3 (by decide) ?_
  refine gc_go (pl := []) (S2 := SE) (ad := ad) (sg := sg0) (va_runS (As := [.int x1, .int (nI 0), .int (nI 3)]) (rest := [.ref (ad 0)]) ⟨hx, hb, hml, hown, hts⟩ (m_f_X3_isIn l hl9 D cI cJ (fun j => ad (gw_p [] j)) (fun j => sg0 (gw_p [] j)) _ x1 (nI 0) (nI 3) ) (cwS 3 hts (gwS a133 a134 a135 a136) rfl rfl rfl (by decide +kernel) ⟨by decide, by decide⟩) (gc_preS hK hP hD hS hA hE rfl) rfl rfl hl.1 rfl (lv_room (Nat.le_of_ble_eq_true rfl)) dX3_logs_4 ⟨by decide, by decide⟩) hP hD hS hA rfl (fun v1 sp2 sg3 H locs hp4 ha5 hb6 hP hD hS => ?_)
  rw [show sg3 = sg0 from funext (fun k => hb6 k (by simp))] at hP hD
  rcases hp4 with ⟨rfl, hi1⟩ | ⟨rfl, hi1⟩
  · refine W.eq (g2 := F0 m 7 ls [.int (nI 1), .ref (ad 0)]) rfl ?_
    refine lv_if_ne (tgt := 14) hx hb dX3_logs_7 (by decide) (fun hc7 => ?_) (fun hc7 => ?_)
    · refine lv_iload_n hx hb dX3_logs_14 rfl (lv_at hl 2 rfl) ?_
      refine lv_iconst (v := (nI 0)) hx hb dX3_logs_15 (by decide) ?_
      refine lv_sipush (v := (nI 1000)) hx hb dX3_logs_16 (by decide) ?_
      refine gc_go (pl := []) (S2 := SE) (ad := ad) (sg := sg0) (va_runS (As := [.int x2, .int (nI 0), .int (nI 1000)]) (rest := [.ref (ad 0)]) ⟨hx, hb, hml, hown, hts⟩ (m_f_X3_isIn l hl9 D cI cJ (fun j => ad (gw_p [] j)) (fun j => sg0 (gw_p [] j)) _ x2 (nI 0) (nI 1000) ) (cwS 3 hts (gwS a133 a134 a135 a136) rfl rfl rfl (by decide +kernel) ⟨by decide, by decide⟩) (gc_preS hK hP hD hS hA hE rfl) rfl rfl hl.1 rfl (lv_room (Nat.le_of_ble_eq_true rfl)) dX3_logs_19 ⟨by decide, by decide⟩) hP hD hS hA rfl (fun v8 sp9 sg10 H locs hp11 ha12 hb13 hP hD hS => ?_)
      rw [show sg10 = sg0 from funext (fun k => hb13 k (by simp))] at hP hD
      rcases hp11 with ⟨rfl, hi2⟩ | ⟨rfl, hi2⟩
      · refine W.eq (g2 := F0 m 22 ls [.int (nI 1), .ref (ad 0)]) rfl ?_
        refine lv_if_eq (tgt := 35) hx hb dX3_logs_22 (by decide) (fun hc14 => ?_) (fun hc14 => ?_)
        · exact absurd hc14 (by decide)
        · refine lv_iload_n hx hb dX3_logs_25 rfl (lv_at hl 3 rfl) ?_
          refine lv_iconst (v := (nI 0)) hx hb dX3_logs_26 (by decide) ?_
          refine lv_ldc (v := (nI 100000)) hx hb hown (hts _ a137) dX3_logs_27 ?_
          refine gc_go (pl := []) (S2 := SE) (ad := ad) (sg := sg0) (va_runS (As := [.int x3, .int (nI 0), .int (nI 100000)]) (rest := [.ref (ad 0)]) ⟨hx, hb, hml, hown, hts⟩ (m_f_X3_isIn l hl9 D cI cJ (fun j => ad (gw_p [] j)) (fun j => sg0 (gw_p [] j)) _ x3 (nI 0) (nI 100000) ) (cwS 3 hts (gwS a133 a134 a135 a136) rfl rfl rfl (by decide +kernel) ⟨by decide, by decide⟩) (gc_preS hK hP hD hS hA hE rfl) rfl rfl hl.1 rfl (lv_room (Nat.le_of_ble_eq_true rfl)) dX3_logs_29 ⟨by decide, by decide⟩) hP hD hS hA rfl (fun v15 sp16 sg17 H locs hp18 ha19 hb20 hP hD hS => ?_)
          rw [show sg17 = sg0 from funext (fun k => hb20 k (by simp))] at hP hD
          rcases hp18 with ⟨rfl, hi3⟩ | ⟨rfl, hi3⟩
          · refine W.eq (g2 := F0 m 32 ls [.int (nI 1), .ref (ad 0)]) rfl ?_
            refine lv_if_ne (tgt := 39) hx hb dX3_logs_32 (by decide) (fun hc21 => ?_) (fun hc21 => ?_)
            · refine lv_iconst (v := (nI 0)) hx hb dX3_logs_39 (by decide) ?_
              refine gw_put (C := RX3) (T := TX3) (N := 27) (ty := .int) hx hb hts inwX3 tyX3 tyX3_ok nmX3 hown hK hP hD hS 0 0 rfl rfl rfl (by decide) (hts _ a130) (fun _ h9 => h9) rfl (by decide +kernel) rfl rfl dX3_logs_40 (fun H locs hP hD hS => ?_)
              obtain ⟨sg22, esg22⟩ : ∃ z : Nat → Nat → Int32, z = gw_u sg0 0 (upd (sg0 0) 0 (nI 0)) := ⟨_, rfl⟩
              rw [← esg22] at hP hD
              have hk : EM (T) sg22 := by rw [esg22]; exact mw_code hk
              have hcd : sg22 0 0 = (nI 0) := by rw [esg22]; exact m_upd_s _ _ _
              refine lv_aload_n hx hb dX3_logs_43 rfl (lv_at hl 0 rfl) ?_
              refine gw_geti (C := RX3) (T := TX3) (N := 27) hx hb hts inwX3 hown hK hP 0 0 rfl rfl rfl (by decide) (hts _ a130) (fun _ h9 => h9) dX3_logs_44 ?_
              refine gw_top (y := (nI 0)) (hcd) ?_
              refine lv_if_ne (tgt := 68) hx hb dX3_logs_47 (by decide) (fun hc23 => ?_) (fun hc23 => ?_)
              · exact absurd hc23 (by decide)
              · have hk9 : kLogs x1 x2 x3 = nI 0 := by simp [kLogs, kif, hi1, hi2, hi3]
                obtain ⟨j1, hj1, rfl⟩ := inof3 hi1
                have hnj1 : nt (nI j1) = j1 := nt_nI (by omega)
                obtain ⟨j2, hj2, rfl⟩ := in_nat (n := 1000) (by decide) hi2
                have hnj2 : nt (nI j2) = j2 := nt_nI (by omega)
                refine lv_aload_n hx hb dX3_logs_50 rfl (lv_at hl 0 rfl) ?_
                refine gw_getr (C := RX3) (T := TX3) (N := 27) hx hb hts inwX3 hown hK hP 0 1 1 rfl rfl rfl (by decide) (hts _ a138) (fun _ h9 => h9) dX3_logs_51 ?_
                refine lv_iload_n hx hb dX3_logs_54 rfl (lv_at hl 1 rfl) ?_
                refine lv_iload_n hx hb dX3_logs_55 rfl (lv_at hl 2 rfl) ?_
                refine gw_ast hx hb hK hP hD hS 1 0 (n := 4) rfl rfl (i := j1) (by omega) (by decide) dX3_logs_56 (fun H locs hP hD hS => ?_)
                obtain ⟨sg24, esg24⟩ : ∃ z : Nat → Nat → Int32, z = gw_u sg22 1 (upd (sg22 1) j1 (nI j2)) := ⟨_, rfl⟩
                rw [← esg24] at hP hD
                have hk : EM (sLg (T) j1 j2) sg24 := by rw [esg24]; exact mw_Lg hk (by omega)
                have hcd : sg24 0 0 = (nI 0) := by rw [esg24, gw_u_n _ _ (by decide)]; exact hcd
                refine lv_aload_n hx hb dX3_logs_57 rfl (lv_at hl 0 rfl) ?_
                refine gw_getr (C := RX3) (T := TX3) (N := 27) hx hb hts inwX3 hown hK hP 0 2 2 rfl rfl rfl (by decide) (hts _ a139) (fun _ h9 => h9) dX3_logs_58 ?_
                refine lv_iload_n hx hb dX3_logs_61 rfl (lv_at hl 1 rfl) ?_
                refine lv_iload_n hx hb dX3_logs_62 rfl (lv_at hl 3 rfl) ?_
                refine gw_ast hx hb hK hP hD hS 2 0 (n := 4) rfl rfl (i := j1) (by omega) (by decide) dX3_logs_63 (fun H locs hP hD hS => ?_)
                obtain ⟨sg25, esg25⟩ : ∃ z : Nat → Nat → Int32, z = gw_u sg24 2 (upd (sg24 2) j1 x3) := ⟨_, rfl⟩
                rw [← esg25] at hP hD
                have hk : EM (sCt (sLg (T) j1 j2) j1 x3) sg25 := by rw [esg25]; exact mw_Ct hk
                have hcd : sg25 0 0 = (nI 0) := by rw [esg25, gw_u_n _ _ (by decide)]; exact hcd
                refine lv_aload_n hx hb dX3_logs_64 rfl (lv_at hl 0 rfl) ?_
                refine gc_go0 (va_runV (As := []) (rest := []) ⟨hx, hb, hml, hown, hts⟩ (m_f_X3_forget l hl9 D cI cJ ad sg25 _  (sCt (sLg (T) j1 j2) j1 x3) hk) (cwV 0 hts (gwV a140 a141 a142 a135 a143) rfl rfl rfl (by decide +kernel) ⟨by decide, by decide⟩) (gc_preV0 hK hP hD hS hA hE rfl rfl rfl) rfl rfl hl.1 rfl (lv_room (Nat.le_of_ble_eq_true rfl)) dX3_logs_65 ⟨by decide, by decide⟩) hD hS hA (fun v26 sg28 H locs hp29 hP hD hS => ?_)
                obtain ⟨rfl, hk8, hq7⟩ := hp29
                have hk := hk8
                have hcd : sg28 0 0 = (nI 0) := (hq7 0 (by decide) (by decide)).trans hcd
                refine W.eq (g2 := F0 m 68 ls []) rfl ?_
                exact hret _ _ _ _ _ hP hS dX3_logs_68 (⟨by rw [uT_t hk9]; unfold tLogs; rw [hnj1, hnj2]; exact hk, hcd.trans hk9.symm, rfl⟩)
            · exact absurd hc21 (by decide)
          · refine W.eq (g2 := F0 m 32 ls [.int (nI 0), .ref (ad 0)]) rfl ?_
            refine lv_if_ne (tgt := 39) hx hb dX3_logs_32 (by decide) (fun hc32 => ?_) (fun hc32 => ?_)
            · exact absurd hc32 (by decide)
            · refine lv_iconst (v := (nI 2)) hx hb dX3_logs_35 (by decide) ?_
              refine lv_goto (tgt := 40) hx hb dX3_logs_36 (by decide) ?_
              refine gw_put (C := RX3) (T := TX3) (N := 27) (ty := .int) hx hb hts inwX3 tyX3 tyX3_ok nmX3 hown hK hP hD hS 0 0 rfl rfl rfl (by decide) (hts _ a130) (fun _ h9 => h9) rfl (by decide +kernel) rfl rfl dX3_logs_40 (fun H locs hP hD hS => ?_)
              obtain ⟨sg33, esg33⟩ : ∃ z : Nat → Nat → Int32, z = gw_u sg0 0 (upd (sg0 0) 0 (nI 2)) := ⟨_, rfl⟩
              rw [← esg33] at hP hD
              have hk : EM (T) sg33 := by rw [esg33]; exact mw_code hk
              have hcd : sg33 0 0 = (nI 2) := by rw [esg33]; exact m_upd_s _ _ _
              refine lv_aload_n hx hb dX3_logs_43 rfl (lv_at hl 0 rfl) ?_
              refine gw_geti (C := RX3) (T := TX3) (N := 27) hx hb hts inwX3 hown hK hP 0 0 rfl rfl rfl (by decide) (hts _ a130) (fun _ h9 => h9) dX3_logs_44 ?_
              refine gw_top (y := (nI 2)) (hcd) ?_
              refine lv_if_ne (tgt := 68) hx hb dX3_logs_47 (by decide) (fun hc34 => ?_) (fun hc34 => ?_)
              · have hkv : kLogs x1 x2 x3 = nI 2 := by simp [kLogs, kif, hi1, hi2, hi3]
                exact hret _ _ _ _ _ hP hS dX3_logs_68 (⟨by rw [uT_f (by rw [hkv]; decide)]; exact hk, hcd.trans hkv.symm, rfl⟩)
              · exact absurd hc34 (by decide)
      · refine W.eq (g2 := F0 m 22 ls [.int (nI 0), .ref (ad 0)]) rfl ?_
        refine lv_if_eq (tgt := 35) hx hb dX3_logs_22 (by decide) (fun hc35 => ?_) (fun hc35 => ?_)
        · refine lv_iconst (v := (nI 2)) hx hb dX3_logs_35 (by decide) ?_
          refine lv_goto (tgt := 40) hx hb dX3_logs_36 (by decide) ?_
          refine gw_put (C := RX3) (T := TX3) (N := 27) (ty := .int) hx hb hts inwX3 tyX3 tyX3_ok nmX3 hown hK hP hD hS 0 0 rfl rfl rfl (by decide) (hts _ a130) (fun _ h9 => h9) rfl (by decide +kernel) rfl rfl dX3_logs_40 (fun H locs hP hD hS => ?_)
          obtain ⟨sg36, esg36⟩ : ∃ z : Nat → Nat → Int32, z = gw_u sg0 0 (upd (sg0 0) 0 (nI 2)) := ⟨_, rfl⟩
          rw [← esg36] at hP hD
          have hk : EM (T) sg36 := by rw [esg36]; exact mw_code hk
          have hcd : sg36 0 0 = (nI 2) := by rw [esg36]; exact m_upd_s _ _ _
          refine lv_aload_n hx hb dX3_logs_43 rfl (lv_at hl 0 rfl) ?_
          refine gw_geti (C := RX3) (T := TX3) (N := 27) hx hb hts inwX3 hown hK hP 0 0 rfl rfl rfl (by decide) (hts _ a130) (fun _ h9 => h9) dX3_logs_44 ?_
          refine gw_top (y := (nI 2)) (hcd) ?_
          refine lv_if_ne (tgt := 68) hx hb dX3_logs_47 (by decide) (fun hc37 => ?_) (fun hc37 => ?_)
          · have hkv : kLogs x1 x2 x3 = nI 2 := by simp [kLogs, kif, hi1, hi2]
            exact hret _ _ _ _ _ hP hS dX3_logs_68 (⟨by rw [uT_f (by rw [hkv]; decide)]; exact hk, hcd.trans hkv.symm, rfl⟩)
          · exact absurd hc37 (by decide)
        · exact absurd hc35 (by decide)
    · exact absurd hc7 (by decide)
  · refine W.eq (g2 := F0 m 7 ls [.int (nI 0), .ref (ad 0)]) rfl ?_
    refine lv_if_ne (tgt := 14) hx hb dX3_logs_7 (by decide) (fun hc38 => ?_) (fun hc38 => ?_)
    · exact absurd hc38 (by decide)
    · refine lv_iconst (v := (nI 1)) hx hb dX3_logs_10 (by decide) ?_
      refine lv_goto (tgt := 40) hx hb dX3_logs_11 (by decide) ?_
      refine gw_put (C := RX3) (T := TX3) (N := 27) (ty := .int) hx hb hts inwX3 tyX3 tyX3_ok nmX3 hown hK hP hD hS 0 0 rfl rfl rfl (by decide) (hts _ a130) (fun _ h9 => h9) rfl (by decide +kernel) rfl rfl dX3_logs_40 (fun H locs hP hD hS => ?_)
      obtain ⟨sg39, esg39⟩ : ∃ z : Nat → Nat → Int32, z = gw_u sg0 0 (upd (sg0 0) 0 (nI 1)) := ⟨_, rfl⟩
      rw [← esg39] at hP hD
      have hk : EM (T) sg39 := by rw [esg39]; exact mw_code hk
      have hcd : sg39 0 0 = (nI 1) := by rw [esg39]; exact m_upd_s _ _ _
      refine lv_aload_n hx hb dX3_logs_43 rfl (lv_at hl 0 rfl) ?_
      refine gw_geti (C := RX3) (T := TX3) (N := 27) hx hb hts inwX3 hown hK hP 0 0 rfl rfl rfl (by decide) (hts _ a130) (fun _ h9 => h9) dX3_logs_44 ?_
      refine gw_top (y := (nI 1)) (hcd) ?_
      refine lv_if_ne (tgt := 68) hx hb dX3_logs_47 (by decide) (fun hc40 => ?_) (fun hc40 => ?_)
      · have hkv : kLogs x1 x2 x3 = nI 1 := by simp [kLogs, kif, hi1]
        exact hret _ _ _ _ _ hP hS dX3_logs_68 (⟨by rw [uT_f (by rw [hkv]; decide)]; exact hk, hcd.trans hkv.symm, rfl⟩)
      · exact absurd hc40 (by decide)
abbrev rmf_X3_order : Room := { frames := 1, cells := 0, slots := 0, locals := 22 }
set_option maxRecDepth 100000 in
set_option maxHeartbeats 4000000 in
theorem m_f_X3_order (l : Launch) (hl9 : l.stackTraces = false) (D : va_G) (cI : ClassId) (cJ : ClassId × ClassId) (ad : Nat → Nat) (sg0 : Nat → Nat → Int32) (sz : Nat) (x1 : Int32) (x2 : Int32) (x3 : Int32) (x4 : Int32) (T : TS) (hT : TOk T) (hM : EM T sg0) : gc_M l yX3_order wsX3_order rmf_X3_order D vwCl (tyS cI cJ) cI cJ gxT gxN SM [.ref (ad 0), .int x1, .int x2, .int x3, .int x4] ad sg0 sz 0 0 (fun v sg2 => EM (uT (kOrder x1 x2 x3 x4) (tOrder T x1 x2 x3 x4) T) sg2 ∧ sg2 0 0 = kOrder x1 x2 x3 x4 ∧ v = none) := by
  refine gc_Mv_of (cc := cX3_order) (maxL := 5) (by decide) rfl (Nat.le_of_ble_eq_true rfl) ?_
  intro p e s m below meth c A ls Q hin hE hret
  obtain ⟨⟨hx, hb, hml, hown, hts⟩, -, hlocks, -, hA, hP, hK, hD, hS, hl⟩ := hin
  have hts : ∀ w ∈ wsAll, w.before ([.ref (ad 0), .int x1, .int x2, .int x3, .int x4] : List Value).toArray s = true := fun w h => hts w (List.mem_cons_of_mem _ h)
  have hl : lv_has ls 5 [(0, .ref (ad 0)), (1, .int x1), (2, .int x2), (3, .int x3), (4, .int x4)] := hl
  have hk := hM
  have hN6 := hM.1.1.1
  refine lv_aload_n hx hb dX3_order_0 rfl (lv_at hl 0 rfl) ?_
  refine lv_iload_n hx hb dX3_order_1 rfl (lv_at hl 1 rfl) ?_
  refine lv_iconst (v := (nI 0)) hx hb dX3_order_2 (by decide) ?_
  refine lv_iconst (v := (nI 3)) hx hb dX3_order_3 (by decide) ?_
  refine gc_go (pl := []) (S2 := SE) (ad := ad) (sg := sg0) (va_runS (As := [.int x1, .int (nI 0), .int (nI 3)]) (rest := [.ref (ad 0)]) ⟨hx, hb, hml, hown, hts⟩ (m_f_X3_isIn l hl9 D cI cJ (fun j => ad (gw_p [] j)) (fun j => sg0 (gw_p [] j)) _ x1 (nI 0) (nI 3) ) (cwS 3 hts (gwS a133 a134 a135 a136) rfl rfl rfl (by decide +kernel) ⟨by decide, by decide⟩) (gc_preS hK hP hD hS hA hE rfl) rfl rfl hl.1 rfl (lv_room (Nat.le_of_ble_eq_true rfl)) dX3_order_4 ⟨by decide, by decide⟩) hP hD hS hA rfl (fun v1 sp2 sg3 H locs hp4 ha5 hb6 hP hD hS => ?_)
  rw [show sg3 = sg0 from funext (fun k => hb6 k (by simp))] at hP hD
  rcases hp4 with ⟨rfl, hi1⟩ | ⟨rfl, hi1⟩
  · refine W.eq (g2 := F0 m 7 ls [.int (nI 1), .ref (ad 0)]) rfl ?_
    refine lv_if_ne (tgt := 14) hx hb dX3_order_7 (by decide) (fun hc7 => ?_) (fun hc7 => ?_)
    · refine lv_iload_n hx hb dX3_order_14 rfl (lv_at hl 2 rfl) ?_
      refine lv_iconst (v := (nI 0)) hx hb dX3_order_15 (by decide) ?_
      refine lv_sipush (v := (nI 1000)) hx hb dX3_order_16 (by decide) ?_
      refine gc_go (pl := []) (S2 := SE) (ad := ad) (sg := sg0) (va_runS (As := [.int x2, .int (nI 0), .int (nI 1000)]) (rest := [.ref (ad 0)]) ⟨hx, hb, hml, hown, hts⟩ (m_f_X3_isIn l hl9 D cI cJ (fun j => ad (gw_p [] j)) (fun j => sg0 (gw_p [] j)) _ x2 (nI 0) (nI 1000) ) (cwS 3 hts (gwS a133 a134 a135 a136) rfl rfl rfl (by decide +kernel) ⟨by decide, by decide⟩) (gc_preS hK hP hD hS hA hE rfl) rfl rfl hl.1 rfl (lv_room (Nat.le_of_ble_eq_true rfl)) dX3_order_19 ⟨by decide, by decide⟩) hP hD hS hA rfl (fun v8 sp9 sg10 H locs hp11 ha12 hb13 hP hD hS => ?_)
      rw [show sg10 = sg0 from funext (fun k => hb13 k (by simp))] at hP hD
      rcases hp11 with ⟨rfl, hi2⟩ | ⟨rfl, hi2⟩
      · refine W.eq (g2 := F0 m 22 ls [.int (nI 1), .ref (ad 0)]) rfl ?_
        refine lv_if_eq (tgt := 48) hx hb dX3_order_22 (by decide) (fun hc14 => ?_) (fun hc14 => ?_)
        · exact absurd hc14 (by decide)
        · refine lv_iload_n hx hb dX3_order_25 rfl (lv_at hl 3 rfl) ?_
          refine lv_iload_n hx hb dX3_order_26 rfl (lv_at hl 2 rfl) ?_
          refine lv_sipush (v := (nI 1000)) hx hb dX3_order_27 (by decide) ?_
          refine gc_go (pl := []) (S2 := SE) (ad := ad) (sg := sg0) (va_runS (As := [.int x3, .int x2, .int (nI 1000)]) (rest := [.ref (ad 0)]) ⟨hx, hb, hml, hown, hts⟩ (m_f_X3_isIn l hl9 D cI cJ (fun j => ad (gw_p [] j)) (fun j => sg0 (gw_p [] j)) _ x3 x2 (nI 1000) ) (cwS 3 hts (gwS a133 a134 a135 a136) rfl rfl rfl (by decide +kernel) ⟨by decide, by decide⟩) (gc_preS hK hP hD hS hA hE rfl) rfl rfl hl.1 rfl (lv_room (Nat.le_of_ble_eq_true rfl)) dX3_order_30 ⟨by decide, by decide⟩) hP hD hS hA rfl (fun v15 sp16 sg17 H locs hp18 ha19 hb20 hP hD hS => ?_)
          rw [show sg17 = sg0 from funext (fun k => hb20 k (by simp))] at hP hD
          rcases hp18 with ⟨rfl, hi3⟩ | ⟨rfl, hi3⟩
          · refine W.eq (g2 := F0 m 33 ls [.int (nI 1), .ref (ad 0)]) rfl ?_
            refine lv_if_eq (tgt := 48) hx hb dX3_order_33 (by decide) (fun hc21 => ?_) (fun hc21 => ?_)
            · exact absurd hc21 (by decide)
            · refine lv_iload hx hb dX3_order_36 (lv_at hl 4 rfl) ?_
              refine lv_iconst (v := (nI 0)) hx hb dX3_order_38 (by decide) ?_
              refine lv_sipush (v := (nI 1000)) hx hb dX3_order_39 (by decide) ?_
              refine gc_go (pl := []) (S2 := SE) (ad := ad) (sg := sg0) (va_runS (As := [.int x4, .int (nI 0), .int (nI 1000)]) (rest := [.ref (ad 0)]) ⟨hx, hb, hml, hown, hts⟩ (m_f_X3_isIn l hl9 D cI cJ (fun j => ad (gw_p [] j)) (fun j => sg0 (gw_p [] j)) _ x4 (nI 0) (nI 1000) ) (cwS 3 hts (gwS a133 a134 a135 a136) rfl rfl rfl (by decide +kernel) ⟨by decide, by decide⟩) (gc_preS hK hP hD hS hA hE rfl) rfl rfl hl.1 rfl (lv_room (Nat.le_of_ble_eq_true rfl)) dX3_order_42 ⟨by decide, by decide⟩) hP hD hS hA rfl (fun v22 sp23 sg24 H locs hp25 ha26 hb27 hP hD hS => ?_)
              rw [show sg24 = sg0 from funext (fun k => hb27 k (by simp))] at hP hD
              rcases hp25 with ⟨rfl, hi4⟩ | ⟨rfl, hi4⟩
              · refine W.eq (g2 := F0 m 45 ls [.int (nI 1), .ref (ad 0)]) rfl ?_
                refine lv_if_ne (tgt := 52) hx hb dX3_order_45 (by decide) (fun hc28 => ?_) (fun hc28 => ?_)
                · refine lv_iconst (v := (nI 0)) hx hb dX3_order_52 (by decide) ?_
                  refine gw_put (C := RX3) (T := TX3) (N := 27) (ty := .int) hx hb hts inwX3 tyX3 tyX3_ok nmX3 hown hK hP hD hS 0 0 rfl rfl rfl (by decide) (hts _ a130) (fun _ h9 => h9) rfl (by decide +kernel) rfl rfl dX3_order_53 (fun H locs hP hD hS => ?_)
                  obtain ⟨sg29, esg29⟩ : ∃ z : Nat → Nat → Int32, z = gw_u sg0 0 (upd (sg0 0) 0 (nI 0)) := ⟨_, rfl⟩
                  rw [← esg29] at hP hD
                  have hk : EM (T) sg29 := by rw [esg29]; exact mw_code hk
                  have hcd : sg29 0 0 = (nI 0) := by rw [esg29]; exact m_upd_s _ _ _
                  refine lv_aload_n hx hb dX3_order_56 rfl (lv_at hl 0 rfl) ?_
                  refine gw_geti (C := RX3) (T := TX3) (N := 27) hx hb hts inwX3 hown hK hP 0 0 rfl rfl rfl (by decide) (hts _ a130) (fun _ h9 => h9) dX3_order_57 ?_
                  refine gw_top (y := (nI 0)) (hcd) ?_
                  refine lv_if_ne (tgt := 89) hx hb dX3_order_60 (by decide) (fun hc30 => ?_) (fun hc30 => ?_)
                  · exact absurd hc30 (by decide)
                  · have hk9 : kOrder x1 x2 x3 x4 = nI 0 := by simp [kOrder, kif, hi1, hi2, hi3, hi4]
                    obtain ⟨j1, hj1, rfl⟩ := inof3 hi1
                    have hnj1 : nt (nI j1) = j1 := nt_nI (by omega)
                    refine lv_aload_n hx hb dX3_order_63 rfl (lv_at hl 0 rfl) ?_
                    refine gw_getr (C := RX3) (T := TX3) (N := 27) hx hb hts inwX3 hown hK hP 0 7 6 rfl rfl rfl (by decide) (hts _ a144) (fun _ h9 => h9) dX3_order_64 ?_
                    refine lv_iload_n hx hb dX3_order_67 rfl (lv_at hl 1 rfl) ?_
                    refine lv_iload_n hx hb dX3_order_68 rfl (lv_at hl 2 rfl) ?_
                    refine gw_ast hx hb hK hP hD hS 6 0 (n := 4) rfl rfl (i := j1) (by omega) (by decide) dX3_order_69 (fun H locs hP hD hS => ?_)
                    obtain ⟨sg31, esg31⟩ : ∃ z : Nat → Nat → Int32, z = gw_u sg29 6 (upd (sg29 6) j1 x2) := ⟨_, rfl⟩
                    rw [← esg31] at hP hD
                    have hk : EM (sLs (T) j1 x2) sg31 := by rw [esg31]; exact mw_Ls hk
                    have hcd : sg31 0 0 = (nI 0) := by rw [esg31, gw_u_n _ _ (by decide)]; exact hcd
                    refine lv_aload_n hx hb dX3_order_70 rfl (lv_at hl 0 rfl) ?_
                    refine gw_getr (C := RX3) (T := TX3) (N := 27) hx hb hts inwX3 hown hK hP 0 8 7 rfl rfl rfl (by decide) (hts _ a145) (fun _ h9 => h9) dX3_order_71 ?_
                    refine lv_iload_n hx hb dX3_order_74 rfl (lv_at hl 1 rfl) ?_
                    refine lv_iload_n hx hb dX3_order_75 rfl (lv_at hl 3 rfl) ?_
                    refine gw_ast hx hb hK hP hD hS 7 0 (n := 4) rfl rfl (i := j1) (by omega) (by decide) dX3_order_76 (fun H locs hP hD hS => ?_)
                    obtain ⟨sg32, esg32⟩ : ∃ z : Nat → Nat → Int32, z = gw_u sg31 7 (upd (sg31 7) j1 x3) := ⟨_, rfl⟩
                    rw [← esg32] at hP hD
                    have hk : EM (sMs (sLs (T) j1 x2) j1 x3) sg32 := by rw [esg32]; exact mw_Ms hk
                    have hcd : sg32 0 0 = (nI 0) := by rw [esg32, gw_u_n _ _ (by decide)]; exact hcd
                    refine lv_aload_n hx hb dX3_order_77 rfl (lv_at hl 0 rfl) ?_
                    refine gw_getr (C := RX3) (T := TX3) (N := 27) hx hb hts inwX3 hown hK hP 0 9 8 rfl rfl rfl (by decide) (hts _ a146) (fun _ h9 => h9) dX3_order_78 ?_
                    refine lv_iload_n hx hb dX3_order_81 rfl (lv_at hl 1 rfl) ?_
                    refine lv_iload hx hb dX3_order_82 (lv_at hl 4 rfl) ?_
                    refine gw_ast hx hb hK hP hD hS 8 0 (n := 4) rfl rfl (i := j1) (by omega) (by decide) dX3_order_84 (fun H locs hP hD hS => ?_)
                    obtain ⟨sg33, esg33⟩ : ∃ z : Nat → Nat → Int32, z = gw_u sg32 8 (upd (sg32 8) j1 x4) := ⟨_, rfl⟩
                    rw [← esg33] at hP hD
                    have hk : EM (sWo (sMs (sLs (T) j1 x2) j1 x3) j1 x4) sg33 := by rw [esg33]; exact mw_Wo hk
                    have hcd : sg33 0 0 = (nI 0) := by rw [esg33, gw_u_n _ _ (by decide)]; exact hcd
                    refine lv_aload_n hx hb dX3_order_85 rfl (lv_at hl 0 rfl) ?_
                    refine gc_go0 (va_runV (As := []) (rest := []) ⟨hx, hb, hml, hown, hts⟩ (m_f_X3_forget l hl9 D cI cJ ad sg33 _  (sWo (sMs (sLs (T) j1 x2) j1 x3) j1 x4) hk) (cwV 0 hts (gwV a140 a141 a142 a135 a143) rfl rfl rfl (by decide +kernel) ⟨by decide, by decide⟩) (gc_preV0 hK hP hD hS hA hE rfl rfl rfl) rfl rfl hl.1 rfl (lv_room (Nat.le_of_ble_eq_true rfl)) dX3_order_86 ⟨by decide, by decide⟩) hD hS hA (fun v34 sg36 H locs hp37 hP hD hS => ?_)
                    obtain ⟨rfl, hk8, hq7⟩ := hp37
                    have hk := hk8
                    have hcd : sg36 0 0 = (nI 0) := (hq7 0 (by decide) (by decide)).trans hcd
                    refine W.eq (g2 := F0 m 89 ls []) rfl ?_
                    exact hret _ _ _ _ _ hP hS dX3_order_89 (⟨by rw [uT_t hk9]; unfold tOrder; rw [hnj1]; exact hk, hcd.trans hk9.symm, rfl⟩)
                · exact absurd hc28 (by decide)
              · refine W.eq (g2 := F0 m 45 ls [.int (nI 0), .ref (ad 0)]) rfl ?_
                refine lv_if_ne (tgt := 52) hx hb dX3_order_45 (by decide) (fun hc40 => ?_) (fun hc40 => ?_)
                · exact absurd hc40 (by decide)
                · refine lv_iconst (v := (nI 2)) hx hb dX3_order_48 (by decide) ?_
                  refine lv_goto (tgt := 53) hx hb dX3_order_49 (by decide) ?_
                  refine gw_put (C := RX3) (T := TX3) (N := 27) (ty := .int) hx hb hts inwX3 tyX3 tyX3_ok nmX3 hown hK hP hD hS 0 0 rfl rfl rfl (by decide) (hts _ a130) (fun _ h9 => h9) rfl (by decide +kernel) rfl rfl dX3_order_53 (fun H locs hP hD hS => ?_)
                  obtain ⟨sg41, esg41⟩ : ∃ z : Nat → Nat → Int32, z = gw_u sg0 0 (upd (sg0 0) 0 (nI 2)) := ⟨_, rfl⟩
                  rw [← esg41] at hP hD
                  have hk : EM (T) sg41 := by rw [esg41]; exact mw_code hk
                  have hcd : sg41 0 0 = (nI 2) := by rw [esg41]; exact m_upd_s _ _ _
                  refine lv_aload_n hx hb dX3_order_56 rfl (lv_at hl 0 rfl) ?_
                  refine gw_geti (C := RX3) (T := TX3) (N := 27) hx hb hts inwX3 hown hK hP 0 0 rfl rfl rfl (by decide) (hts _ a130) (fun _ h9 => h9) dX3_order_57 ?_
                  refine gw_top (y := (nI 2)) (hcd) ?_
                  refine lv_if_ne (tgt := 89) hx hb dX3_order_60 (by decide) (fun hc42 => ?_) (fun hc42 => ?_)
                  · have hkv : kOrder x1 x2 x3 x4 = nI 2 := by simp [kOrder, kif, hi1, hi2, hi3, hi4]
                    exact hret _ _ _ _ _ hP hS dX3_order_89 (⟨by rw [uT_f (by rw [hkv]; decide)]; exact hk, hcd.trans hkv.symm, rfl⟩)
                  · exact absurd hc42 (by decide)
          · refine W.eq (g2 := F0 m 33 ls [.int (nI 0), .ref (ad 0)]) rfl ?_
            refine lv_if_eq (tgt := 48) hx hb dX3_order_33 (by decide) (fun hc43 => ?_) (fun hc43 => ?_)
            · refine lv_iconst (v := (nI 2)) hx hb dX3_order_48 (by decide) ?_
              refine lv_goto (tgt := 53) hx hb dX3_order_49 (by decide) ?_
              refine gw_put (C := RX3) (T := TX3) (N := 27) (ty := .int) hx hb hts inwX3 tyX3 tyX3_ok nmX3 hown hK hP hD hS 0 0 rfl rfl rfl (by decide) (hts _ a130) (fun _ h9 => h9) rfl (by decide +kernel) rfl rfl dX3_order_53 (fun H locs hP hD hS => ?_)
              obtain ⟨sg44, esg44⟩ : ∃ z : Nat → Nat → Int32, z = gw_u sg0 0 (upd (sg0 0) 0 (nI 2)) := ⟨_, rfl⟩
              rw [← esg44] at hP hD
              have hk : EM (T) sg44 := by rw [esg44]; exact mw_code hk
              have hcd : sg44 0 0 = (nI 2) := by rw [esg44]; exact m_upd_s _ _ _
              refine lv_aload_n hx hb dX3_order_56 rfl (lv_at hl 0 rfl) ?_
              refine gw_geti (C := RX3) (T := TX3) (N := 27) hx hb hts inwX3 hown hK hP 0 0 rfl rfl rfl (by decide) (hts _ a130) (fun _ h9 => h9) dX3_order_57 ?_
              refine gw_top (y := (nI 2)) (hcd) ?_
              refine lv_if_ne (tgt := 89) hx hb dX3_order_60 (by decide) (fun hc45 => ?_) (fun hc45 => ?_)
              · have hkv : kOrder x1 x2 x3 x4 = nI 2 := by simp [kOrder, kif, hi1, hi2, hi3]
                exact hret _ _ _ _ _ hP hS dX3_order_89 (⟨by rw [uT_f (by rw [hkv]; decide)]; exact hk, hcd.trans hkv.symm, rfl⟩)
              · exact absurd hc45 (by decide)
            · exact absurd hc43 (by decide)
      · refine W.eq (g2 := F0 m 22 ls [.int (nI 0), .ref (ad 0)]) rfl ?_
        refine lv_if_eq (tgt := 48) hx hb dX3_order_22 (by decide) (fun hc46 => ?_) (fun hc46 => ?_)
        · refine lv_iconst (v := (nI 2)) hx hb dX3_order_48 (by decide) ?_
          refine lv_goto (tgt := 53) hx hb dX3_order_49 (by decide) ?_
          refine gw_put (C := RX3) (T := TX3) (N := 27) (ty := .int) hx hb hts inwX3 tyX3 tyX3_ok nmX3 hown hK hP hD hS 0 0 rfl rfl rfl (by decide) (hts _ a130) (fun _ h9 => h9) rfl (by decide +kernel) rfl rfl dX3_order_53 (fun H locs hP hD hS => ?_)
          obtain ⟨sg47, esg47⟩ : ∃ z : Nat → Nat → Int32, z = gw_u sg0 0 (upd (sg0 0) 0 (nI 2)) := ⟨_, rfl⟩
          rw [← esg47] at hP hD
          have hk : EM (T) sg47 := by rw [esg47]; exact mw_code hk
          have hcd : sg47 0 0 = (nI 2) := by rw [esg47]; exact m_upd_s _ _ _
          refine lv_aload_n hx hb dX3_order_56 rfl (lv_at hl 0 rfl) ?_
          refine gw_geti (C := RX3) (T := TX3) (N := 27) hx hb hts inwX3 hown hK hP 0 0 rfl rfl rfl (by decide) (hts _ a130) (fun _ h9 => h9) dX3_order_57 ?_
          refine gw_top (y := (nI 2)) (hcd) ?_
          refine lv_if_ne (tgt := 89) hx hb dX3_order_60 (by decide) (fun hc48 => ?_) (fun hc48 => ?_)
          · have hkv : kOrder x1 x2 x3 x4 = nI 2 := by simp [kOrder, kif, hi1, hi2]
            exact hret _ _ _ _ _ hP hS dX3_order_89 (⟨by rw [uT_f (by rw [hkv]; decide)]; exact hk, hcd.trans hkv.symm, rfl⟩)
          · exact absurd hc48 (by decide)
        · exact absurd hc46 (by decide)
    · exact absurd hc7 (by decide)
  · refine W.eq (g2 := F0 m 7 ls [.int (nI 0), .ref (ad 0)]) rfl ?_
    refine lv_if_ne (tgt := 14) hx hb dX3_order_7 (by decide) (fun hc49 => ?_) (fun hc49 => ?_)
    · exact absurd hc49 (by decide)
    · refine lv_iconst (v := (nI 1)) hx hb dX3_order_10 (by decide) ?_
      refine lv_goto (tgt := 53) hx hb dX3_order_11 (by decide) ?_
      refine gw_put (C := RX3) (T := TX3) (N := 27) (ty := .int) hx hb hts inwX3 tyX3 tyX3_ok nmX3 hown hK hP hD hS 0 0 rfl rfl rfl (by decide) (hts _ a130) (fun _ h9 => h9) rfl (by decide +kernel) rfl rfl dX3_order_53 (fun H locs hP hD hS => ?_)
      obtain ⟨sg50, esg50⟩ : ∃ z : Nat → Nat → Int32, z = gw_u sg0 0 (upd (sg0 0) 0 (nI 1)) := ⟨_, rfl⟩
      rw [← esg50] at hP hD
      have hk : EM (T) sg50 := by rw [esg50]; exact mw_code hk
      have hcd : sg50 0 0 = (nI 1) := by rw [esg50]; exact m_upd_s _ _ _
      refine lv_aload_n hx hb dX3_order_56 rfl (lv_at hl 0 rfl) ?_
      refine gw_geti (C := RX3) (T := TX3) (N := 27) hx hb hts inwX3 hown hK hP 0 0 rfl rfl rfl (by decide) (hts _ a130) (fun _ h9 => h9) dX3_order_57 ?_
      refine gw_top (y := (nI 1)) (hcd) ?_
      refine lv_if_ne (tgt := 89) hx hb dX3_order_60 (by decide) (fun hc51 => ?_) (fun hc51 => ?_)
      · have hkv : kOrder x1 x2 x3 x4 = nI 1 := by simp [kOrder, kif, hi1]
        exact hret _ _ _ _ _ hP hS dX3_order_89 (⟨by rw [uT_f (by rw [hkv]; decide)]; exact hk, hcd.trans hkv.symm, rfl⟩)
      · exact absurd hc51 (by decide)
abbrev rmf_X3_hours : Room := { frames := 1, cells := 0, slots := 0, locals := 22 }
set_option maxRecDepth 100000 in
set_option maxHeartbeats 4000000 in
theorem m_f_X3_hours (l : Launch) (hl9 : l.stackTraces = false) (D : va_G) (cI : ClassId) (cJ : ClassId × ClassId) (ad : Nat → Nat) (sg0 : Nat → Nat → Int32) (sz : Nat) (x1 : Int32) (x2 : Int32) (T : TS) (hT : TOk T) (hM : EM T sg0) : gc_M l yX3_hours wsX3_hours rmf_X3_hours D vwCl (tyS cI cJ) cI cJ gxT gxN SM [.ref (ad 0), .int x1, .int x2] ad sg0 sz 0 0 (fun v sg2 => EM (uT (kHours x1 x2) (tHours T x1 x2) T) sg2 ∧ sg2 0 0 = kHours x1 x2 ∧ v = none) := by
  refine gc_Mv_of (cc := cX3_hours) (maxL := 3) (by decide) rfl (Nat.le_of_ble_eq_true rfl) ?_
  intro p e s m below meth c A ls Q hin hE hret
  obtain ⟨⟨hx, hb, hml, hown, hts⟩, -, hlocks, -, hA, hP, hK, hD, hS, hl⟩ := hin
  have hts : ∀ w ∈ wsAll, w.before ([.ref (ad 0), .int x1, .int x2] : List Value).toArray s = true := fun w h => hts w (List.mem_cons_of_mem _ h)
  have hl : lv_has ls 3 [(0, .ref (ad 0)), (1, .int x1), (2, .int x2)] := hl
  have hk := hM
  have hN6 := hM.1.1.1
  refine lv_aload_n hx hb dX3_hours_0 rfl (lv_at hl 0 rfl) ?_
  refine lv_iload_n hx hb dX3_hours_1 rfl (lv_at hl 1 rfl) ?_
  refine lv_iconst (v := (nI 0)) hx hb dX3_hours_2 (by decide) ?_
  refine lv_sipush (v := (nI 1440)) hx hb dX3_hours_3 (by decide) ?_
  refine gc_go (pl := []) (S2 := SE) (ad := ad) (sg := sg0) (va_runS (As := [.int x1, .int (nI 0), .int (nI 1440)]) (rest := [.ref (ad 0)]) ⟨hx, hb, hml, hown, hts⟩ (m_f_X3_isIn l hl9 D cI cJ (fun j => ad (gw_p [] j)) (fun j => sg0 (gw_p [] j)) _ x1 (nI 0) (nI 1440) ) (cwS 3 hts (gwS a133 a134 a135 a136) rfl rfl rfl (by decide +kernel) ⟨by decide, by decide⟩) (gc_preS hK hP hD hS hA hE rfl) rfl rfl hl.1 rfl (lv_room (Nat.le_of_ble_eq_true rfl)) dX3_hours_6 ⟨by decide, by decide⟩) hP hD hS hA rfl (fun v1 sp2 sg3 H locs hp4 ha5 hb6 hP hD hS => ?_)
  rw [show sg3 = sg0 from funext (fun k => hb6 k (by simp))] at hP hD
  rcases hp4 with ⟨rfl, hi1⟩ | ⟨rfl, hi1⟩
  · refine W.eq (g2 := F0 m 9 ls [.int (nI 1), .ref (ad 0)]) rfl ?_
    refine lv_if_eq (tgt := 27) hx hb dX3_hours_9 (by decide) (fun hc7 => ?_) (fun hc7 => ?_)
    · exact absurd hc7 (by decide)
    · refine lv_iload_n hx hb dX3_hours_12 rfl (lv_at hl 2 rfl) ?_
      refine lv_iconst (v := (nI 0)) hx hb dX3_hours_13 (by decide) ?_
      refine lv_sipush (v := (nI 1440)) hx hb dX3_hours_14 (by decide) ?_
      refine gc_go (pl := []) (S2 := SE) (ad := ad) (sg := sg0) (va_runS (As := [.int x2, .int (nI 0), .int (nI 1440)]) (rest := [.ref (ad 0)]) ⟨hx, hb, hml, hown, hts⟩ (m_f_X3_isIn l hl9 D cI cJ (fun j => ad (gw_p [] j)) (fun j => sg0 (gw_p [] j)) _ x2 (nI 0) (nI 1440) ) (cwS 3 hts (gwS a133 a134 a135 a136) rfl rfl rfl (by decide +kernel) ⟨by decide, by decide⟩) (gc_preS hK hP hD hS hA hE rfl) rfl rfl hl.1 rfl (lv_room (Nat.le_of_ble_eq_true rfl)) dX3_hours_17 ⟨by decide, by decide⟩) hP hD hS hA rfl (fun v8 sp9 sg10 H locs hp11 ha12 hb13 hP hD hS => ?_)
      rw [show sg10 = sg0 from funext (fun k => hb13 k (by simp))] at hP hD
      rcases hp11 with ⟨rfl, hi2⟩ | ⟨rfl, hi2⟩
      · refine W.eq (g2 := F0 m 20 ls [.int (nI 1), .ref (ad 0)]) rfl ?_
        refine lv_if_eq (tgt := 27) hx hb dX3_hours_20 (by decide) (fun hc14 => ?_) (fun hc14 => ?_)
        · exact absurd hc14 (by decide)
        · refine lv_iconst (v := (nI 0)) hx hb dX3_hours_23 (by decide) ?_
          refine lv_goto (tgt := 28) hx hb dX3_hours_24 (by decide) ?_
          refine gw_put (C := RX3) (T := TX3) (N := 27) (ty := .int) hx hb hts inwX3 tyX3 tyX3_ok nmX3 hown hK hP hD hS 0 0 rfl rfl rfl (by decide) (hts _ a130) (fun _ h9 => h9) rfl (by decide +kernel) rfl rfl dX3_hours_28 (fun H locs hP hD hS => ?_)
          obtain ⟨sg15, esg15⟩ : ∃ z : Nat → Nat → Int32, z = gw_u sg0 0 (upd (sg0 0) 0 (nI 0)) := ⟨_, rfl⟩
          rw [← esg15] at hP hD
          have hk : EM (T) sg15 := by rw [esg15]; exact mw_code hk
          have hcd : sg15 0 0 = (nI 0) := by rw [esg15]; exact m_upd_s _ _ _
          refine lv_aload_n hx hb dX3_hours_31 rfl (lv_at hl 0 rfl) ?_
          refine gw_geti (C := RX3) (T := TX3) (N := 27) hx hb hts inwX3 hown hK hP 0 0 rfl rfl rfl (by decide) (hts _ a130) (fun _ h9 => h9) dX3_hours_32 ?_
          refine gw_top (y := (nI 0)) (hcd) ?_
          refine lv_if_ne (tgt := 52) hx hb dX3_hours_35 (by decide) (fun hc16 => ?_) (fun hc16 => ?_)
          · exact absurd hc16 (by decide)
          · have hk9 : kHours x1 x2 = nI 0 := by simp [kHours, kif, hi1, hi2]
            obtain ⟨j1, hj1, rfl⟩ := in_nat (n := 1440) (by decide) hi1
            have hnj1 : nt (nI j1) = j1 := nt_nI (by omega)
            obtain ⟨j2, hj2, rfl⟩ := in_nat (n := 1440) (by decide) hi2
            have hnj2 : nt (nI j2) = j2 := nt_nI (by omega)
            refine lv_aload_n hx hb dX3_hours_38 rfl (lv_at hl 0 rfl) ?_
            refine lv_iload_n hx hb dX3_hours_39 rfl (lv_at hl 1 rfl) ?_
            refine gw_put (C := RX3) (T := TX3) (N := 27) (ty := .int) hx hb hts inwX3 tyX3 tyX3_ok nmX3 hown hK hP hD hS 0 11 rfl rfl rfl (by decide) (hts _ a147) (fun _ h9 => h9) rfl (by decide +kernel) rfl rfl dX3_hours_40 (fun H locs hP hD hS => ?_)
            obtain ⟨sg17, esg17⟩ : ∃ z : Nat → Nat → Int32, z = gw_u sg15 0 (upd (sg15 0) 11 (nI j1)) := ⟨_, rfl⟩
            rw [← esg17] at hP hD
            have hk : EM (sHr (T) j1) sg17 := by rw [esg17]; exact mw_Hr hk (by omega)
            have hcd : sg17 0 0 = (nI 0) := by rw [esg17, m_upd _ (by decide)]; exact hcd
            refine lv_aload_n hx hb dX3_hours_43 rfl (lv_at hl 0 rfl) ?_
            refine lv_iload_n hx hb dX3_hours_44 rfl (lv_at hl 2 rfl) ?_
            refine gw_put (C := RX3) (T := TX3) (N := 27) (ty := .int) hx hb hts inwX3 tyX3 tyX3_ok nmX3 hown hK hP hD hS 0 12 rfl rfl rfl (by decide) (hts _ a148) (fun _ h9 => h9) rfl (by decide +kernel) rfl rfl dX3_hours_45 (fun H locs hP hD hS => ?_)
            obtain ⟨sg18, esg18⟩ : ∃ z : Nat → Nat → Int32, z = gw_u sg17 0 (upd (sg17 0) 12 (nI j2)) := ⟨_, rfl⟩
            rw [← esg18] at hP hD
            have hk : EM (sCh (sHr (T) j1) j2) sg18 := by rw [esg18]; exact mw_Ch hk (by omega)
            have hcd : sg18 0 0 = (nI 0) := by rw [esg18, m_upd _ (by decide)]; exact hcd
            refine lv_aload_n hx hb dX3_hours_48 rfl (lv_at hl 0 rfl) ?_
            refine gc_go0 (va_runV (As := []) (rest := []) ⟨hx, hb, hml, hown, hts⟩ (m_f_X3_forget l hl9 D cI cJ ad sg18 _  (sCh (sHr (T) j1) j2) hk) (cwV 0 hts (gwV a140 a141 a142 a135 a143) rfl rfl rfl (by decide +kernel) ⟨by decide, by decide⟩) (gc_preV0 hK hP hD hS hA hE rfl rfl rfl) rfl rfl hl.1 rfl (lv_room (Nat.le_of_ble_eq_true rfl)) dX3_hours_49 ⟨by decide, by decide⟩) hD hS hA (fun v19 sg21 H locs hp22 hP hD hS => ?_)
            obtain ⟨rfl, hk8, hq7⟩ := hp22
            have hk := hk8
            have hcd : sg21 0 0 = (nI 0) := (hq7 0 (by decide) (by decide)).trans hcd
            refine W.eq (g2 := F0 m 52 ls []) rfl ?_
            exact hret _ _ _ _ _ hP hS dX3_hours_52 (⟨by rw [uT_t hk9]; unfold tHours; rw [hnj1, hnj2]; exact hk, hcd.trans hk9.symm, rfl⟩)
      · refine W.eq (g2 := F0 m 20 ls [.int (nI 0), .ref (ad 0)]) rfl ?_
        refine lv_if_eq (tgt := 27) hx hb dX3_hours_20 (by decide) (fun hc25 => ?_) (fun hc25 => ?_)
        · refine lv_iconst (v := (nI 1)) hx hb dX3_hours_27 (by decide) ?_
          refine gw_put (C := RX3) (T := TX3) (N := 27) (ty := .int) hx hb hts inwX3 tyX3 tyX3_ok nmX3 hown hK hP hD hS 0 0 rfl rfl rfl (by decide) (hts _ a130) (fun _ h9 => h9) rfl (by decide +kernel) rfl rfl dX3_hours_28 (fun H locs hP hD hS => ?_)
          obtain ⟨sg26, esg26⟩ : ∃ z : Nat → Nat → Int32, z = gw_u sg0 0 (upd (sg0 0) 0 (nI 1)) := ⟨_, rfl⟩
          rw [← esg26] at hP hD
          have hk : EM (T) sg26 := by rw [esg26]; exact mw_code hk
          have hcd : sg26 0 0 = (nI 1) := by rw [esg26]; exact m_upd_s _ _ _
          refine lv_aload_n hx hb dX3_hours_31 rfl (lv_at hl 0 rfl) ?_
          refine gw_geti (C := RX3) (T := TX3) (N := 27) hx hb hts inwX3 hown hK hP 0 0 rfl rfl rfl (by decide) (hts _ a130) (fun _ h9 => h9) dX3_hours_32 ?_
          refine gw_top (y := (nI 1)) (hcd) ?_
          refine lv_if_ne (tgt := 52) hx hb dX3_hours_35 (by decide) (fun hc27 => ?_) (fun hc27 => ?_)
          · have hkv : kHours x1 x2 = nI 1 := by simp [kHours, kif, hi1, hi2]
            exact hret _ _ _ _ _ hP hS dX3_hours_52 (⟨by rw [uT_f (by rw [hkv]; decide)]; exact hk, hcd.trans hkv.symm, rfl⟩)
          · exact absurd hc27 (by decide)
        · exact absurd hc25 (by decide)
  · refine W.eq (g2 := F0 m 9 ls [.int (nI 0), .ref (ad 0)]) rfl ?_
    refine lv_if_eq (tgt := 27) hx hb dX3_hours_9 (by decide) (fun hc28 => ?_) (fun hc28 => ?_)
    · refine lv_iconst (v := (nI 1)) hx hb dX3_hours_27 (by decide) ?_
      refine gw_put (C := RX3) (T := TX3) (N := 27) (ty := .int) hx hb hts inwX3 tyX3 tyX3_ok nmX3 hown hK hP hD hS 0 0 rfl rfl rfl (by decide) (hts _ a130) (fun _ h9 => h9) rfl (by decide +kernel) rfl rfl dX3_hours_28 (fun H locs hP hD hS => ?_)
      obtain ⟨sg29, esg29⟩ : ∃ z : Nat → Nat → Int32, z = gw_u sg0 0 (upd (sg0 0) 0 (nI 1)) := ⟨_, rfl⟩
      rw [← esg29] at hP hD
      have hk : EM (T) sg29 := by rw [esg29]; exact mw_code hk
      have hcd : sg29 0 0 = (nI 1) := by rw [esg29]; exact m_upd_s _ _ _
      refine lv_aload_n hx hb dX3_hours_31 rfl (lv_at hl 0 rfl) ?_
      refine gw_geti (C := RX3) (T := TX3) (N := 27) hx hb hts inwX3 hown hK hP 0 0 rfl rfl rfl (by decide) (hts _ a130) (fun _ h9 => h9) dX3_hours_32 ?_
      refine gw_top (y := (nI 1)) (hcd) ?_
      refine lv_if_ne (tgt := 52) hx hb dX3_hours_35 (by decide) (fun hc30 => ?_) (fun hc30 => ?_)
      · have hkv : kHours x1 x2 = nI 1 := by simp [kHours, kif, hi1]
        exact hret _ _ _ _ _ hP hS dX3_hours_52 (⟨by rw [uT_f (by rw [hkv]; decide)]; exact hk, hcd.trans hkv.symm, rfl⟩)
      · exact absurd hc30 (by decide)
    · exact absurd hc28 (by decide)
abbrev rmf_X3_isPattern : Room := { frames := 0, cells := 0, slots := 0, locals := 0 }
set_option maxRecDepth 100000 in
set_option maxHeartbeats 4000000 in
theorem m_f_X3_isPattern (l : Launch) (hl9 : l.stackTraces = false) (D : va_G) (cI : ClassId) (cJ : ClassId × ClassId) (ad : Nat → Nat) (sg0 : Nat → Nat → Int32) (sz : Nat) (x1 : Int32) (T : TS) (hM : EM T sg0) : gc_M l yX3_isPattern wsX3_isPattern rmf_X3_isPattern D vwCl (tyS cI cJ) cI cJ gxT gxN SM [.ref (ad 0), .int x1] ad sg0 sz 0 0 (fun v sg2 => sg2 = sg0 ∧ ((v = some (.int (nI 1)) ∧ inX x1 (nI (yN T.1))) ∨ (v = some (.int (nI 0)) ∧ ¬ inX x1 (nI (yN T.1))))) := by
  refine gc_Mz_of (cc := cX3_isPattern) (maxL := 2) (by decide) rfl (Nat.le_of_ble_eq_true rfl) ?_
  intro p e s m below meth c A ls Q hin hE hret
  obtain ⟨⟨hx, hb, hml, hown, hts⟩, -, hlocks, -, hA, hP, hK, hD, hS, hl⟩ := hin
  have hts : ∀ w ∈ wsAll, w.before ([.ref (ad 0), .int x1] : List Value).toArray s = true := fun w h => hts w (List.mem_cons_of_mem _ h)
  have hl : lv_has ls 2 [(0, .ref (ad 0)), (1, .int x1)] := hl
  have hk := hM
  refine lv_iload_n hx hb dX3_isPattern_0 rfl (lv_at hl 1 rfl) ?_
  refine lv_if_lt (tgt := 16) hx hb dX3_isPattern_1 (by decide) (fun h1 => ?_) (fun h1 => ?_)
  · refine lv_iconst (v := (nI 0)) hx hb dX3_isPattern_16 (by decide) ?_
    exact hret _ _ _ _ _ _ hP hS dX3_isPattern_17 rfl (⟨rfl, Or.inr ⟨rfl, by first | exact fun q => q.1 h1 | exact fun q => absurd q.2 (i_nlt.mpr h6)⟩⟩)
  · refine lv_iload_n hx hb dX3_isPattern_4 rfl (lv_at hl 1 rfl) ?_
    refine lv_aload_n hx hb dX3_isPattern_5 rfl (lv_at hl 0 rfl) ?_
    refine gw_geti (C := RX3) (T := TX3) (N := 27) hx hb hts inwX3 hown hK hP 0 3 rfl rfl rfl (by decide) (hts _ a149) (fun _ h9 => h9) dX3_isPattern_6 ?_
    refine gw_top (y := (nI (yN T.1))) (hk.1.1.2) ?_
    refine lv_icmp_ge (tgt := 16) hx hb dX3_isPattern_9 (by decide) (fun h6 => ?_) (fun h6 => ?_)
    · refine lv_iconst (v := (nI 0)) hx hb dX3_isPattern_16 (by decide) ?_
      exact hret _ _ _ _ _ _ hP hS dX3_isPattern_17 rfl (⟨rfl, Or.inr ⟨rfl, by first | exact fun q => q.1 h1 | exact fun q => absurd q.2 (i_nlt.mpr h6)⟩⟩)
    · refine lv_iconst (v := (nI 1)) hx hb dX3_isPattern_12 (by decide) ?_
      refine lv_goto (tgt := 17) hx hb dX3_isPattern_13 (by decide) ?_
      exact hret _ _ _ _ _ _ hP hS dX3_isPattern_17 rfl (⟨rfl, Or.inl ⟨rfl, h1, i_nle.mp h6⟩⟩)
abbrev rmf_X3_gives : Room := { frames := 1, cells := 0, slots := 0, locals := 22 }
set_option maxRecDepth 100000 in
set_option maxHeartbeats 4000000 in
theorem m_f_X3_gives (l : Launch) (hl9 : l.stackTraces = false) (D : va_G) (cI : ClassId) (cJ : ClassId × ClassId) (ad : Nat → Nat) (sg0 : Nat → Nat → Int32) (sz : Nat) (x1 : Int32) (x2 : Int32) (x3 : Int32) (T : TS) (hT : TOk T) (hM : EM T sg0) : gc_M l yX3_gives wsX3_gives rmf_X3_gives D vwCl (tyS cI cJ) cI cJ gxT gxN SM [.ref (ad 0), .int x1, .int x2, .int x3] ad sg0 sz 0 0 (fun v sg2 => EM (uT (kGives (nI (yN T.1)) x1 x2 x3) (tGives T x1 x2 x3) T) sg2 ∧ sg2 0 0 = kGives (nI (yN T.1)) x1 x2 x3 ∧ v = none) := by
  refine gc_Mv_of (cc := cX3_gives) (maxL := 4) (by decide) rfl (Nat.le_of_ble_eq_true rfl) ?_
  intro p e s m below meth c A ls Q hin hE hret
  obtain ⟨⟨hx, hb, hml, hown, hts⟩, -, hlocks, -, hA, hP, hK, hD, hS, hl⟩ := hin
  have hts : ∀ w ∈ wsAll, w.before ([.ref (ad 0), .int x1, .int x2, .int x3] : List Value).toArray s = true := fun w h => hts w (List.mem_cons_of_mem _ h)
  have hl : lv_has ls 4 [(0, .ref (ad 0)), (1, .int x1), (2, .int x2), (3, .int x3)] := hl
  have hk := hM
  have hN6 := hM.1.1.1
  refine lv_aload_n hx hb dX3_gives_0 rfl (lv_at hl 0 rfl) ?_
  refine lv_aload_n hx hb dX3_gives_1 rfl (lv_at hl 0 rfl) ?_
  refine lv_iload_n hx hb dX3_gives_2 rfl (lv_at hl 1 rfl) ?_
  refine gc_go0 (va_runV (As := [.int x1]) (rest := [.ref (ad 0)]) ⟨hx, hb, hml, hown, hts⟩ (m_f_X3_isPattern l hl9 D cI cJ ad sg0 _ x1 T hk) (cwV 1 hts (gwV a150 a151 a152 a135 a153) rfl rfl rfl (by decide +kernel) ⟨by decide, by decide⟩) (gc_preV0 hK hP hD hS hA hE rfl rfl rfl) rfl rfl hl.1 rfl (lv_room (Nat.le_of_ble_eq_true rfl)) dX3_gives_3 ⟨by decide, by decide⟩) hD hS hA (fun v1 sg3 H locs hp4 hP hD hS => ?_)
  obtain ⟨hs9, hp9⟩ := hp4
  rw [hs9] at hP hD
  rcases hp9 with ⟨rfl, hp1⟩ | ⟨rfl, hp1⟩
  · refine W.eq (g2 := F0 m 6 ls [.int (nI 1), .ref (ad 0)]) rfl ?_
    refine lv_if_eq (tgt := 18) hx hb dX3_gives_6 (by decide) (fun hc7 => ?_) (fun hc7 => ?_)
    · exact absurd hc7 (by decide)
    · refine lv_iload_n hx hb dX3_gives_9 rfl (lv_at hl 2 rfl) ?_
      refine lv_iconst (v := (nI 0)) hx hb dX3_gives_10 (by decide) ?_
      refine lv_iconst (v := (nI 3)) hx hb dX3_gives_11 (by decide) ?_
      refine gc_go (pl := []) (S2 := SE) (ad := ad) (sg := sg0) (va_runS (As := [.int x2, .int (nI 0), .int (nI 3)]) (rest := [.ref (ad 0)]) ⟨hx, hb, hml, hown, hts⟩ (m_f_X3_isIn l hl9 D cI cJ (fun j => ad (gw_p [] j)) (fun j => sg0 (gw_p [] j)) _ x2 (nI 0) (nI 3) ) (cwS 3 hts (gwS a133 a134 a135 a136) rfl rfl rfl (by decide +kernel) ⟨by decide, by decide⟩) (gc_preS hK hP hD hS hA hE rfl) rfl rfl hl.1 rfl (lv_room (Nat.le_of_ble_eq_true rfl)) dX3_gives_12 ⟨by decide, by decide⟩) hP hD hS hA rfl (fun v8 sp9 sg10 H locs hp11 ha12 hb13 hP hD hS => ?_)
      rw [show sg10 = sg0 from funext (fun k => hb13 k (by simp))] at hP hD
      rcases hp11 with ⟨rfl, hi1⟩ | ⟨rfl, hi1⟩
      · refine W.eq (g2 := F0 m 15 ls [.int (nI 1), .ref (ad 0)]) rfl ?_
        refine lv_if_ne (tgt := 22) hx hb dX3_gives_15 (by decide) (fun hc14 => ?_) (fun hc14 => ?_)
        · refine lv_iload_n hx hb dX3_gives_22 rfl (lv_at hl 3 rfl) ?_
          refine lv_iconst (v := (nI 0)) hx hb dX3_gives_23 (by decide) ?_
          refine lv_bipush (v := (nI 9)) hx hb dX3_gives_24 (by decide) ?_
          refine gc_go (pl := []) (S2 := SE) (ad := ad) (sg := sg0) (va_runS (As := [.int x3, .int (nI 0), .int (nI 9)]) (rest := [.ref (ad 0)]) ⟨hx, hb, hml, hown, hts⟩ (m_f_X3_isIn l hl9 D cI cJ (fun j => ad (gw_p [] j)) (fun j => sg0 (gw_p [] j)) _ x3 (nI 0) (nI 9) ) (cwS 3 hts (gwS a133 a134 a135 a136) rfl rfl rfl (by decide +kernel) ⟨by decide, by decide⟩) (gc_preS hK hP hD hS hA hE rfl) rfl rfl hl.1 rfl (lv_room (Nat.le_of_ble_eq_true rfl)) dX3_gives_26 ⟨by decide, by decide⟩) hP hD hS hA rfl (fun v15 sp16 sg17 H locs hp18 ha19 hb20 hP hD hS => ?_)
          rw [show sg17 = sg0 from funext (fun k => hb20 k (by simp))] at hP hD
          rcases hp18 with ⟨rfl, hi2⟩ | ⟨rfl, hi2⟩
          · refine W.eq (g2 := F0 m 29 ls [.int (nI 1), .ref (ad 0)]) rfl ?_
            refine lv_if_ne (tgt := 36) hx hb dX3_gives_29 (by decide) (fun hc21 => ?_) (fun hc21 => ?_)
            · refine lv_iconst (v := (nI 0)) hx hb dX3_gives_36 (by decide) ?_
              refine gw_put (C := RX3) (T := TX3) (N := 27) (ty := .int) hx hb hts inwX3 tyX3 tyX3_ok nmX3 hown hK hP hD hS 0 0 rfl rfl rfl (by decide) (hts _ a130) (fun _ h9 => h9) rfl (by decide +kernel) rfl rfl dX3_gives_37 (fun H locs hP hD hS => ?_)
              obtain ⟨sg22, esg22⟩ : ∃ z : Nat → Nat → Int32, z = gw_u sg0 0 (upd (sg0 0) 0 (nI 0)) := ⟨_, rfl⟩
              rw [← esg22] at hP hD
              have hk : EM (T) sg22 := by rw [esg22]; exact mw_code hk
              have hcd : sg22 0 0 = (nI 0) := by rw [esg22]; exact m_upd_s _ _ _
              refine lv_aload_n hx hb dX3_gives_40 rfl (lv_at hl 0 rfl) ?_
              refine gw_geti (C := RX3) (T := TX3) (N := 27) hx hb hts inwX3 hown hK hP 0 0 rfl rfl rfl (by decide) (hts _ a130) (fun _ h9 => h9) dX3_gives_41 ?_
              refine gw_top (y := (nI 0)) (hcd) ?_
              refine lv_if_ne (tgt := 62) hx hb dX3_gives_44 (by decide) (fun hc23 => ?_) (fun hc23 => ?_)
              · exact absurd hc23 (by decide)
              · have hk9 : kGives (nI (yN T.1)) x1 x2 x3 = nI 0 := by simp [kGives, kif, hp1, hi1, hi2]
                obtain ⟨j1, hj1, rfl⟩ := ixofN hN6 hp1
                have hnj1 : nt (nI j1) = j1 := nt_nI (by omega)
                obtain ⟨j2, hj2, rfl⟩ := inof3 hi1
                have hnj2 : nt (nI j2) = j2 := nt_nI (by omega)
                refine lv_aload_n hx hb dX3_gives_47 rfl (lv_at hl 0 rfl) ?_
                refine gw_getr (C := RX3) (T := TX3) (N := 27) hx hb hts inwX3 hown hK hP 0 6 5 rfl rfl rfl (by decide) (hts _ a154) (fun _ h9 => h9) dX3_gives_48 ?_
                refine lv_iconst (v := (nI 4)) hx hb dX3_gives_51 (by decide) ?_
                refine lv_iload_n hx hb dX3_gives_52 rfl (lv_at hl 1 rfl) ?_
                refine lv_imul hx hb dX3_gives_53 ?_
                refine gw_top (y := (nI (4 * j1))) (nI_mul _ _) ?_
                refine lv_iload_n hx hb dX3_gives_54 rfl (lv_at hl 2 rfl) ?_
                refine lv_iadd hx hb dX3_gives_55 ?_
                refine gw_top (y := (nI ((4 * j1) + j2))) (nI_add _ _) ?_
                refine lv_iload_n hx hb dX3_gives_56 rfl (lv_at hl 3 rfl) ?_
                refine gw_ast hx hb hK hP hD hS 5 0 (n := 24) rfl rfl (i := (4 * j1) + j2) (by omega) (by decide) dX3_gives_57 (fun H locs hP hD hS => ?_)
                obtain ⟨sg24, esg24⟩ : ∃ z : Nat → Nat → Int32, z = gw_u sg22 5 (upd (sg22 5) ((4 * j1) + j2) x3) := ⟨_, rfl⟩
                rw [← esg24] at hP hD
                have hk : EM (sGv (T) j1 j2 x3) sg24 := by rw [esg24]; exact mw_Gv hk (by omega)
                have hcd : sg24 0 0 = (nI 0) := by rw [esg24, gw_u_n _ _ (by decide)]; exact hcd
                refine lv_aload_n hx hb dX3_gives_58 rfl (lv_at hl 0 rfl) ?_
                refine gc_go0 (va_runV (As := []) (rest := []) ⟨hx, hb, hml, hown, hts⟩ (m_f_X3_forget l hl9 D cI cJ ad sg24 _  (sGv (T) j1 j2 x3) hk) (cwV 0 hts (gwV a140 a141 a142 a135 a143) rfl rfl rfl (by decide +kernel) ⟨by decide, by decide⟩) (gc_preV0 hK hP hD hS hA hE rfl rfl rfl) rfl rfl hl.1 rfl (lv_room (Nat.le_of_ble_eq_true rfl)) dX3_gives_59 ⟨by decide, by decide⟩) hD hS hA (fun v25 sg27 H locs hp28 hP hD hS => ?_)
                obtain ⟨rfl, hk8, hq7⟩ := hp28
                have hk := hk8
                have hcd : sg27 0 0 = (nI 0) := (hq7 0 (by decide) (by decide)).trans hcd
                refine W.eq (g2 := F0 m 62 ls []) rfl ?_
                exact hret _ _ _ _ _ hP hS dX3_gives_62 (⟨by rw [uT_t hk9]; unfold tGives; rw [hnj1, hnj2]; exact hk, hcd.trans hk9.symm, rfl⟩)
            · exact absurd hc21 (by decide)
          · refine W.eq (g2 := F0 m 29 ls [.int (nI 0), .ref (ad 0)]) rfl ?_
            refine lv_if_ne (tgt := 36) hx hb dX3_gives_29 (by decide) (fun hc31 => ?_) (fun hc31 => ?_)
            · exact absurd hc31 (by decide)
            · refine lv_iconst (v := (nI 2)) hx hb dX3_gives_32 (by decide) ?_
              refine lv_goto (tgt := 37) hx hb dX3_gives_33 (by decide) ?_
              refine gw_put (C := RX3) (T := TX3) (N := 27) (ty := .int) hx hb hts inwX3 tyX3 tyX3_ok nmX3 hown hK hP hD hS 0 0 rfl rfl rfl (by decide) (hts _ a130) (fun _ h9 => h9) rfl (by decide +kernel) rfl rfl dX3_gives_37 (fun H locs hP hD hS => ?_)
              obtain ⟨sg32, esg32⟩ : ∃ z : Nat → Nat → Int32, z = gw_u sg0 0 (upd (sg0 0) 0 (nI 2)) := ⟨_, rfl⟩
              rw [← esg32] at hP hD
              have hk : EM (T) sg32 := by rw [esg32]; exact mw_code hk
              have hcd : sg32 0 0 = (nI 2) := by rw [esg32]; exact m_upd_s _ _ _
              refine lv_aload_n hx hb dX3_gives_40 rfl (lv_at hl 0 rfl) ?_
              refine gw_geti (C := RX3) (T := TX3) (N := 27) hx hb hts inwX3 hown hK hP 0 0 rfl rfl rfl (by decide) (hts _ a130) (fun _ h9 => h9) dX3_gives_41 ?_
              refine gw_top (y := (nI 2)) (hcd) ?_
              refine lv_if_ne (tgt := 62) hx hb dX3_gives_44 (by decide) (fun hc33 => ?_) (fun hc33 => ?_)
              · have hkv : kGives (nI (yN T.1)) x1 x2 x3 = nI 2 := by simp [kGives, kif, hp1, hi1, hi2]
                exact hret _ _ _ _ _ hP hS dX3_gives_62 (⟨by rw [uT_f (by rw [hkv]; decide)]; exact hk, hcd.trans hkv.symm, rfl⟩)
              · exact absurd hc33 (by decide)
        · exact absurd hc14 (by decide)
      · refine W.eq (g2 := F0 m 15 ls [.int (nI 0), .ref (ad 0)]) rfl ?_
        refine lv_if_ne (tgt := 22) hx hb dX3_gives_15 (by decide) (fun hc34 => ?_) (fun hc34 => ?_)
        · exact absurd hc34 (by decide)
        · refine lv_iconst (v := (nI 1)) hx hb dX3_gives_18 (by decide) ?_
          refine lv_goto (tgt := 37) hx hb dX3_gives_19 (by decide) ?_
          refine gw_put (C := RX3) (T := TX3) (N := 27) (ty := .int) hx hb hts inwX3 tyX3 tyX3_ok nmX3 hown hK hP hD hS 0 0 rfl rfl rfl (by decide) (hts _ a130) (fun _ h9 => h9) rfl (by decide +kernel) rfl rfl dX3_gives_37 (fun H locs hP hD hS => ?_)
          obtain ⟨sg35, esg35⟩ : ∃ z : Nat → Nat → Int32, z = gw_u sg0 0 (upd (sg0 0) 0 (nI 1)) := ⟨_, rfl⟩
          rw [← esg35] at hP hD
          have hk : EM (T) sg35 := by rw [esg35]; exact mw_code hk
          have hcd : sg35 0 0 = (nI 1) := by rw [esg35]; exact m_upd_s _ _ _
          refine lv_aload_n hx hb dX3_gives_40 rfl (lv_at hl 0 rfl) ?_
          refine gw_geti (C := RX3) (T := TX3) (N := 27) hx hb hts inwX3 hown hK hP 0 0 rfl rfl rfl (by decide) (hts _ a130) (fun _ h9 => h9) dX3_gives_41 ?_
          refine gw_top (y := (nI 1)) (hcd) ?_
          refine lv_if_ne (tgt := 62) hx hb dX3_gives_44 (by decide) (fun hc36 => ?_) (fun hc36 => ?_)
          · have hkv : kGives (nI (yN T.1)) x1 x2 x3 = nI 1 := by simp [kGives, kif, hp1, hi1]
            exact hret _ _ _ _ _ hP hS dX3_gives_62 (⟨by rw [uT_f (by rw [hkv]; decide)]; exact hk, hcd.trans hkv.symm, rfl⟩)
          · exact absurd hc36 (by decide)
  · refine W.eq (g2 := F0 m 6 ls [.int (nI 0), .ref (ad 0)]) rfl ?_
    refine lv_if_eq (tgt := 18) hx hb dX3_gives_6 (by decide) (fun hc37 => ?_) (fun hc37 => ?_)
    · refine lv_iconst (v := (nI 1)) hx hb dX3_gives_18 (by decide) ?_
      refine lv_goto (tgt := 37) hx hb dX3_gives_19 (by decide) ?_
      refine gw_put (C := RX3) (T := TX3) (N := 27) (ty := .int) hx hb hts inwX3 tyX3 tyX3_ok nmX3 hown hK hP hD hS 0 0 rfl rfl rfl (by decide) (hts _ a130) (fun _ h9 => h9) rfl (by decide +kernel) rfl rfl dX3_gives_37 (fun H locs hP hD hS => ?_)
      obtain ⟨sg38, esg38⟩ : ∃ z : Nat → Nat → Int32, z = gw_u sg0 0 (upd (sg0 0) 0 (nI 1)) := ⟨_, rfl⟩
      rw [← esg38] at hP hD
      have hk : EM (T) sg38 := by rw [esg38]; exact mw_code hk
      have hcd : sg38 0 0 = (nI 1) := by rw [esg38]; exact m_upd_s _ _ _
      refine lv_aload_n hx hb dX3_gives_40 rfl (lv_at hl 0 rfl) ?_
      refine gw_geti (C := RX3) (T := TX3) (N := 27) hx hb hts inwX3 hown hK hP 0 0 rfl rfl rfl (by decide) (hts _ a130) (fun _ h9 => h9) dX3_gives_41 ?_
      refine gw_top (y := (nI 1)) (hcd) ?_
      refine lv_if_ne (tgt := 62) hx hb dX3_gives_44 (by decide) (fun hc39 => ?_) (fun hc39 => ?_)
      · have hkv : kGives (nI (yN T.1)) x1 x2 x3 = nI 1 := by simp [kGives, kif, hp1]
        exact hret _ _ _ _ _ hP hS dX3_gives_62 (⟨by rw [uT_f (by rw [hkv]; decide)]; exact hk, hcd.trans hkv.symm, rfl⟩)
      · exact absurd hc39 (by decide)
    · exact absurd hc37 (by decide)
abbrev rmf_X3_pattern : Room := { frames := 1, cells := 0, slots := 0, locals := 22 }
set_option maxRecDepth 100000 in
set_option maxHeartbeats 4000000 in
theorem m_f_X3_pattern (l : Launch) (hl9 : l.stackTraces = false) (D : va_G) (cI : ClassId) (cJ : ClassId × ClassId) (ad : Nat → Nat) (sg0 : Nat → Nat → Int32) (sz : Nat) (x1 : Int32) (x2 : Int32) (T : TS) (hT : TOk T) (hM : EM T sg0) : gc_M l yX3_pattern wsX3_pattern rmf_X3_pattern D vwCl (tyS cI cJ) cI cJ gxT gxN SM [.ref (ad 0), .int x1, .int x2] ad sg0 sz 0 0 (fun v sg2 => EM (uT (kPattern (nI (yN T.1)) x1 x2) (tPattern T x1 x2) T) sg2 ∧ sg2 0 0 = kPattern (nI (yN T.1)) x1 x2 ∧ (kPattern (nI (yN T.1)) x1 x2 = nI 0 → v = some (.int (nI (yN T.1)))) ∧ ∃ r : Int32, v = some (.int r)) := by
  refine gc_Mi_of (cc := cX3_pattern) (maxL := 3) (by decide) rfl (Nat.le_of_ble_eq_true rfl) ?_
  intro p e s m below meth c A ls Q hin hE hret
  obtain ⟨⟨hx, hb, hml, hown, hts⟩, -, hlocks, -, hA, hP, hK, hD, hS, hl⟩ := hin
  have hts : ∀ w ∈ wsAll, w.before ([.ref (ad 0), .int x1, .int x2] : List Value).toArray s = true := fun w h => hts w (List.mem_cons_of_mem _ h)
  have hl : lv_has ls 3 [(0, .ref (ad 0)), (1, .int x1), (2, .int x2)] := hl
  have hk := hM
  have hN6 := hM.1.1.1
  refine lv_aload_n hx hb dX3_pattern_0 rfl (lv_at hl 0 rfl) ?_
  refine lv_iload_n hx hb dX3_pattern_1 rfl (lv_at hl 1 rfl) ?_
  refine lv_iconst (v := (nI 0)) hx hb dX3_pattern_2 (by decide) ?_
  refine lv_iconst (v := (nI 3)) hx hb dX3_pattern_3 (by decide) ?_
  refine gc_go (pl := []) (S2 := SE) (ad := ad) (sg := sg0) (va_runS (As := [.int x1, .int (nI 0), .int (nI 3)]) (rest := [.ref (ad 0)]) ⟨hx, hb, hml, hown, hts⟩ (m_f_X3_isIn l hl9 D cI cJ (fun j => ad (gw_p [] j)) (fun j => sg0 (gw_p [] j)) _ x1 (nI 0) (nI 3) ) (cwS 3 hts (gwS a133 a134 a135 a136) rfl rfl rfl (by decide +kernel) ⟨by decide, by decide⟩) (gc_preS hK hP hD hS hA hE rfl) rfl rfl hl.1 rfl (lv_room (Nat.le_of_ble_eq_true rfl)) dX3_pattern_4 ⟨by decide, by decide⟩) hP hD hS hA rfl (fun v1 sp2 sg3 H locs hp4 ha5 hb6 hP hD hS => ?_)
  rw [show sg3 = sg0 from funext (fun k => hb6 k (by simp))] at hP hD
  rcases hp4 with ⟨rfl, hi1⟩ | ⟨rfl, hi1⟩
  · refine W.eq (g2 := F0 m 7 ls [.int (nI 1), .ref (ad 0)]) rfl ?_
    refine lv_if_ne (tgt := 14) hx hb dX3_pattern_7 (by decide) (fun hc7 => ?_) (fun hc7 => ?_)
    · refine lv_iload_n hx hb dX3_pattern_14 rfl (lv_at hl 2 rfl) ?_
      refine lv_iconst (v := (nI 1)) hx hb dX3_pattern_15 (by decide) ?_
      refine lv_sipush (v := (nI 480)) hx hb dX3_pattern_16 (by decide) ?_
      refine gc_go (pl := []) (S2 := SE) (ad := ad) (sg := sg0) (va_runS (As := [.int x2, .int (nI 1), .int (nI 480)]) (rest := [.ref (ad 0)]) ⟨hx, hb, hml, hown, hts⟩ (m_f_X3_isIn l hl9 D cI cJ (fun j => ad (gw_p [] j)) (fun j => sg0 (gw_p [] j)) _ x2 (nI 1) (nI 480) ) (cwS 3 hts (gwS a133 a134 a135 a136) rfl rfl rfl (by decide +kernel) ⟨by decide, by decide⟩) (gc_preS hK hP hD hS hA hE rfl) rfl rfl hl.1 rfl (lv_room (Nat.le_of_ble_eq_true rfl)) dX3_pattern_19 ⟨by decide, by decide⟩) hP hD hS hA rfl (fun v8 sp9 sg10 H locs hp11 ha12 hb13 hP hD hS => ?_)
      rw [show sg10 = sg0 from funext (fun k => hb13 k (by simp))] at hP hD
      rcases hp11 with ⟨rfl, hi2⟩ | ⟨rfl, hi2⟩
      · refine W.eq (g2 := F0 m 22 ls [.int (nI 1), .ref (ad 0)]) rfl ?_
        refine lv_if_ne (tgt := 29) hx hb dX3_pattern_22 (by decide) (fun hc14 => ?_) (fun hc14 => ?_)
        · refine lv_aload_n hx hb dX3_pattern_29 rfl (lv_at hl 0 rfl) ?_
          refine gw_geti (C := RX3) (T := TX3) (N := 27) hx hb hts inwX3 hown hK hP 0 3 rfl rfl rfl (by decide) (hts _ a149) (fun _ h9 => h9) dX3_pattern_30 ?_
          refine gw_top (y := (nI (yN T.1))) (hk.1.1.2) ?_
          refine lv_bipush (v := (nI 6)) hx hb dX3_pattern_33 (by decide) ?_
          refine lv_icmp_ne (tgt := 42) hx hb dX3_pattern_35 (by decide) (fun hn6 => ?_) (fun hn6 => ?_)
          · have hn6 : ¬ (yN T.1 = 6) := fun q => hn6 ((nI_eq (a := yN T.1) (b := 6) (by omega) (by omega)).mpr q)
            refine lv_iconst (v := (nI 0)) hx hb dX3_pattern_42 (by decide) ?_
            refine gw_put (C := RX3) (T := TX3) (N := 27) (ty := .int) hx hb hts inwX3 tyX3 tyX3_ok nmX3 hown hK hP hD hS 0 0 rfl rfl rfl (by decide) (hts _ a130) (fun _ h9 => h9) rfl (by decide +kernel) rfl rfl dX3_pattern_43 (fun H locs hP hD hS => ?_)
            obtain ⟨sg15, esg15⟩ : ∃ z : Nat → Nat → Int32, z = gw_u sg0 0 (upd (sg0 0) 0 (nI 0)) := ⟨_, rfl⟩
            rw [← esg15] at hP hD
            have hk : EM (T) sg15 := by rw [esg15]; exact mw_code hk
            have hcd : sg15 0 0 = (nI 0) := by rw [esg15]; exact m_upd_s _ _ _
            refine lv_aload_n hx hb dX3_pattern_46 rfl (lv_at hl 0 rfl) ?_
            refine gw_geti (C := RX3) (T := TX3) (N := 27) hx hb hts inwX3 hown hK hP 0 0 rfl rfl rfl (by decide) (hts _ a130) (fun _ h9 => h9) dX3_pattern_47 ?_
            refine gw_top (y := (nI 0)) (hcd) ?_
            refine lv_if_le (tgt := 55) hx hb dX3_pattern_50 (by decide) (fun hc16 => ?_) (fun hc16 => ?_)
            · have hk9 : kPattern (nI (yN T.1)) x1 x2 = nI 0 := by simp [kPattern, kif, hi1, hi2, nI_ne6 (show yN T.1 < 6 by omega)]
              obtain ⟨j1, hj1, rfl⟩ := inof3 hi1
              have hnj1 : nt (nI j1) = j1 := nt_nI (by omega)
              obtain ⟨j2, hj2, rfl⟩ := in_nat1 (n := 480) (by decide) hi2
              have hnj2 : nt (nI j2) = j2 := nt_nI (by omega)
              refine lv_aload_n hx hb dX3_pattern_55 rfl (lv_at hl 0 rfl) ?_
              refine gw_getr (C := RX3) (T := TX3) (N := 27) hx hb hts inwX3 hown hK hP 0 4 3 rfl rfl rfl (by decide) (hts _ a155) (fun _ h9 => h9) dX3_pattern_56 ?_
              refine lv_aload_n hx hb dX3_pattern_59 rfl (lv_at hl 0 rfl) ?_
              refine gw_geti (C := RX3) (T := TX3) (N := 27) hx hb hts inwX3 hown hK hP 0 3 rfl rfl rfl (by decide) (hts _ a149) (fun _ h9 => h9) dX3_pattern_60 ?_
              refine gw_top (y := (nI (yN T.1))) (hk.1.1.2) ?_
              refine lv_iload_n hx hb dX3_pattern_63 rfl (lv_at hl 1 rfl) ?_
              refine gw_ast hx hb hK hP hD hS 3 0 (n := 6) rfl rfl (i := yN T.1) (by omega) (by decide) dX3_pattern_64 (fun H locs hP hD hS => ?_)
              obtain ⟨sg17, esg17⟩ : ∃ z : Nat → Nat → Int32, z = gw_u sg15 3 (upd (sg15 3) (yN T.1) (nI j1)) := ⟨_, rfl⟩
              rw [← esg17] at hP hD
              have hk : EM (sCf (T) (yN T.1) j1) sg17 := by rw [esg17]; exact mw_Cf hk (by omega)
              have hcd : sg17 0 0 = (nI 0) := by rw [esg17, gw_u_n _ _ (by decide)]; exact hcd
              refine lv_aload_n hx hb dX3_pattern_65 rfl (lv_at hl 0 rfl) ?_
              refine gw_getr (C := RX3) (T := TX3) (N := 27) hx hb hts inwX3 hown hK hP 0 5 4 rfl rfl rfl (by decide) (hts _ a156) (fun _ h9 => h9) dX3_pattern_66 ?_
              refine lv_aload_n hx hb dX3_pattern_69 rfl (lv_at hl 0 rfl) ?_
              refine gw_geti (C := RX3) (T := TX3) (N := 27) hx hb hts inwX3 hown hK hP 0 3 rfl rfl rfl (by decide) (hts _ a149) (fun _ h9 => h9) dX3_pattern_70 ?_
              refine gw_top (y := (nI (yN T.1))) (hk.1.1.2) ?_
              refine lv_iload_n hx hb dX3_pattern_73 rfl (lv_at hl 2 rfl) ?_
              refine gw_ast hx hb hK hP hD hS 4 0 (n := 6) rfl rfl (i := yN T.1) (by omega) (by decide) dX3_pattern_74 (fun H locs hP hD hS => ?_)
              obtain ⟨sg18, esg18⟩ : ∃ z : Nat → Nat → Int32, z = gw_u sg17 4 (upd (sg17 4) (yN T.1) (nI j2)) := ⟨_, rfl⟩
              rw [← esg18] at hP hD
              have hk : EM (sMn (sCf (T) (yN T.1) j1) (yN T.1) j2) sg18 := by rw [esg18]; exact mw_Mn hk (by omega)
              have hcd : sg18 0 0 = (nI 0) := by rw [esg18, gw_u_n _ _ (by decide)]; exact hcd
              refine lv_aload_n hx hb dX3_pattern_75 rfl (lv_at hl 0 rfl) ?_
              refine lv_dup hx hb dX3_pattern_76 rfl ?_
              refine gw_geti (C := RX3) (T := TX3) (N := 27) hx hb hts inwX3 hown hK hP 0 3 rfl rfl rfl (by decide) (hts _ a149) (fun _ h9 => h9) dX3_pattern_77 ?_
              refine gw_top (y := (nI (yN T.1))) (hk.1.1.2) ?_
              refine lv_iconst (v := (nI 1)) hx hb dX3_pattern_80 (by decide) ?_
              refine lv_iadd hx hb dX3_pattern_81 ?_
              refine gw_top (y := (nI ((yN T.1) + 1))) (nI_add _ _) ?_
              refine gw_put (C := RX3) (T := TX3) (N := 27) (ty := .int) hx hb hts inwX3 tyX3 tyX3_ok nmX3 hown hK hP hD hS 0 3 rfl rfl rfl (by decide) (hts _ a149) (fun _ h9 => h9) rfl (by decide +kernel) rfl rfl dX3_pattern_82 (fun H locs hP hD hS => ?_)
              obtain ⟨sg19, esg19⟩ : ∃ z : Nat → Nat → Int32, z = gw_u sg18 0 (upd (sg18 0) 3 (nI ((yN T.1) + 1))) := ⟨_, rfl⟩
              rw [← esg19] at hP hD
              have hk : EM (sNn (sMn (sCf (T) (yN T.1) j1) (yN T.1) j2) ((yN T.1) + 1)) sg19 := by rw [esg19]; exact mw_N hk (by omega)
              have hcd : sg19 0 0 = (nI 0) := by rw [esg19, m_upd _ (by decide)]; exact hcd
              refine lv_aload_n hx hb dX3_pattern_85 rfl (lv_at hl 0 rfl) ?_
              refine gc_go0 (va_runV (As := []) (rest := []) ⟨hx, hb, hml, hown, hts⟩ (m_f_X3_forget l hl9 D cI cJ ad sg19 _  (sNn (sMn (sCf (T) (yN T.1) j1) (yN T.1) j2) ((yN T.1) + 1)) hk) (cwV 0 hts (gwV a140 a141 a142 a135 a143) rfl rfl rfl (by decide +kernel) ⟨by decide, by decide⟩) (gc_preV0 hK hP hD hS hA hE rfl rfl rfl) rfl rfl hl.1 rfl (lv_room (Nat.le_of_ble_eq_true rfl)) dX3_pattern_86 ⟨by decide, by decide⟩) hD hS hA (fun v20 sg22 H locs hp23 hP hD hS => ?_)
              obtain ⟨rfl, hk8, hq7⟩ := hp23
              have hk := hk8
              have hcd : sg22 0 0 = (nI 0) := (hq7 0 (by decide) (by decide)).trans hcd
              refine W.eq (g2 := F0 m 89 ls []) rfl ?_
              refine lv_aload_n hx hb dX3_pattern_89 rfl (lv_at hl 0 rfl) ?_
              refine gw_geti (C := RX3) (T := TX3) (N := 27) hx hb hts inwX3 hown hK hP 0 3 rfl rfl rfl (by decide) (hts _ a149) (fun _ h9 => h9) dX3_pattern_90 ?_
              refine gw_top (y := (nI (yN T.1 + 1))) (hk.1.1.2) ?_
              refine lv_iconst (v := (nI 1)) hx hb dX3_pattern_93 (by decide) ?_
              refine lv_isub hx hb dX3_pattern_94 ?_
              refine gw_top (y := (nI (yN T.1))) (nI_pred _) ?_
              exact hret _ _ _ _ _ _ hP hS dX3_pattern_95 (⟨by rw [uT_t hk9]; unfold tPattern; rw [hnj1, hnj2]; exact hk, hcd.trans hk9.symm, fun _ => rfl, _, rfl⟩)
            · exact absurd hc16 (by decide)
          · have hn6 : yN T.1 = 6 := (nI_eq (a := yN T.1) (b := 6) (by omega) (by omega)).mp hn6
            refine lv_iconst (v := (nI 3)) hx hb dX3_pattern_38 (by decide) ?_
            refine lv_goto (tgt := 43) hx hb dX3_pattern_39 (by decide) ?_
            refine gw_put (C := RX3) (T := TX3) (N := 27) (ty := .int) hx hb hts inwX3 tyX3 tyX3_ok nmX3 hown hK hP hD hS 0 0 rfl rfl rfl (by decide) (hts _ a130) (fun _ h9 => h9) rfl (by decide +kernel) rfl rfl dX3_pattern_43 (fun H locs hP hD hS => ?_)
            obtain ⟨sg26, esg26⟩ : ∃ z : Nat → Nat → Int32, z = gw_u sg0 0 (upd (sg0 0) 0 (nI 3)) := ⟨_, rfl⟩
            rw [← esg26] at hP hD
            have hk : EM (T) sg26 := by rw [esg26]; exact mw_code hk
            have hcd : sg26 0 0 = (nI 3) := by rw [esg26]; exact m_upd_s _ _ _
            refine lv_aload_n hx hb dX3_pattern_46 rfl (lv_at hl 0 rfl) ?_
            refine gw_geti (C := RX3) (T := TX3) (N := 27) hx hb hts inwX3 hown hK hP 0 0 rfl rfl rfl (by decide) (hts _ a130) (fun _ h9 => h9) dX3_pattern_47 ?_
            refine gw_top (y := (nI 3)) (hcd) ?_
            refine lv_if_le (tgt := 55) hx hb dX3_pattern_50 (by decide) (fun hc27 => ?_) (fun hc27 => ?_)
            · exact absurd hc27 (by decide)
            · refine lv_iconst (v := (nI 0)) hx hb dX3_pattern_53 (by decide) ?_
              have hkv : kPattern (nI (yN T.1)) x1 x2 = nI 3 := by simp [kPattern, kif, hi1, hi2, hn6]
              exact hret _ _ _ _ _ _ hP hS dX3_pattern_54 (⟨by rw [uT_f (by rw [hkv]; decide)]; exact hk, hcd.trans hkv.symm, fun h9 => absurd (hkv.symm.trans h9) (by decide), _, rfl⟩)
        · exact absurd hc14 (by decide)
      · refine W.eq (g2 := F0 m 22 ls [.int (nI 0), .ref (ad 0)]) rfl ?_
        refine lv_if_ne (tgt := 29) hx hb dX3_pattern_22 (by decide) (fun hc28 => ?_) (fun hc28 => ?_)
        · exact absurd hc28 (by decide)
        · refine lv_iconst (v := (nI 2)) hx hb dX3_pattern_25 (by decide) ?_
          refine lv_goto (tgt := 43) hx hb dX3_pattern_26 (by decide) ?_
          refine gw_put (C := RX3) (T := TX3) (N := 27) (ty := .int) hx hb hts inwX3 tyX3 tyX3_ok nmX3 hown hK hP hD hS 0 0 rfl rfl rfl (by decide) (hts _ a130) (fun _ h9 => h9) rfl (by decide +kernel) rfl rfl dX3_pattern_43 (fun H locs hP hD hS => ?_)
          obtain ⟨sg29, esg29⟩ : ∃ z : Nat → Nat → Int32, z = gw_u sg0 0 (upd (sg0 0) 0 (nI 2)) := ⟨_, rfl⟩
          rw [← esg29] at hP hD
          have hk : EM (T) sg29 := by rw [esg29]; exact mw_code hk
          have hcd : sg29 0 0 = (nI 2) := by rw [esg29]; exact m_upd_s _ _ _
          refine lv_aload_n hx hb dX3_pattern_46 rfl (lv_at hl 0 rfl) ?_
          refine gw_geti (C := RX3) (T := TX3) (N := 27) hx hb hts inwX3 hown hK hP 0 0 rfl rfl rfl (by decide) (hts _ a130) (fun _ h9 => h9) dX3_pattern_47 ?_
          refine gw_top (y := (nI 2)) (hcd) ?_
          refine lv_if_le (tgt := 55) hx hb dX3_pattern_50 (by decide) (fun hc30 => ?_) (fun hc30 => ?_)
          · exact absurd hc30 (by decide)
          · refine lv_iconst (v := (nI 0)) hx hb dX3_pattern_53 (by decide) ?_
            have hkv : kPattern (nI (yN T.1)) x1 x2 = nI 2 := by simp [kPattern, kif, hi1, hi2]
            exact hret _ _ _ _ _ _ hP hS dX3_pattern_54 (⟨by rw [uT_f (by rw [hkv]; decide)]; exact hk, hcd.trans hkv.symm, fun h9 => absurd (hkv.symm.trans h9) (by decide), _, rfl⟩)
    · exact absurd hc7 (by decide)
  · refine W.eq (g2 := F0 m 7 ls [.int (nI 0), .ref (ad 0)]) rfl ?_
    refine lv_if_ne (tgt := 14) hx hb dX3_pattern_7 (by decide) (fun hc31 => ?_) (fun hc31 => ?_)
    · exact absurd hc31 (by decide)
    · refine lv_iconst (v := (nI 1)) hx hb dX3_pattern_10 (by decide) ?_
      refine lv_goto (tgt := 43) hx hb dX3_pattern_11 (by decide) ?_
      refine gw_put (C := RX3) (T := TX3) (N := 27) (ty := .int) hx hb hts inwX3 tyX3 tyX3_ok nmX3 hown hK hP hD hS 0 0 rfl rfl rfl (by decide) (hts _ a130) (fun _ h9 => h9) rfl (by decide +kernel) rfl rfl dX3_pattern_43 (fun H locs hP hD hS => ?_)
      obtain ⟨sg32, esg32⟩ : ∃ z : Nat → Nat → Int32, z = gw_u sg0 0 (upd (sg0 0) 0 (nI 1)) := ⟨_, rfl⟩
      rw [← esg32] at hP hD
      have hk : EM (T) sg32 := by rw [esg32]; exact mw_code hk
      have hcd : sg32 0 0 = (nI 1) := by rw [esg32]; exact m_upd_s _ _ _
      refine lv_aload_n hx hb dX3_pattern_46 rfl (lv_at hl 0 rfl) ?_
      refine gw_geti (C := RX3) (T := TX3) (N := 27) hx hb hts inwX3 hown hK hP 0 0 rfl rfl rfl (by decide) (hts _ a130) (fun _ h9 => h9) dX3_pattern_47 ?_
      refine gw_top (y := (nI 1)) (hcd) ?_
      refine lv_if_le (tgt := 55) hx hb dX3_pattern_50 (by decide) (fun hc33 => ?_) (fun hc33 => ?_)
      · exact absurd hc33 (by decide)
      · refine lv_iconst (v := (nI 0)) hx hb dX3_pattern_53 (by decide) ?_
        have hkv : kPattern (nI (yN T.1)) x1 x2 = nI 1 := by simp [kPattern, kif, hi1]
        exact hret _ _ _ _ _ _ hP hS dX3_pattern_54 (⟨by rw [uT_f (by rw [hkv]; decide)]; exact hk, hcd.trans hkv.symm, fun h9 => absurd (hkv.symm.trans h9) (by decide), _, rfl⟩)
abbrev rmf_X3_run : Room := { frames := 3, cells := 0, slots := 0, locals := 70 }
set_option maxRecDepth 100000 in
set_option maxHeartbeats 4000000 in
theorem m_f_X3_run (l : Launch) (hl9 : l.stackTraces = false) (D : va_G) (cI : ClassId) (cJ : ClassId × ClassId) (ad : Nat → Nat) (sg0 : Nat → Nat → Int32) (sz : Nat) (x1 : Int32) (T : TS) (hT : TOk T) (hM : EM T sg0) : gc_M l yX3_run wsX3_run rmf_X3_run D vwCl (tyS cI cJ) cI cJ gxT gxN SM [.ref (ad 0), .int x1] ad sg0 sz 0 0 (fun v sg2 => EM (uT (kRun x1) (tRun T x1) T) sg2 ∧ sg2 0 0 = kRun x1 ∧ (kRun x1 = nI 0 → v = some (.int (aRun T x1))) ∧ ∃ r : Int32, v = some (.int r)) := by
  refine gc_Mi_of (cc := cX3_run) (maxL := 3) (by decide) rfl (Nat.le_of_ble_eq_true rfl) ?_
  intro p e s m below meth c A ls Q hin hE hret
  obtain ⟨⟨hx, hb, hml, hown, hts⟩, -, hlocks, -, hA, hP, hK, hD, hS, hl⟩ := hin
  have hts : ∀ w ∈ wsAll, w.before ([.ref (ad 0), .int x1] : List Value).toArray s = true := fun w h => hts w (List.mem_cons_of_mem _ h)
  have hl : lv_has ls 3 [(0, .ref (ad 0)), (1, .int x1)] := hl
  have hk := hM
  have hN6 := hM.1.1.1
  have c73 : ∀ (n9 : Nat) (i : Nat) (B9 : Nat → Nat → Int32) (a9 : RS) (jq : Nat) (sg : Nat → Nat → Int32) (H : Heap) (locs : List Loc) (ls : Array Slot), 6 - i = n9 → i ≤ 6 → x1 = nI jq → jq < 20001 → kRun x1 = nI 0 → (RB T jq a9 B9 ∧ sg = RBs B9 i) → va_P D vwCl (gw cI cJ ad sg SM) H → va_D A (gw cI cJ ad sg SM) → va_S A s.heap H locs → lv_has ls 3 [(2, .int (nI i)), (0, .ref (ad 0))] → W p l e rmf_X3_run s m ([.ref (ad 0), .int x1] : List Value).toArray below meth c H locs 0 0 Q (F0 m 73 ls []) := by
    intro n9
    induction n9 using Nat.strongRecOn with
    | ind n9 ih =>
    intro i B9 a9 jq sg H locs ls hn h1 h2 h3 h4 hk hP hD hS hl
    subst hn
    have hnq : nt (nI jq) = jq := nt_nI (by omega)
    refine lv_iload_n hx hb dX3_run_73 rfl (lv_at hl 0 rfl) ?_
    refine lv_bipush (v := (nI 6)) hx hb dX3_run_74 (by decide) ?_
    refine lv_icmp_ge (tgt := 97) hx hb dX3_run_76 (by decide) (fun hc1 => ?_) (fun hc1 => ?_)
    · have hc1 : 6 ≤ i := (nI_leI (a := 6) (b := i) (by omega) (by omega)).mp hc1
      refine lv_aload_n hx hb dX3_run_97 rfl (lv_at hl 1 rfl) ?_
      refine gw_geti (C := RX3) (T := TX3) (N := 27) hx hb hts inwX3 hown hK hP 0 17 rfl rfl rfl (by decide) (hts _ a183) (fun _ h9 => h9) dX3_run_98 ?_
      refine lv_if_eq (tgt := 108) hx hb dX3_run_101 (by decide) (fun hc101 => ?_) (fun hc101 => ?_)
      · refine lv_aload_n hx hb dX3_run_108 rfl (lv_at hl 1 rfl) ?_
        refine gw_geti (C := RX3) (T := TX3) (N := 27) hx hb hts inwX3 hown hK hP 0 16 rfl rfl rfl (by decide) (hts _ a132) (fun _ h9 => h9) dX3_run_109 ?_
        refine lv_if_eq (tgt := 119) hx hb dX3_run_112 (by decide) (fun hc112 => ?_) (fun hc112 => ?_)
        · refine lv_iconst (v := (nI 1)) hx hb dX3_run_119 (by decide) ?_
          have hS8 := hk.1.1
          have h17 : sg 0 17 = b2 (cR (yL T.1 jq)).2.1 := by rw [hk.2, ← hS8.2.1]; exact hk.1.2.2.2.2.1
          have h16 : sg 0 16 = b2 (cR (yL T.1 jq)).2.2.1 := by rw [hk.2, ← hS8.2.2.1]; exact hk.1.2.2.2.1
          exact hret _ _ _ _ _ _ hP hS dX3_run_120 (⟨by rw [uT_t h4, hk.2, show i = 6 by omega, h2]; exact RB_end hnq hk.1, by rw [h4, hk.2]; exact hk.1.2.2.1, fun _ => by rw [h2]; unfold aRun; rw [hnq]; rw [h17, b2_0] at hc101; first | (rw [h16, b2_0] at hc112; simp [hc101, hc112]) | simp [hc101], _, rfl⟩)
        · refine lv_iconst (v := (nI 0)) hx hb dX3_run_115 (by decide) ?_
          refine lv_goto (tgt := 120) hx hb dX3_run_116 (by decide) ?_
          have hS8 := hk.1.1
          have h17 : sg 0 17 = b2 (cR (yL T.1 jq)).2.1 := by rw [hk.2, ← hS8.2.1]; exact hk.1.2.2.2.2.1
          have h16 : sg 0 16 = b2 (cR (yL T.1 jq)).2.2.1 := by rw [hk.2, ← hS8.2.2.1]; exact hk.1.2.2.2.1
          exact hret _ _ _ _ _ _ hP hS dX3_run_120 (⟨by rw [uT_t h4, hk.2, show i = 6 by omega, h2]; exact RB_end hnq hk.1, by rw [h4, hk.2]; exact hk.1.2.2.1, fun _ => by rw [h2]; unfold aRun; rw [hnq]; rw [h17, b2_0] at hc101; first | (rw [h16, b2_0] at hc112; simp [hc101, hc112]) | simp [hc101], _, rfl⟩)
      · refine lv_iconst (v := (nI 2)) hx hb dX3_run_104 (by decide) ?_
        refine lv_goto (tgt := 120) hx hb dX3_run_105 (by decide) ?_
        have hS8 := hk.1.1
        have h17 : sg 0 17 = b2 (cR (yL T.1 jq)).2.1 := by rw [hk.2, ← hS8.2.1]; exact hk.1.2.2.2.2.1
        have h16 : sg 0 16 = b2 (cR (yL T.1 jq)).2.2.1 := by rw [hk.2, ← hS8.2.2.1]; exact hk.1.2.2.2.1
        exact hret _ _ _ _ _ _ hP hS dX3_run_120 (⟨by rw [uT_t h4, hk.2, show i = 6 by omega, h2]; exact RB_end hnq hk.1, by rw [h4, hk.2]; exact hk.1.2.2.1, fun _ => by rw [h2]; unfold aRun; rw [hnq]; rw [h17, b2_0] at hc101; first | (rw [h16, b2_0] at hc112; simp [hc101, hc112]) | simp [hc101], _, rfl⟩)
    · have hc1 : ¬ (6 ≤ i) := fun q => hc1 ((nI_leI (a := 6) (b := i) (by omega) (by omega)).mpr q)
      refine lv_aload_n hx hb dX3_run_79 rfl (lv_at hl 1 rfl) ?_
      refine gw_getr (C := RX3) (T := TX3) (N := 27) hx hb hts inwX3 hown hK hP 0 19 10 rfl rfl rfl (by decide) (hts _ a184) (fun _ h9 => h9) dX3_run_80 ?_
      refine lv_iload_n hx hb dX3_run_83 rfl (lv_at hl 0 rfl) ?_
      refine lv_aload_n hx hb dX3_run_84 rfl (lv_at hl 1 rfl) ?_
      refine gw_getr (C := RX3) (T := TX3) (N := 27) hx hb hts inwX3 hown hK hP 0 22 12 rfl rfl rfl (by decide) (hts _ a163) (fun _ h9 => h9) dX3_run_85 ?_
      refine lv_iload_n hx hb dX3_run_88 rfl (lv_at hl 0 rfl) ?_
      refine gw_ald hx hb hK hP 12 0 (n := 6) rfl rfl (i := i) (by omega) (by decide) dX3_run_89 ?_
      refine gw_ast hx hb hK hP hD hS 10 0 (n := 6) rfl rfl (i := i) (by omega) (by decide) dX3_run_90 (fun H locs hP hD hS => ?_)
      obtain ⟨sg2, esg2⟩ : ∃ z : Nat → Nat → Int32, z = gw_u sg 10 (upd (sg 10) i (sg 12 i)) := ⟨_, rfl⟩
      rw [← esg2] at hP hD
      refine lv_iinc (k := 0) (v := (nI (i + 1))) (lv' := [(2, .int (nI (i + 1))), (0, .ref (ad 0))]) hx hb dX3_run_91 hl rfl (nI_1 _) (by decide) rfl (fun ls hl => ?_)
      refine lv_goto (tgt := 73) hx hb dX3_run_94 (by decide) ?_
      exact ih _ (by omega) (i + 1) B9 a9 jq _ _ _ _ rfl (by omega) h2 h3 h4 (⟨hk.1, by rw [esg2, hk.2]; exact fil_s _ _ _ _ _ (by simp [RBs, gw_u])⟩) hP hD hS (lv_sub hl [0, 1] rfl)
  refine lv_aload_n hx hb dX3_run_0 rfl (lv_at hl 0 rfl) ?_
  refine lv_iload_n hx hb dX3_run_1 rfl (lv_at hl 1 rfl) ?_
  refine lv_iconst (v := (nI 0)) hx hb dX3_run_2 (by decide) ?_
  refine lv_sipush (v := (nI 20000)) hx hb dX3_run_3 (by decide) ?_
  refine gc_go (pl := []) (S2 := SE) (ad := ad) (sg := sg0) (va_runS (As := [.int x1, .int (nI 0), .int (nI 20000)]) (rest := [.ref (ad 0)]) ⟨hx, hb, hml, hown, hts⟩ (m_f_X3_isIn l hl9 D cI cJ (fun j => ad (gw_p [] j)) (fun j => sg0 (gw_p [] j)) _ x1 (nI 0) (nI 20000) ) (cwS 3 hts (gwS a133 a134 a135 a136) rfl rfl rfl (by decide +kernel) ⟨by decide, by decide⟩) (gc_preS hK hP hD hS hA hE rfl) rfl rfl hl.1 rfl (lv_room (Nat.le_of_ble_eq_true rfl)) dX3_run_6 ⟨by decide, by decide⟩) hP hD hS hA rfl (fun v3 sp4 sg5 H locs hp6 ha7 hb8 hP hD hS => ?_)
  rw [show sg5 = sg0 from funext (fun k => hb8 k (by simp))] at hP hD
  rcases hp6 with ⟨rfl, hi1⟩ | ⟨rfl, hi1⟩
  · refine W.eq (g2 := F0 m 9 ls [.int (nI 1), .ref (ad 0)]) rfl ?_
    refine lv_if_eq (tgt := 16) hx hb dX3_run_9 (by decide) (fun hc9 => ?_) (fun hc9 => ?_)
    · exact absurd hc9 (by decide)
    · refine lv_iconst (v := (nI 0)) hx hb dX3_run_12 (by decide) ?_
      refine lv_goto (tgt := 17) hx hb dX3_run_13 (by decide) ?_
      refine gw_put (C := RX3) (T := TX3) (N := 27) (ty := .int) hx hb hts inwX3 tyX3 tyX3_ok nmX3 hown hK hP hD hS 0 0 rfl rfl rfl (by decide) (hts _ a130) (fun _ h9 => h9) rfl (by decide +kernel) rfl rfl dX3_run_17 (fun H locs hP hD hS => ?_)
      obtain ⟨sg10, esg10⟩ : ∃ z : Nat → Nat → Int32, z = gw_u sg0 0 (upd (sg0 0) 0 (nI 0)) := ⟨_, rfl⟩
      rw [← esg10] at hP hD
      have hk : EM (T) sg10 := by rw [esg10]; exact mw_code hk
      have hcd : sg10 0 0 = (nI 0) := by rw [esg10]; exact m_upd_s _ _ _
      refine lv_aload_n hx hb dX3_run_20 rfl (lv_at hl 0 rfl) ?_
      refine gw_geti (C := RX3) (T := TX3) (N := 27) hx hb hts inwX3 hown hK hP 0 0 rfl rfl rfl (by decide) (hts _ a130) (fun _ h9 => h9) dX3_run_21 ?_
      refine gw_top (y := (nI 0)) (hcd) ?_
      refine lv_if_le (tgt := 29) hx hb dX3_run_24 (by decide) (fun hc11 => ?_) (fun hc11 => ?_)
      · have hk9 : kRun x1 = nI 0 := by simp [kRun, kif, hi1]
        obtain ⟨j1, hj1, rfl⟩ := inof20000 hi1
        have hnj1 : nt (nI j1) = j1 := nt_nI (by omega)
        refine lv_aload_n hx hb dX3_run_29 rfl (lv_at hl 0 rfl) ?_
        refine lv_iload_n hx hb dX3_run_30 rfl (lv_at hl 1 rfl) ?_
        refine gc_go0 (va_runV (As := [.int (nI j1)]) (rest := []) ⟨hx, hb, hml, hown, hts⟩ (m_f_X3_seek l hl9 D cI cJ ad sg10 _ j1 (by omega) (yL T.1 j1) hk.1 rfl) (cwV 1 hts (gwV a185 a186 a187 a135 a188) rfl rfl rfl (by decide +kernel) ⟨by decide, by decide⟩) (gc_preV0 hK hP hD hS hA hE rfl rfl rfl) rfl rfl hl.1 rfl (lv_room (Nat.le_of_ble_eq_true rfl)) dX3_run_31 ⟨by decide, by decide⟩) hD hS hA (fun v12 sg14 H locs hp15 hP hD hS => ?_)
        obtain ⟨rfl, hF9, hR9⟩ := hp15
        have hS9 := cR_sim (yL T.1 j1) (sg10 0 26) (sg10 12)
        generalize ySrch (yL T.1 j1) (yN (yL T.1 j1)) 0 z0 (0, false, false, sg10 0 26, sg10 12) = a9 at hR9 hS9
        have hk := EM_mf hF9 hk
        have hcd : sg14 0 0 = nI 0 := (hF9.2 0 (by decide)).trans hcd
        refine W.eq (g2 := F0 m 34 ls []) rfl ?_
        refine lv_aload_n hx hb dX3_run_34 rfl (lv_at hl 0 rfl) ?_
        refine lv_iconst (v := (nI 1)) hx hb dX3_run_35 (by decide) ?_
        refine gw_put (C := RX3) (T := TX3) (N := 27) (ty := .boolean) hx hb hts inwX3 tyX3 tyX3_ok nmX3 hown hK hP hD hS 0 15 rfl rfl rfl (by decide) (hts _ a131) (fun _ h9 => h9) rfl (by decide +kernel) rfl rfl dX3_run_36 (fun H locs hP hD hS => ?_)
        obtain ⟨sg18, esg18⟩ : ∃ z : Nat → Nat → Int32, z = gw_u sg14 0 (upd (sg14 0) 15 (nI 1)) := ⟨_, rfl⟩
        rw [← esg18] at hP hD
        refine lv_aload_n hx hb dX3_run_39 rfl (lv_at hl 0 rfl) ?_
        refine lv_aload_n hx hb dX3_run_40 rfl (lv_at hl 0 rfl) ?_
        refine gw_geti (C := RX3) (T := TX3) (N := 27) hx hb hts inwX3 hown hK hP 0 23 rfl rfl rfl (by decide) (hts _ a164) (fun _ h9 => h9) dX3_run_41 ?_
        refine gw_top (y := (b2 a9.2.2.1)) (by rw [esg18, m_upd _ (by decide)]; exact hR9.2.2.1) ?_
        refine gw_put (C := RX3) (T := TX3) (N := 27) (ty := .boolean) hx hb hts inwX3 tyX3 tyX3_ok nmX3 hown hK hP hD hS 0 16 rfl rfl rfl (by decide) (hts _ a132) (fun _ h9 => h9) rfl (by decide +kernel) (nb (b2_01 _)) (nbf (b2_01 _)) dX3_run_44 (fun H locs hP hD hS => ?_)
        obtain ⟨sg19, esg19⟩ : ∃ z : Nat → Nat → Int32, z = gw_u sg18 0 (upd (sg18 0) 16 (b2 a9.2.2.1)) := ⟨_, rfl⟩
        rw [← esg19] at hP hD
        refine lv_aload_n hx hb dX3_run_47 rfl (lv_at hl 0 rfl) ?_
        refine lv_aload_n hx hb dX3_run_48 rfl (lv_at hl 0 rfl) ?_
        refine gw_geti (C := RX3) (T := TX3) (N := 27) hx hb hts inwX3 hown hK hP 0 24 rfl rfl rfl (by decide) (hts _ a182) (fun _ h9 => h9) dX3_run_49 ?_
        refine gw_top (y := (b2 a9.2.1)) (by simp [esg19, esg18, gw_u, upd]; exact hR9.2.1) ?_
        refine gw_put (C := RX3) (T := TX3) (N := 27) (ty := .boolean) hx hb hts inwX3 tyX3 tyX3_ok nmX3 hown hK hP hD hS 0 17 rfl rfl rfl (by decide) (hts _ a183) (fun _ h9 => h9) rfl (by decide +kernel) (nb (b2_01 _)) (nbf (b2_01 _)) dX3_run_52 (fun H locs hP hD hS => ?_)
        obtain ⟨sg20, esg20⟩ : ∃ z : Nat → Nat → Int32, z = gw_u sg19 0 (upd (sg19 0) 17 (b2 a9.2.1)) := ⟨_, rfl⟩
        rw [← esg20] at hP hD
        refine lv_aload_n hx hb dX3_run_55 rfl (lv_at hl 0 rfl) ?_
        refine lv_aload_n hx hb dX3_run_56 rfl (lv_at hl 0 rfl) ?_
        refine gw_geti (C := RX3) (T := TX3) (N := 27) hx hb hts inwX3 hown hK hP 0 25 rfl rfl rfl (by decide) (hts _ a177) (fun _ h9 => h9) dX3_run_57 ?_
        refine gw_put (C := RX3) (T := TX3) (N := 27) (ty := .int) hx hb hts inwX3 tyX3 tyX3_ok nmX3 hown hK hP hD hS 0 18 rfl rfl rfl (by decide) (hts _ a189) (fun _ h9 => h9) rfl (by decide +kernel) rfl rfl dX3_run_60 (fun H locs hP hD hS => ?_)
        obtain ⟨sg21, esg21⟩ : ∃ z : Nat → Nat → Int32, z = gw_u sg20 0 (upd (sg20 0) 18 (sg20 0 25)) := ⟨_, rfl⟩
        rw [← esg21] at hP hD
        refine lv_aload_n hx hb dX3_run_63 rfl (lv_at hl 0 rfl) ?_
        refine lv_aload_n hx hb dX3_run_64 rfl (lv_at hl 0 rfl) ?_
        refine gw_geti (C := RX3) (T := TX3) (N := 27) hx hb hts inwX3 hown hK hP 0 26 rfl rfl rfl (by decide) (hts _ a165) (fun _ h9 => h9) dX3_run_65 ?_
        refine gw_put (C := RX3) (T := TX3) (N := 27) (ty := .int) hx hb hts inwX3 tyX3 tyX3_ok nmX3 hown hK hP hD hS 0 20 rfl rfl rfl (by decide) (hts _ a190) (fun _ h9 => h9) rfl (by decide +kernel) rfl rfl dX3_run_68 (fun H locs hP hD hS => ?_)
        obtain ⟨sg22, esg22⟩ : ∃ z : Nat → Nat → Int32, z = gw_u sg21 0 (upd (sg21 0) 20 (sg21 0 26)) := ⟨_, rfl⟩
        rw [← esg22] at hP hD
        refine lv_iconst (v := (nI 0)) hx hb dX3_run_71 (by decide) ?_
        refine lv_istore_n (lv' := [(2, .int (nI 0)), (0, .ref (ad 0)), (1, .int (nI j1))]) hx hb dX3_run_72 rfl hl (by decide) rfl (fun ls hl => ?_)
        exact c73 _ 0 sg22 a9 j1 _ _ _ _ rfl (by omega) rfl (by omega) hk9 (⟨⟨hS9, hk.1.cong (fun k9 h8 h9 => by simp [esg22, esg21, esg20, esg19, esg18, gw_u, show k9 ≠ 0 by omega]) (by simp [esg22, esg21, esg20, esg19, esg18, gw_u, upd]) (by simp [esg22, esg21, esg20, esg19, esg18, gw_u, upd]) (by simp [esg22, esg21, esg20, esg19, esg18, gw_u, upd]), by simp [esg22, esg21, esg20, esg19, esg18, gw_u, upd]; exact hcd, by simp [esg22, esg21, esg20, esg19, esg18, gw_u, upd], by simp [esg22, esg21, esg20, esg19, esg18, gw_u, upd], by simp [esg22, esg21, esg20, esg19, esg18, gw_u, upd]; exact hR9.2.2.2.1, fun q9 h9 => by simp [esg22, esg21, esg20, esg19, esg18, gw_u]; exact hR9.2.2.2.2 q9 h9, by simp [esg22, esg21, esg20, esg19, esg18, gw_u, upd]; exact hk.2.2.2.1, by simp [esg22, esg21, esg20, esg19, esg18, gw_u, upd]; exact hk.2.2.2.2⟩, (fil_0 _ _ _).symm⟩) hP hD hS (lv_sub hl [0, 1] rfl)
      · exact absurd hc11 (by decide)
  · refine W.eq (g2 := F0 m 9 ls [.int (nI 0), .ref (ad 0)]) rfl ?_
    refine lv_if_eq (tgt := 16) hx hb dX3_run_9 (by decide) (fun hc23 => ?_) (fun hc23 => ?_)
    · refine lv_iconst (v := (nI 1)) hx hb dX3_run_16 (by decide) ?_
      refine gw_put (C := RX3) (T := TX3) (N := 27) (ty := .int) hx hb hts inwX3 tyX3 tyX3_ok nmX3 hown hK hP hD hS 0 0 rfl rfl rfl (by decide) (hts _ a130) (fun _ h9 => h9) rfl (by decide +kernel) rfl rfl dX3_run_17 (fun H locs hP hD hS => ?_)
      obtain ⟨sg24, esg24⟩ : ∃ z : Nat → Nat → Int32, z = gw_u sg0 0 (upd (sg0 0) 0 (nI 1)) := ⟨_, rfl⟩
      rw [← esg24] at hP hD
      have hk : EM (T) sg24 := by rw [esg24]; exact mw_code hk
      have hcd : sg24 0 0 = (nI 1) := by rw [esg24]; exact m_upd_s _ _ _
      refine lv_aload_n hx hb dX3_run_20 rfl (lv_at hl 0 rfl) ?_
      refine gw_geti (C := RX3) (T := TX3) (N := 27) hx hb hts inwX3 hown hK hP 0 0 rfl rfl rfl (by decide) (hts _ a130) (fun _ h9 => h9) dX3_run_21 ?_
      refine gw_top (y := (nI 1)) (hcd) ?_
      refine lv_if_le (tgt := 29) hx hb dX3_run_24 (by decide) (fun hc25 => ?_) (fun hc25 => ?_)
      · exact absurd hc25 (by decide)
      · refine lv_iconst (v := (nI 0)) hx hb dX3_run_27 (by decide) ?_
        have hkv : kRun x1 = nI 1 := by simp [kRun, kif, hi1]
        exact hret _ _ _ _ _ _ hP hS dX3_run_28 (⟨by rw [uT_f (by rw [hkv]; decide)]; exact hk, hcd.trans hkv.symm, fun h9 => absurd (hkv.symm.trans h9) (by decide), _, rfl⟩)
    · exact absurd hc23 (by decide)
abbrev rmf_X3_bound : Room := { frames := 0, cells := 0, slots := 0, locals := 0 }
set_option maxRecDepth 100000 in
set_option maxHeartbeats 4000000 in
theorem m_f_X3_bound (l : Launch) (hl9 : l.stackTraces = false) (D : va_G) (cI : ClassId) (cJ : ClassId × ClassId) (ad : Nat → Nat) (sg0 : Nat → Nat → Int32) (sz : Nat) : gc_M l yX3_bound wsX3_bound rmf_X3_bound D vwCl (tyS cI cJ) cI cJ gxT gxN SM [.ref (ad 0)] ad sg0 sz 0 0 (fun v sg2 => sg2 = sg0 ∧ ∃ r : Int32, v = some (.int r)) := by
  refine gc_Mi_of (cc := cX3_bound) (maxL := 3) (by decide) rfl (Nat.le_of_ble_eq_true rfl) ?_
  intro p e s m below meth c A ls Q hin hE hret
  obtain ⟨⟨hx, hb, hml, hown, hts⟩, -, hlocks, -, hA, hP, hK, hD, hS, hl⟩ := hin
  have hts : ∀ w ∈ wsAll, w.before ([.ref (ad 0)] : List Value).toArray s = true := fun w h => hts w (List.mem_cons_of_mem _ h)
  have hl : lv_has ls 3 [(0, .ref (ad 0))] := hl
  have c4 : ∀ (n9 : Nat) (i : Nat) (x1 : Int32) (sg : Nat → Nat → Int32) (H : Heap) (locs : List Loc) (ls : Array Slot), 4 - i = n9 → i ≤ 4 → (sg = sg0) → va_P D vwCl (gw cI cJ ad sg SM) H → va_D A (gw cI cJ ad sg SM) → va_S A s.heap H locs → lv_has ls 3 [(2, .int (nI i)), (1, .int x1), (0, .ref (ad 0))] → W p l e rmf_X3_bound s m ([.ref (ad 0)] : List Value).toArray below meth c H locs 0 0 Q (F0 m 4 ls []) := by
    intro n9
    induction n9 using Nat.strongRecOn with
    | ind n9 ih =>
    intro i x1 sg H locs ls hn h1 hk hP hD hS hl
    subst hn
    refine lv_iload_n hx hb dX3_bound_4 rfl (lv_at hl 0 rfl) ?_
    refine lv_iconst (v := (nI 4)) hx hb dX3_bound_5 (by decide) ?_
    refine lv_icmp_ge (tgt := 31) hx hb dX3_bound_6 (by decide) (fun hc1 => ?_) (fun hc1 => ?_)
    · have hc1 : 4 ≤ i := (nI_leI (a := 4) (b := i) (by omega) (by omega)).mp hc1
      refine lv_iload_n hx hb dX3_bound_31 rfl (lv_at hl 1 rfl) ?_
      exact hret _ _ _ _ _ _ hP hS dX3_bound_32 (⟨hk, _, rfl⟩)
    · have hc1 : ¬ (4 ≤ i) := fun q => hc1 ((nI_leI (a := 4) (b := i) (by omega) (by omega)).mpr q)
      refine lv_iload_n hx hb dX3_bound_9 rfl (lv_at hl 1 rfl) ?_
      refine lv_aload_n hx hb dX3_bound_10 rfl (lv_at hl 2 rfl) ?_
      refine gw_getr (C := RX3) (T := TX3) (N := 27) hx hb hts inwX3 hown hK hP 0 9 8 rfl rfl rfl (by decide) (hts _ a146) (fun _ h9 => h9) dX3_bound_11 ?_
      refine lv_iload_n hx hb dX3_bound_14 rfl (lv_at hl 0 rfl) ?_
      refine gw_ald hx hb hK hP 8 0 (n := 4) rfl rfl (i := i) (by omega) (by decide) dX3_bound_15 ?_
      refine lv_topi (fun v2 hv2 => ?_)
      refine lv_aload_n hx hb dX3_bound_16 rfl (lv_at hl 2 rfl) ?_
      refine gw_getr (C := RX3) (T := TX3) (N := 27) hx hb hts inwX3 hown hK hP 0 8 7 rfl rfl rfl (by decide) (hts _ a145) (fun _ h9 => h9) dX3_bound_17 ?_
      refine lv_iload_n hx hb dX3_bound_20 rfl (lv_at hl 0 rfl) ?_
      refine gw_ald hx hb hK hP 7 0 (n := 4) rfl rfl (i := i) (by omega) (by decide) dX3_bound_21 ?_
      refine lv_topi (fun v3 hv3 => ?_)
      refine lv_imul hx hb dX3_bound_22 ?_
      refine lv_topi (fun v4 hv4 => ?_)
      refine lv_iadd hx hb dX3_bound_23 ?_
      refine lv_topi (fun v5 hv5 => ?_)
      refine lv_istore_n (lv' := [(1, .int v5), (2, .int (nI i)), (0, .ref (ad 0))]) hx hb dX3_bound_24 rfl hl (by decide) rfl (fun ls hl => ?_)
      refine lv_iinc (k := 1) (v := (nI (i + 1))) (lv' := [(2, .int (nI (i + 1))), (1, .int v5), (0, .ref (ad 0))]) hx hb dX3_bound_25 hl rfl (nI_1 _) (by decide) rfl (fun ls hl => ?_)
      refine lv_goto (tgt := 4) hx hb dX3_bound_28 (by decide) ?_
      exact ih _ (by omega) (i + 1) v5 _ _ _ _ rfl (by omega) hk hP hD hS (lv_sub hl [0, 1, 2] rfl)
  refine lv_iconst (v := (nI 0)) hx hb dX3_bound_0 (by decide) ?_
  refine lv_istore_n (lv' := [(1, .int (nI 0)), (0, .ref (ad 0))]) hx hb dX3_bound_1 rfl hl (by decide) rfl (fun ls hl => ?_)
  refine lv_iconst (v := (nI 0)) hx hb dX3_bound_2 (by decide) ?_
  refine lv_istore_n (lv' := [(2, .int (nI 0)), (1, .int (nI 0)), (0, .ref (ad 0))]) hx hb dX3_bound_3 rfl hl (by decide) rfl (fun ls hl => ?_)
  exact c4 _ 0 (nI 0) _ _ _ _ rfl (by omega) rfl hP hD hS (lv_sub hl [0, 1, 2] rfl)
abbrev rmf_X3_search : Room := { frames := 1, cells := 0, slots := 0, locals := 22 }
set_option maxRecDepth 100000 in
set_option maxHeartbeats 4000000 in
theorem m_f_X3_search (l : Launch) (hl9 : l.stackTraces = false) (D : va_G) (cI : ClassId) (cJ : ClassId × ClassId) (ad : Nat → Nat) (sg0 : Nat → Nat → Int32) (sz : Nat) (x1 : Int32) (T : TS) (hT : TOk T) (hM : EM T sg0) : gc_M l yX3_search wsX3_search rmf_X3_search D vwCl (tyS cI cJ) cI cJ gxT gxN SM [.ref (ad 0), .int x1] ad sg0 sz 0 0 (fun v sg2 => EM T sg2 ∧ ∃ r : Int32, v = some (.int r)) := by
  refine gc_Mi_of (cc := cX3_search) (maxL := 2) (by decide) rfl (Nat.le_of_ble_eq_true rfl) ?_
  intro p e s m below meth c A ls Q hin hE hret
  obtain ⟨⟨hx, hb, hml, hown, hts⟩, -, hlocks, -, hA, hP, hK, hD, hS, hl⟩ := hin
  have hts : ∀ w ∈ wsAll, w.before ([.ref (ad 0), .int x1] : List Value).toArray s = true := fun w h => hts w (List.mem_cons_of_mem _ h)
  have hl : lv_has ls 2 [(0, .ref (ad 0)), (1, .int x1)] := hl
  have hk := hM
  refine lv_aload_n hx hb dX3_search_0 rfl (lv_at hl 0 rfl) ?_
  refine lv_iload_n hx hb dX3_search_1 rfl (lv_at hl 1 rfl) ?_
  refine lv_iconst (v := (nI 0)) hx hb dX3_search_2 (by decide) ?_
  refine lv_iconst (v := (nI 3)) hx hb dX3_search_3 (by decide) ?_
  refine gc_go (pl := []) (S2 := SE) (ad := ad) (sg := sg0) (va_runS (As := [.int x1, .int (nI 0), .int (nI 3)]) (rest := [.ref (ad 0)]) ⟨hx, hb, hml, hown, hts⟩ (m_f_X3_isIn l hl9 D cI cJ (fun j => ad (gw_p [] j)) (fun j => sg0 (gw_p [] j)) _ x1 (nI 0) (nI 3) ) (cwS 3 hts (gwS a133 a134 a135 a136) rfl rfl rfl (by decide +kernel) ⟨by decide, by decide⟩) (gc_preS hK hP hD hS hA hE rfl) rfl rfl hl.1 rfl (lv_room (Nat.le_of_ble_eq_true rfl)) dX3_search_4 ⟨by decide, by decide⟩) hP hD hS hA rfl (fun v1 sp2 sg3 H locs hp4 ha5 hb6 hP hD hS => ?_)
  rw [show sg3 = sg0 from funext (fun k => hb6 k (by simp))] at hP hD
  rcases hp4 with ⟨rfl, hi1⟩ | ⟨rfl, hi1⟩
  · refine W.eq (g2 := F0 m 7 ls [.int (nI 1), .ref (ad 0)]) rfl ?_
    refine lv_if_ne (tgt := 14) hx hb dX3_search_7 (by decide) (fun hc7 => ?_) (fun hc7 => ?_)
    · refine lv_aload_n hx hb dX3_search_14 rfl (lv_at hl 0 rfl) ?_
      refine gw_geti (C := RX3) (T := TX3) (N := 27) hx hb hts inwX3 hown hK hP 0 15 rfl rfl rfl (by decide) (hts _ a131) (fun _ h9 => h9) dX3_search_15 ?_
      refine lv_topi (fun v8 hv8 => ?_)
      refine lv_if_ne (tgt := 25) hx hb dX3_search_18 (by decide) (fun hc9 => ?_) (fun hc9 => ?_)
      · refine lv_iconst (v := (nI 0)) hx hb dX3_search_25 (by decide) ?_
        refine gw_put (C := RX3) (T := TX3) (N := 27) (ty := .int) hx hb hts inwX3 tyX3 tyX3_ok nmX3 hown hK hP hD hS 0 0 rfl rfl rfl (by decide) (hts _ a130) (fun _ h9 => h9) rfl (by decide +kernel) rfl rfl dX3_search_26 (fun H locs hP hD hS => ?_)
        obtain ⟨sg10, esg10⟩ : ∃ z : Nat → Nat → Int32, z = gw_u sg0 0 (upd (sg0 0) 0 (nI 0)) := ⟨_, rfl⟩
        rw [← esg10] at hP hD
        have hk : EM T sg10 := by rw [esg10]; exact mw_code hk
        refine lv_aload_n hx hb dX3_search_29 rfl (lv_at hl 0 rfl) ?_
        refine gw_geti (C := RX3) (T := TX3) (N := 27) hx hb hts inwX3 hown hK hP 0 0 rfl rfl rfl (by decide) (hts _ a130) (fun _ h9 => h9) dX3_search_30 ?_
        refine lv_topi (fun v11 hv11 => ?_)
        refine lv_if_le (tgt := 38) hx hb dX3_search_33 (by decide) (fun hc12 => ?_) (fun hc12 => ?_)
        · refine lv_iload_n hx hb dX3_search_38 rfl (lv_at hl 1 rfl) ?_
          refine lv_if_ne (tgt := 49) hx hb dX3_search_39 (by decide) (fun hc13 => ?_) (fun hc13 => ?_)
          · refine lv_iload_n hx hb dX3_search_49 rfl (lv_at hl 1 rfl) ?_
            refine lv_iconst (v := (nI 1)) hx hb dX3_search_50 (by decide) ?_
            refine lv_icmp_ne (tgt := 69) hx hb dX3_search_51 (by decide) (fun hc14 => ?_) (fun hc14 => ?_)
            · refine lv_iload_n hx hb dX3_search_69 rfl (lv_at hl 1 rfl) ?_
              refine lv_iconst (v := (nI 2)) hx hb dX3_search_70 (by decide) ?_
              refine lv_icmp_ne (tgt := 89) hx hb dX3_search_71 (by decide) (fun hc15 => ?_) (fun hc15 => ?_)
              · refine lv_aload_n hx hb dX3_search_89 rfl (lv_at hl 0 rfl) ?_
                refine gc_go0 (va_runV (As := []) (rest := []) ⟨hx, hb, hml, hown, hts⟩ (m_f_X3_bound l hl9 D cI cJ ad sg10 _  ) (cwV 0 hts (gwV a191 a192 a193 a135 a194) rfl rfl rfl (by decide +kernel) ⟨by decide, by decide⟩) (gc_preV0 hK hP hD hS hA hE rfl rfl rfl) rfl rfl hl.1 rfl (lv_room (Nat.le_of_ble_eq_true rfl)) dX3_search_90 ⟨by decide, by decide⟩) hD hS hA (fun v16 sg18 H locs hp19 hP hD hS => ?_)
                obtain ⟨hs9, r22, rfl⟩ := hp19
                rw [hs9] at hP hD
                refine W.eq (g2 := F0 m 93 ls [.int r22]) rfl ?_
                exact hret _ _ _ _ _ _ hP hS dX3_search_93 (⟨hk, _, rfl⟩)
              · refine lv_aload_n hx hb dX3_search_74 rfl (lv_at hl 0 rfl) ?_
                refine gw_geti (C := RX3) (T := TX3) (N := 27) hx hb hts inwX3 hown hK hP 0 16 rfl rfl rfl (by decide) (hts _ a132) (fun _ h9 => h9) dX3_search_75 ?_
                refine lv_topi (fun v23 hv23 => ?_)
                refine lv_if_eq (tgt := 85) hx hb dX3_search_78 (by decide) (fun hc24 => ?_) (fun hc24 => ?_)
                · refine lv_iconst (v := (nI 0)) hx hb dX3_search_85 (by decide) ?_
                  refine lv_goto (tgt := 93) hx hb dX3_search_86 (by decide) ?_
                  exact hret _ _ _ _ _ _ hP hS dX3_search_93 (⟨hk, _, rfl⟩)
                · refine lv_iconst (v := (nI 1)) hx hb dX3_search_81 (by decide) ?_
                  refine lv_goto (tgt := 93) hx hb dX3_search_82 (by decide) ?_
                  exact hret _ _ _ _ _ _ hP hS dX3_search_93 (⟨hk, _, rfl⟩)
            · refine lv_aload_n hx hb dX3_search_54 rfl (lv_at hl 0 rfl) ?_
              refine gw_geti (C := RX3) (T := TX3) (N := 27) hx hb hts inwX3 hown hK hP 0 17 rfl rfl rfl (by decide) (hts _ a183) (fun _ h9 => h9) dX3_search_55 ?_
              refine lv_topi (fun v25 hv25 => ?_)
              refine lv_if_eq (tgt := 65) hx hb dX3_search_58 (by decide) (fun hc26 => ?_) (fun hc26 => ?_)
              · refine lv_iconst (v := (nI 1)) hx hb dX3_search_65 (by decide) ?_
                refine lv_goto (tgt := 93) hx hb dX3_search_66 (by decide) ?_
                exact hret _ _ _ _ _ _ hP hS dX3_search_93 (⟨hk, _, rfl⟩)
              · refine lv_iconst (v := (nI 0)) hx hb dX3_search_61 (by decide) ?_
                refine lv_goto (tgt := 93) hx hb dX3_search_62 (by decide) ?_
                exact hret _ _ _ _ _ _ hP hS dX3_search_93 (⟨hk, _, rfl⟩)
          · refine lv_aload_n hx hb dX3_search_42 rfl (lv_at hl 0 rfl) ?_
            refine gw_geti (C := RX3) (T := TX3) (N := 27) hx hb hts inwX3 hown hK hP 0 18 rfl rfl rfl (by decide) (hts _ a189) (fun _ h9 => h9) dX3_search_43 ?_
            refine lv_topi (fun v27 hv27 => ?_)
            refine lv_goto (tgt := 93) hx hb dX3_search_46 (by decide) ?_
            exact hret _ _ _ _ _ _ hP hS dX3_search_93 (⟨hk, _, rfl⟩)
        · refine lv_iconst (v := (nI 0)) hx hb dX3_search_36 (by decide) ?_
          exact hret _ _ _ _ _ _ hP hS dX3_search_37 (⟨hk, _, rfl⟩)
      · refine lv_iconst (v := (nI 2)) hx hb dX3_search_21 (by decide) ?_
        refine lv_goto (tgt := 26) hx hb dX3_search_22 (by decide) ?_
        refine gw_put (C := RX3) (T := TX3) (N := 27) (ty := .int) hx hb hts inwX3 tyX3 tyX3_ok nmX3 hown hK hP hD hS 0 0 rfl rfl rfl (by decide) (hts _ a130) (fun _ h9 => h9) rfl (by decide +kernel) rfl rfl dX3_search_26 (fun H locs hP hD hS => ?_)
        obtain ⟨sg28, esg28⟩ : ∃ z : Nat → Nat → Int32, z = gw_u sg0 0 (upd (sg0 0) 0 (nI 2)) := ⟨_, rfl⟩
        rw [← esg28] at hP hD
        have hk : EM T sg28 := by rw [esg28]; exact mw_code hk
        refine lv_aload_n hx hb dX3_search_29 rfl (lv_at hl 0 rfl) ?_
        refine gw_geti (C := RX3) (T := TX3) (N := 27) hx hb hts inwX3 hown hK hP 0 0 rfl rfl rfl (by decide) (hts _ a130) (fun _ h9 => h9) dX3_search_30 ?_
        refine lv_topi (fun v29 hv29 => ?_)
        refine lv_if_le (tgt := 38) hx hb dX3_search_33 (by decide) (fun hc30 => ?_) (fun hc30 => ?_)
        · refine lv_iload_n hx hb dX3_search_38 rfl (lv_at hl 1 rfl) ?_
          refine lv_if_ne (tgt := 49) hx hb dX3_search_39 (by decide) (fun hc31 => ?_) (fun hc31 => ?_)
          · refine lv_iload_n hx hb dX3_search_49 rfl (lv_at hl 1 rfl) ?_
            refine lv_iconst (v := (nI 1)) hx hb dX3_search_50 (by decide) ?_
            refine lv_icmp_ne (tgt := 69) hx hb dX3_search_51 (by decide) (fun hc32 => ?_) (fun hc32 => ?_)
            · refine lv_iload_n hx hb dX3_search_69 rfl (lv_at hl 1 rfl) ?_
              refine lv_iconst (v := (nI 2)) hx hb dX3_search_70 (by decide) ?_
              refine lv_icmp_ne (tgt := 89) hx hb dX3_search_71 (by decide) (fun hc33 => ?_) (fun hc33 => ?_)
              · refine lv_aload_n hx hb dX3_search_89 rfl (lv_at hl 0 rfl) ?_
                refine gc_go0 (va_runV (As := []) (rest := []) ⟨hx, hb, hml, hown, hts⟩ (m_f_X3_bound l hl9 D cI cJ ad sg28 _  ) (cwV 0 hts (gwV a191 a192 a193 a135 a194) rfl rfl rfl (by decide +kernel) ⟨by decide, by decide⟩) (gc_preV0 hK hP hD hS hA hE rfl rfl rfl) rfl rfl hl.1 rfl (lv_room (Nat.le_of_ble_eq_true rfl)) dX3_search_90 ⟨by decide, by decide⟩) hD hS hA (fun v34 sg36 H locs hp37 hP hD hS => ?_)
                obtain ⟨hs9, r40, rfl⟩ := hp37
                rw [hs9] at hP hD
                refine W.eq (g2 := F0 m 93 ls [.int r40]) rfl ?_
                exact hret _ _ _ _ _ _ hP hS dX3_search_93 (⟨hk, _, rfl⟩)
              · refine lv_aload_n hx hb dX3_search_74 rfl (lv_at hl 0 rfl) ?_
                refine gw_geti (C := RX3) (T := TX3) (N := 27) hx hb hts inwX3 hown hK hP 0 16 rfl rfl rfl (by decide) (hts _ a132) (fun _ h9 => h9) dX3_search_75 ?_
                refine lv_topi (fun v41 hv41 => ?_)
                refine lv_if_eq (tgt := 85) hx hb dX3_search_78 (by decide) (fun hc42 => ?_) (fun hc42 => ?_)
                · refine lv_iconst (v := (nI 0)) hx hb dX3_search_85 (by decide) ?_
                  refine lv_goto (tgt := 93) hx hb dX3_search_86 (by decide) ?_
                  exact hret _ _ _ _ _ _ hP hS dX3_search_93 (⟨hk, _, rfl⟩)
                · refine lv_iconst (v := (nI 1)) hx hb dX3_search_81 (by decide) ?_
                  refine lv_goto (tgt := 93) hx hb dX3_search_82 (by decide) ?_
                  exact hret _ _ _ _ _ _ hP hS dX3_search_93 (⟨hk, _, rfl⟩)
            · refine lv_aload_n hx hb dX3_search_54 rfl (lv_at hl 0 rfl) ?_
              refine gw_geti (C := RX3) (T := TX3) (N := 27) hx hb hts inwX3 hown hK hP 0 17 rfl rfl rfl (by decide) (hts _ a183) (fun _ h9 => h9) dX3_search_55 ?_
              refine lv_topi (fun v43 hv43 => ?_)
              refine lv_if_eq (tgt := 65) hx hb dX3_search_58 (by decide) (fun hc44 => ?_) (fun hc44 => ?_)
              · refine lv_iconst (v := (nI 1)) hx hb dX3_search_65 (by decide) ?_
                refine lv_goto (tgt := 93) hx hb dX3_search_66 (by decide) ?_
                exact hret _ _ _ _ _ _ hP hS dX3_search_93 (⟨hk, _, rfl⟩)
              · refine lv_iconst (v := (nI 0)) hx hb dX3_search_61 (by decide) ?_
                refine lv_goto (tgt := 93) hx hb dX3_search_62 (by decide) ?_
                exact hret _ _ _ _ _ _ hP hS dX3_search_93 (⟨hk, _, rfl⟩)
          · refine lv_aload_n hx hb dX3_search_42 rfl (lv_at hl 0 rfl) ?_
            refine gw_geti (C := RX3) (T := TX3) (N := 27) hx hb hts inwX3 hown hK hP 0 18 rfl rfl rfl (by decide) (hts _ a189) (fun _ h9 => h9) dX3_search_43 ?_
            refine lv_topi (fun v45 hv45 => ?_)
            refine lv_goto (tgt := 93) hx hb dX3_search_46 (by decide) ?_
            exact hret _ _ _ _ _ _ hP hS dX3_search_93 (⟨hk, _, rfl⟩)
        · refine lv_iconst (v := (nI 0)) hx hb dX3_search_36 (by decide) ?_
          exact hret _ _ _ _ _ _ hP hS dX3_search_37 (⟨hk, _, rfl⟩)
    · exact absurd hc7 (by decide)
  · refine W.eq (g2 := F0 m 7 ls [.int (nI 0), .ref (ad 0)]) rfl ?_
    refine lv_if_ne (tgt := 14) hx hb dX3_search_7 (by decide) (fun hc46 => ?_) (fun hc46 => ?_)
    · exact absurd hc46 (by decide)
    · refine lv_iconst (v := (nI 1)) hx hb dX3_search_10 (by decide) ?_
      refine lv_goto (tgt := 26) hx hb dX3_search_11 (by decide) ?_
      refine gw_put (C := RX3) (T := TX3) (N := 27) (ty := .int) hx hb hts inwX3 tyX3 tyX3_ok nmX3 hown hK hP hD hS 0 0 rfl rfl rfl (by decide) (hts _ a130) (fun _ h9 => h9) rfl (by decide +kernel) rfl rfl dX3_search_26 (fun H locs hP hD hS => ?_)
      obtain ⟨sg47, esg47⟩ : ∃ z : Nat → Nat → Int32, z = gw_u sg0 0 (upd (sg0 0) 0 (nI 1)) := ⟨_, rfl⟩
      rw [← esg47] at hP hD
      have hk : EM T sg47 := by rw [esg47]; exact mw_code hk
      refine lv_aload_n hx hb dX3_search_29 rfl (lv_at hl 0 rfl) ?_
      refine gw_geti (C := RX3) (T := TX3) (N := 27) hx hb hts inwX3 hown hK hP 0 0 rfl rfl rfl (by decide) (hts _ a130) (fun _ h9 => h9) dX3_search_30 ?_
      refine lv_topi (fun v48 hv48 => ?_)
      refine lv_if_le (tgt := 38) hx hb dX3_search_33 (by decide) (fun hc49 => ?_) (fun hc49 => ?_)
      · refine lv_iload_n hx hb dX3_search_38 rfl (lv_at hl 1 rfl) ?_
        refine lv_if_ne (tgt := 49) hx hb dX3_search_39 (by decide) (fun hc50 => ?_) (fun hc50 => ?_)
        · refine lv_iload_n hx hb dX3_search_49 rfl (lv_at hl 1 rfl) ?_
          refine lv_iconst (v := (nI 1)) hx hb dX3_search_50 (by decide) ?_
          refine lv_icmp_ne (tgt := 69) hx hb dX3_search_51 (by decide) (fun hc51 => ?_) (fun hc51 => ?_)
          · refine lv_iload_n hx hb dX3_search_69 rfl (lv_at hl 1 rfl) ?_
            refine lv_iconst (v := (nI 2)) hx hb dX3_search_70 (by decide) ?_
            refine lv_icmp_ne (tgt := 89) hx hb dX3_search_71 (by decide) (fun hc52 => ?_) (fun hc52 => ?_)
            · refine lv_aload_n hx hb dX3_search_89 rfl (lv_at hl 0 rfl) ?_
              refine gc_go0 (va_runV (As := []) (rest := []) ⟨hx, hb, hml, hown, hts⟩ (m_f_X3_bound l hl9 D cI cJ ad sg47 _  ) (cwV 0 hts (gwV a191 a192 a193 a135 a194) rfl rfl rfl (by decide +kernel) ⟨by decide, by decide⟩) (gc_preV0 hK hP hD hS hA hE rfl rfl rfl) rfl rfl hl.1 rfl (lv_room (Nat.le_of_ble_eq_true rfl)) dX3_search_90 ⟨by decide, by decide⟩) hD hS hA (fun v53 sg55 H locs hp56 hP hD hS => ?_)
              obtain ⟨hs9, r59, rfl⟩ := hp56
              rw [hs9] at hP hD
              refine W.eq (g2 := F0 m 93 ls [.int r59]) rfl ?_
              exact hret _ _ _ _ _ _ hP hS dX3_search_93 (⟨hk, _, rfl⟩)
            · refine lv_aload_n hx hb dX3_search_74 rfl (lv_at hl 0 rfl) ?_
              refine gw_geti (C := RX3) (T := TX3) (N := 27) hx hb hts inwX3 hown hK hP 0 16 rfl rfl rfl (by decide) (hts _ a132) (fun _ h9 => h9) dX3_search_75 ?_
              refine lv_topi (fun v60 hv60 => ?_)
              refine lv_if_eq (tgt := 85) hx hb dX3_search_78 (by decide) (fun hc61 => ?_) (fun hc61 => ?_)
              · refine lv_iconst (v := (nI 0)) hx hb dX3_search_85 (by decide) ?_
                refine lv_goto (tgt := 93) hx hb dX3_search_86 (by decide) ?_
                exact hret _ _ _ _ _ _ hP hS dX3_search_93 (⟨hk, _, rfl⟩)
              · refine lv_iconst (v := (nI 1)) hx hb dX3_search_81 (by decide) ?_
                refine lv_goto (tgt := 93) hx hb dX3_search_82 (by decide) ?_
                exact hret _ _ _ _ _ _ hP hS dX3_search_93 (⟨hk, _, rfl⟩)
          · refine lv_aload_n hx hb dX3_search_54 rfl (lv_at hl 0 rfl) ?_
            refine gw_geti (C := RX3) (T := TX3) (N := 27) hx hb hts inwX3 hown hK hP 0 17 rfl rfl rfl (by decide) (hts _ a183) (fun _ h9 => h9) dX3_search_55 ?_
            refine lv_topi (fun v62 hv62 => ?_)
            refine lv_if_eq (tgt := 65) hx hb dX3_search_58 (by decide) (fun hc63 => ?_) (fun hc63 => ?_)
            · refine lv_iconst (v := (nI 1)) hx hb dX3_search_65 (by decide) ?_
              refine lv_goto (tgt := 93) hx hb dX3_search_66 (by decide) ?_
              exact hret _ _ _ _ _ _ hP hS dX3_search_93 (⟨hk, _, rfl⟩)
            · refine lv_iconst (v := (nI 0)) hx hb dX3_search_61 (by decide) ?_
              refine lv_goto (tgt := 93) hx hb dX3_search_62 (by decide) ?_
              exact hret _ _ _ _ _ _ hP hS dX3_search_93 (⟨hk, _, rfl⟩)
        · refine lv_aload_n hx hb dX3_search_42 rfl (lv_at hl 0 rfl) ?_
          refine gw_geti (C := RX3) (T := TX3) (N := 27) hx hb hts inwX3 hown hK hP 0 18 rfl rfl rfl (by decide) (hts _ a189) (fun _ h9 => h9) dX3_search_43 ?_
          refine lv_topi (fun v64 hv64 => ?_)
          refine lv_goto (tgt := 93) hx hb dX3_search_46 (by decide) ?_
          exact hret _ _ _ _ _ _ hP hS dX3_search_93 (⟨hk, _, rfl⟩)
      · refine lv_iconst (v := (nI 0)) hx hb dX3_search_36 (by decide) ?_
        exact hret _ _ _ _ _ _ hP hS dX3_search_37 (⟨hk, _, rfl⟩)
abbrev rmf_X3_used : Room := { frames := 1, cells := 0, slots := 0, locals := 21 }
set_option maxRecDepth 100000 in
set_option maxHeartbeats 4000000 in
theorem m_f_X3_used (l : Launch) (hl9 : l.stackTraces = false) (D : va_G) (cI : ClassId) (cJ : ClassId × ClassId) (ad : Nat → Nat) (sg0 : Nat → Nat → Int32) (sz : Nat) (x1 : Int32) (T : TS) (hT : TOk T) (hM : EM T sg0) : gc_M l yX3_used wsX3_used rmf_X3_used D vwCl (tyS cI cJ) cI cJ gxT gxN SM [.ref (ad 0), .int x1] ad sg0 sz 0 0 (fun v sg2 => EM T sg2 ∧ sg2 0 0 = qUsed T x1 ∧ (qUsed T x1 = nI 0 → v = some (.int (aUsed T x1))) ∧ ∃ r : Int32, v = some (.int r)) := by
  refine gc_Mi_of (cc := cX3_used) (maxL := 2) (by decide) rfl (Nat.le_of_ble_eq_true rfl) ?_
  intro p e s m below meth c A ls Q hin hE hret
  obtain ⟨⟨hx, hb, hml, hown, hts⟩, -, hlocks, -, hA, hP, hK, hD, hS, hl⟩ := hin
  have hts : ∀ w ∈ wsAll, w.before ([.ref (ad 0), .int x1] : List Value).toArray s = true := fun w h => hts w (List.mem_cons_of_mem _ h)
  have hl : lv_has ls 2 [(0, .ref (ad 0)), (1, .int x1)] := hl
  have hk := hM
  have hN6 := hM.1.1.1
  refine lv_aload_n hx hb dX3_used_0 rfl (lv_at hl 0 rfl) ?_
  refine lv_aload_n hx hb dX3_used_1 rfl (lv_at hl 0 rfl) ?_
  refine lv_iload_n hx hb dX3_used_2 rfl (lv_at hl 1 rfl) ?_
  refine gc_go0 (va_runV (As := [.int x1]) (rest := [.ref (ad 0)]) ⟨hx, hb, hml, hown, hts⟩ (m_f_X3_isPattern l hl9 D cI cJ ad sg0 _ x1 T hk) (cwV 1 hts (gwV a150 a151 a152 a135 a153) rfl rfl rfl (by decide +kernel) ⟨by decide, by decide⟩) (gc_preV0 hK hP hD hS hA hE rfl rfl rfl) rfl rfl hl.1 rfl (lv_room (Nat.le_of_ble_eq_true rfl)) dX3_used_3 ⟨by decide, by decide⟩) hD hS hA (fun v1 sg3 H locs hp4 hP hD hS => ?_)
  obtain ⟨hs9, hp9⟩ := hp4
  rw [hs9] at hP hD
  rcases hp9 with ⟨rfl, hp1⟩ | ⟨rfl, hp1⟩
  · refine W.eq (g2 := F0 m 6 ls [.int (nI 1), .ref (ad 0)]) rfl ?_
    refine lv_if_ne (tgt := 13) hx hb dX3_used_6 (by decide) (fun hc7 => ?_) (fun hc7 => ?_)
    · refine lv_aload_n hx hb dX3_used_13 rfl (lv_at hl 0 rfl) ?_
      refine gw_geti (C := RX3) (T := TX3) (N := 27) hx hb hts inwX3 hown hK hP 0 16 rfl rfl rfl (by decide) (hts _ a132) (fun _ h9 => h9) dX3_used_14 ?_
      refine gw_top (y := (b2 T.2.1)) (hk.2.1) ?_
      refine lv_if_ne (tgt := 24) hx hb dX3_used_17 (by decide) (fun hcb => ?_) (fun hcb => ?_)
      · refine lv_iconst (v := (nI 0)) hx hb dX3_used_24 (by decide) ?_
        refine gw_put (C := RX3) (T := TX3) (N := 27) (ty := .int) hx hb hts inwX3 tyX3 tyX3_ok nmX3 hown hK hP hD hS 0 0 rfl rfl rfl (by decide) (hts _ a130) (fun _ h9 => h9) rfl (by decide +kernel) rfl rfl dX3_used_25 (fun H locs hP hD hS => ?_)
        obtain ⟨sg8, esg8⟩ : ∃ z : Nat → Nat → Int32, z = gw_u sg0 0 (upd (sg0 0) 0 (nI 0)) := ⟨_, rfl⟩
        rw [← esg8] at hP hD
        have hk : EM (T) sg8 := by rw [esg8]; exact mw_code hk
        have hcd : sg8 0 0 = (nI 0) := by rw [esg8]; exact m_upd_s _ _ _
        refine lv_aload_n hx hb dX3_used_28 rfl (lv_at hl 0 rfl) ?_
        refine gw_geti (C := RX3) (T := TX3) (N := 27) hx hb hts inwX3 hown hK hP 0 0 rfl rfl rfl (by decide) (hts _ a130) (fun _ h9 => h9) dX3_used_29 ?_
        refine gw_top (y := (nI 0)) (hcd) ?_
        refine lv_if_le (tgt := 39) hx hb dX3_used_32 (by decide) (fun hc9 => ?_) (fun hc9 => ?_)
        · have hk9 : qUsed T x1 = nI 0 := by simp [qUsed, kif, hp1, fo_of hcb]
          obtain ⟨j1, hj1, rfl⟩ := ixofN hN6 hp1
          have hnj1 : nt (nI j1) = j1 := nt_nI (by omega)
          refine lv_aload_n hx hb dX3_used_39 rfl (lv_at hl 0 rfl) ?_
          refine gw_getr (C := RX3) (T := TX3) (N := 27) hx hb hts inwX3 hown hK hP 0 19 10 rfl rfl rfl (by decide) (hts _ a184) (fun _ h9 => h9) dX3_used_40 ?_
          refine lv_iload_n hx hb dX3_used_43 rfl (lv_at hl 1 rfl) ?_
          refine gw_ald hx hb hK hP 10 0 (n := 6) rfl rfl (i := j1) (by omega) (by decide) dX3_used_44 ?_
          refine gw_top (y := (nI (T.2.2.2.1 j1))) ((hk.2.2.1 (fo_of hcb)).2 j1 (by omega)) ?_
          exact hret _ _ _ _ _ _ hP hS dX3_used_45 (⟨hk, hcd.trans hk9.symm, fun _ => by unfold aUsed; rw [hnj1], _, rfl⟩)
        · exact absurd hc9 (by decide)
      · refine lv_iconst (v := (nI 2)) hx hb dX3_used_20 (by decide) ?_
        refine lv_goto (tgt := 25) hx hb dX3_used_21 (by decide) ?_
        refine gw_put (C := RX3) (T := TX3) (N := 27) (ty := .int) hx hb hts inwX3 tyX3 tyX3_ok nmX3 hown hK hP hD hS 0 0 rfl rfl rfl (by decide) (hts _ a130) (fun _ h9 => h9) rfl (by decide +kernel) rfl rfl dX3_used_25 (fun H locs hP hD hS => ?_)
        obtain ⟨sg10, esg10⟩ : ∃ z : Nat → Nat → Int32, z = gw_u sg0 0 (upd (sg0 0) 0 (nI 2)) := ⟨_, rfl⟩
        rw [← esg10] at hP hD
        have hk : EM (T) sg10 := by rw [esg10]; exact mw_code hk
        have hcd : sg10 0 0 = (nI 2) := by rw [esg10]; exact m_upd_s _ _ _
        refine lv_aload_n hx hb dX3_used_28 rfl (lv_at hl 0 rfl) ?_
        refine gw_geti (C := RX3) (T := TX3) (N := 27) hx hb hts inwX3 hown hK hP 0 0 rfl rfl rfl (by decide) (hts _ a130) (fun _ h9 => h9) dX3_used_29 ?_
        refine gw_top (y := (nI 2)) (hcd) ?_
        refine lv_if_le (tgt := 39) hx hb dX3_used_32 (by decide) (fun hc11 => ?_) (fun hc11 => ?_)
        · exact absurd hc11 (by decide)
        · refine lv_iconst (v := (nI 0)) hx hb dX3_used_35 (by decide) ?_
          refine lv_goto (tgt := 45) hx hb dX3_used_36 (by decide) ?_
          have hkv : qUsed T x1 = nI 2 := by simp [qUsed, kif, hp1, b2_0.mp hcb]
          exact hret _ _ _ _ _ _ hP hS dX3_used_45 (⟨hk, hcd.trans hkv.symm, fun h9 => absurd (hkv.symm.trans h9) (by decide), _, rfl⟩)
    · exact absurd hc7 (by decide)
  · refine W.eq (g2 := F0 m 6 ls [.int (nI 0), .ref (ad 0)]) rfl ?_
    refine lv_if_ne (tgt := 13) hx hb dX3_used_6 (by decide) (fun hc12 => ?_) (fun hc12 => ?_)
    · exact absurd hc12 (by decide)
    · refine lv_iconst (v := (nI 1)) hx hb dX3_used_9 (by decide) ?_
      refine lv_goto (tgt := 25) hx hb dX3_used_10 (by decide) ?_
      refine gw_put (C := RX3) (T := TX3) (N := 27) (ty := .int) hx hb hts inwX3 tyX3 tyX3_ok nmX3 hown hK hP hD hS 0 0 rfl rfl rfl (by decide) (hts _ a130) (fun _ h9 => h9) rfl (by decide +kernel) rfl rfl dX3_used_25 (fun H locs hP hD hS => ?_)
      obtain ⟨sg13, esg13⟩ : ∃ z : Nat → Nat → Int32, z = gw_u sg0 0 (upd (sg0 0) 0 (nI 1)) := ⟨_, rfl⟩
      rw [← esg13] at hP hD
      have hk : EM (T) sg13 := by rw [esg13]; exact mw_code hk
      have hcd : sg13 0 0 = (nI 1) := by rw [esg13]; exact m_upd_s _ _ _
      refine lv_aload_n hx hb dX3_used_28 rfl (lv_at hl 0 rfl) ?_
      refine gw_geti (C := RX3) (T := TX3) (N := 27) hx hb hts inwX3 hown hK hP 0 0 rfl rfl rfl (by decide) (hts _ a130) (fun _ h9 => h9) dX3_used_29 ?_
      refine gw_top (y := (nI 1)) (hcd) ?_
      refine lv_if_le (tgt := 39) hx hb dX3_used_32 (by decide) (fun hc14 => ?_) (fun hc14 => ?_)
      · exact absurd hc14 (by decide)
      · refine lv_iconst (v := (nI 0)) hx hb dX3_used_35 (by decide) ?_
        refine lv_goto (tgt := 45) hx hb dX3_used_36 (by decide) ?_
        have hkv : qUsed T x1 = nI 1 := by simp [qUsed, kif, hp1]
        exact hret _ _ _ _ _ _ hP hS dX3_used_45 (⟨hk, hcd.trans hkv.symm, fun h9 => absurd (hkv.symm.trans h9) (by decide), _, rfl⟩)
abbrev rmf_X3_best : Room := { frames := 1, cells := 0, slots := 0, locals := 24 }
set_option maxRecDepth 100000 in
set_option maxHeartbeats 4000000 in
theorem m_f_X3_best (l : Launch) (hl9 : l.stackTraces = false) (D : va_G) (cI : ClassId) (cJ : ClassId × ClassId) (ad : Nat → Nat) (sg0 : Nat → Nat → Int32) (sz : Nat) (x1 : Int32) (T : TS) (hT : TOk T) (hM : EM T sg0) : gc_M l yX3_best wsX3_best rmf_X3_best D vwCl (tyS cI cJ) cI cJ gxT gxN SM [.ref (ad 0), .int x1] ad sg0 sz 0 0 (fun v sg2 => EM T sg2 ∧ sg2 0 0 = qBest T x1 ∧ (qBest T x1 = nI 0 → v = some (.int (aBest T x1))) ∧ ∃ r : Int32, v = some (.int r)) := by
  refine gc_Mi_of (cc := cX3_best) (maxL := 4) (by decide) rfl (Nat.le_of_ble_eq_true rfl) ?_
  intro p e s m below meth c A ls Q hin hE hret
  obtain ⟨⟨hx, hb, hml, hown, hts⟩, -, hlocks, -, hA, hP, hK, hD, hS, hl⟩ := hin
  have hts : ∀ w ∈ wsAll, w.before ([.ref (ad 0), .int x1] : List Value).toArray s = true := fun w h => hts w (List.mem_cons_of_mem _ h)
  have hl : lv_has ls 4 [(0, .ref (ad 0)), (1, .int x1)] := hl
  have hk := hM
  have hN6 := hM.1.1.1
  have c71 : ∀ (n9 : Nat) (i j : Nat) (sg : Nat → Nat → Int32) (H : Heap) (locs : List Loc) (ls : Array Slot), 6 - i = n9 → i ≤ yN T.1 → T.2.1 = true → qBest T x1 = nI 0 → nt x1 = 2 → ((EM T sg ∧ sg 0 0 = nI 0) ∧ j = cnt T.2.2.2.1 i) → va_P D vwCl (gw cI cJ ad sg SM) H → va_D A (gw cI cJ ad sg SM) → va_S A s.heap H locs → lv_has ls 4 [(3, .int (nI i)), (2, .int (nI j)), (0, .ref (ad 0))] → W p l e rmf_X3_best s m ([.ref (ad 0), .int x1] : List Value).toArray below meth c H locs 0 0 Q (F0 m 71 ls []) := by
    intro n9
    induction n9 using Nat.strongRecOn with
    | ind n9 ih =>
    intro i j sg H locs ls hn h1 h2 h3 h4 hk hP hD hS hl
    subst hn
    have hcd := hk.1.2
    have hcn := hk.2
    have hk := hk.1.1
    have hfo := h2
    obtain ⟨hp12, hft, hz⟩ := hT hfo
    refine lv_iload_n hx hb dX3_best_71 rfl (lv_at hl 0 rfl) ?_
    refine lv_aload_n hx hb dX3_best_72 rfl (lv_at hl 2 rfl) ?_
    refine gw_geti (C := RX3) (T := TX3) (N := 27) hx hb hts inwX3 hown hK hP 0 3 rfl rfl rfl (by decide) (hts _ a149) (fun _ h9 => h9) dX3_best_73 ?_
    refine gw_top (y := (nI (yN T.1))) (hk.1.1.2) ?_
    refine lv_icmp_ge (tgt := 102) hx hb dX3_best_76 (by decide) (fun hc1 => ?_) (fun hc1 => ?_)
    · have hc1 : yN T.1 ≤ i := (nI_leI (a := yN T.1) (b := i) (by omega) (by omega)).mp hc1
      refine lv_iload_n hx hb dX3_best_102 rfl (lv_at hl 1 rfl) ?_
      exact hret _ _ _ _ _ _ hP hS dX3_best_103 (⟨hk, hcd.trans h3.symm, fun _ => by unfold aBest; rw [h4, hcn, show i = yN T.1 by omega]; rfl, _, rfl⟩)
    · have hc1 : ¬ (yN T.1 ≤ i) := fun q => hc1 ((nI_leI (a := yN T.1) (b := i) (by omega) (by omega)).mpr q)
      refine lv_iload_n hx hb dX3_best_79 rfl (lv_at hl 1 rfl) ?_
      refine lv_aload_n hx hb dX3_best_80 rfl (lv_at hl 2 rfl) ?_
      refine gw_getr (C := RX3) (T := TX3) (N := 27) hx hb hts inwX3 hown hK hP 0 19 10 rfl rfl rfl (by decide) (hts _ a184) (fun _ h9 => h9) dX3_best_81 ?_
      refine lv_iload_n hx hb dX3_best_84 rfl (lv_at hl 0 rfl) ?_
      refine gw_ald hx hb hK hP 10 0 (n := 6) rfl rfl (i := i) (by omega) (by decide) dX3_best_85 ?_
      refine gw_top (y := (nI (T.2.2.2.1 i))) ((hk.2.2.1 hfo).2 i (by omega)) ?_
      have hb9 := hp12 i
      refine lv_if_le (tgt := 93) hx hb dX3_best_86 (by decide) (fun hc86 => ?_) (fun hc86 => ?_)
      · rw [← nI_0] at hc86
        have hc86 : T.2.2.2.1 i ≤ 0 := (nI_leI (a := T.2.2.2.1 i) (b := 0) (by omega) (by omega)).mp hc86
        refine lv_iconst (v := (nI 0)) hx hb dX3_best_93 (by decide) ?_
        refine lv_iadd hx hb dX3_best_94 ?_
        refine gw_top (y := (nI (j + 0))) (nI_add _ _) ?_
        refine lv_istore_n (lv' := [(2, .int (nI (j + 0))), (3, .int (nI i)), (0, .ref (ad 0))]) hx hb dX3_best_95 rfl hl (by decide) rfl (fun ls hl => ?_)
        refine lv_iinc (k := 1) (v := (nI (i + 1))) (lv' := [(3, .int (nI (i + 1))), (2, .int (nI (j + 0))), (0, .ref (ad 0))]) hx hb dX3_best_96 hl rfl (nI_1 _) (by decide) rfl (fun ls hl => ?_)
        refine lv_goto (tgt := 71) hx hb dX3_best_99 (by decide) ?_
        exact ih _ (by omega) (i + 1) (j + 0) _ _ _ _ rfl (by omega) hfo h3 h4 (⟨⟨hk, hcd⟩, by rw [cnt_s]; split <;> omega⟩) hP hD hS (lv_sub hl [0, 1, 2] rfl)
      · rw [← nI_0] at hc86
        have hc86 : ¬ (T.2.2.2.1 i ≤ 0) := fun q => hc86 ((nI_leI (a := T.2.2.2.1 i) (b := 0) (by omega) (by omega)).mpr q)
        refine lv_iconst (v := (nI 1)) hx hb dX3_best_89 (by decide) ?_
        refine lv_goto (tgt := 94) hx hb dX3_best_90 (by decide) ?_
        refine lv_iadd hx hb dX3_best_94 ?_
        refine gw_top (y := (nI (j + 1))) (nI_add _ _) ?_
        refine lv_istore_n (lv' := [(2, .int (nI (j + 1))), (3, .int (nI i)), (0, .ref (ad 0))]) hx hb dX3_best_95 rfl hl (by decide) rfl (fun ls hl => ?_)
        refine lv_iinc (k := 1) (v := (nI (i + 1))) (lv' := [(3, .int (nI (i + 1))), (2, .int (nI (j + 1))), (0, .ref (ad 0))]) hx hb dX3_best_96 hl rfl (nI_1 _) (by decide) rfl (fun ls hl => ?_)
        refine lv_goto (tgt := 71) hx hb dX3_best_99 (by decide) ?_
        exact ih _ (by omega) (i + 1) (j + 1) _ _ _ _ rfl (by omega) hfo h3 h4 (⟨⟨hk, hcd⟩, by rw [cnt_s]; split <;> omega⟩) hP hD hS (lv_sub hl [0, 1, 2] rfl)
  refine lv_aload_n hx hb dX3_best_0 rfl (lv_at hl 0 rfl) ?_
  refine lv_iload_n hx hb dX3_best_1 rfl (lv_at hl 1 rfl) ?_
  refine lv_iconst (v := (nI 0)) hx hb dX3_best_2 (by decide) ?_
  refine lv_iconst (v := (nI 2)) hx hb dX3_best_3 (by decide) ?_
  refine gc_go (pl := []) (S2 := SE) (ad := ad) (sg := sg0) (va_runS (As := [.int x1, .int (nI 0), .int (nI 2)]) (rest := [.ref (ad 0)]) ⟨hx, hb, hml, hown, hts⟩ (m_f_X3_isIn l hl9 D cI cJ (fun j => ad (gw_p [] j)) (fun j => sg0 (gw_p [] j)) _ x1 (nI 0) (nI 2) ) (cwS 3 hts (gwS a133 a134 a135 a136) rfl rfl rfl (by decide +kernel) ⟨by decide, by decide⟩) (gc_preS hK hP hD hS hA hE rfl) rfl rfl hl.1 rfl (lv_room (Nat.le_of_ble_eq_true rfl)) dX3_best_4 ⟨by decide, by decide⟩) hP hD hS hA rfl (fun v2 sp3 sg4 H locs hp5 ha6 hb7 hP hD hS => ?_)
  rw [show sg4 = sg0 from funext (fun k => hb7 k (by simp))] at hP hD
  rcases hp5 with ⟨rfl, hi1⟩ | ⟨rfl, hi1⟩
  · refine W.eq (g2 := F0 m 7 ls [.int (nI 1), .ref (ad 0)]) rfl ?_
    refine lv_if_ne (tgt := 14) hx hb dX3_best_7 (by decide) (fun hc8 => ?_) (fun hc8 => ?_)
    · refine lv_aload_n hx hb dX3_best_14 rfl (lv_at hl 0 rfl) ?_
      refine gw_geti (C := RX3) (T := TX3) (N := 27) hx hb hts inwX3 hown hK hP 0 16 rfl rfl rfl (by decide) (hts _ a132) (fun _ h9 => h9) dX3_best_15 ?_
      refine gw_top (y := (b2 T.2.1)) (hk.2.1) ?_
      refine lv_if_ne (tgt := 25) hx hb dX3_best_18 (by decide) (fun hcb => ?_) (fun hcb => ?_)
      · refine lv_iconst (v := (nI 0)) hx hb dX3_best_25 (by decide) ?_
        refine gw_put (C := RX3) (T := TX3) (N := 27) (ty := .int) hx hb hts inwX3 tyX3 tyX3_ok nmX3 hown hK hP hD hS 0 0 rfl rfl rfl (by decide) (hts _ a130) (fun _ h9 => h9) rfl (by decide +kernel) rfl rfl dX3_best_26 (fun H locs hP hD hS => ?_)
        obtain ⟨sg9, esg9⟩ : ∃ z : Nat → Nat → Int32, z = gw_u sg0 0 (upd (sg0 0) 0 (nI 0)) := ⟨_, rfl⟩
        rw [← esg9] at hP hD
        have hk : EM (T) sg9 := by rw [esg9]; exact mw_code hk
        have hcd : sg9 0 0 = (nI 0) := by rw [esg9]; exact m_upd_s _ _ _
        refine lv_aload_n hx hb dX3_best_29 rfl (lv_at hl 0 rfl) ?_
        refine gw_geti (C := RX3) (T := TX3) (N := 27) hx hb hts inwX3 hown hK hP 0 0 rfl rfl rfl (by decide) (hts _ a130) (fun _ h9 => h9) dX3_best_30 ?_
        refine gw_top (y := (nI 0)) (hcd) ?_
        refine lv_if_le (tgt := 38) hx hb dX3_best_33 (by decide) (fun hc10 => ?_) (fun hc10 => ?_)
        · have hk9 : qBest T x1 = nI 0 := by simp [qBest, kif, hi1, fo_of hcb]
          obtain ⟨j1, hj1, rfl⟩ := in_nat (n := 2) (by decide) hi1
          have hnj1 : nt (nI j1) = j1 := nt_nI (by omega)
          have hfo := fo_of hcb
          obtain ⟨hp12, hft, hz⟩ := hT hfo
          refine lv_iload_n hx hb dX3_best_38 rfl (lv_at hl 1 rfl) ?_
          refine lv_iconst (v := (nI 2)) hx hb dX3_best_39 (by decide) ?_
          refine lv_icmp_ge (tgt := 67) hx hb dX3_best_40 (by decide) (fun hc11 => ?_) (fun hc11 => ?_)
          · have hc11 : 2 ≤ j1 := (nI_leI (a := 2) (b := j1) (by omega) (by omega)).mp hc11
            refine lv_iconst (v := (nI 0)) hx hb dX3_best_67 (by decide) ?_
            refine lv_istore_n (lv' := [(2, .int (nI 0)), (0, .ref (ad 0)), (1, .int (nI j1))]) hx hb dX3_best_68 rfl hl (by decide) rfl (fun ls hl => ?_)
            refine lv_iconst (v := (nI 0)) hx hb dX3_best_69 (by decide) ?_
            refine lv_istore_n (lv' := [(3, .int (nI 0)), (2, .int (nI 0)), (0, .ref (ad 0)), (1, .int (nI j1))]) hx hb dX3_best_70 rfl hl (by decide) rfl (fun ls hl => ?_)
            exact c71 _ 0 0 _ _ _ _ rfl (by omega) hfo hk9 (by rw [hnj1]; omega) (⟨⟨hk, hcd⟩, rfl⟩) hP hD hS (lv_sub hl [0, 1, 2] rfl)
          · have hc11 : ¬ (2 ≤ j1) := fun q => hc11 ((nI_leI (a := 2) (b := j1) (by omega) (by omega)).mpr q)
            refine lv_iload_n hx hb dX3_best_43 rfl (lv_at hl 1 rfl) ?_
            refine lv_if_ne (tgt := 54) hx hb dX3_best_44 (by decide) (fun hc12 => ?_) (fun hc12 => ?_)
            · rw [← nI_0] at hc12
              have hc12 : ¬ (j1 = 0) := fun q => hc12 ((nI_eq (a := j1) (b := 0) (by omega) (by omega)).mpr q)
              refine lv_aload_n hx hb dX3_best_54 rfl (lv_at hl 0 rfl) ?_
              refine lv_aload_n hx hb dX3_best_55 rfl (lv_at hl 0 rfl) ?_
              refine gw_getr (C := RX3) (T := TX3) (N := 27) hx hb hts inwX3 hown hK hP 0 19 10 rfl rfl rfl (by decide) (hts _ a184) (fun _ h9 => h9) dX3_best_56 ?_
              refine lv_aload_n hx hb dX3_best_59 rfl (lv_at hl 0 rfl) ?_
              refine gw_geti (C := RX3) (T := TX3) (N := 27) hx hb hts inwX3 hown hK hP 0 3 rfl rfl rfl (by decide) (hts _ a149) (fun _ h9 => h9) dX3_best_60 ?_
              refine gw_top (y := (nI (yN T.1))) (hk.1.1.2) ?_
              refine gc_go0 (va_runV (As := [.ref (ad 10), .int (nI (yN T.1))]) (rest := []) ⟨hx, hb, hml, hown, hts⟩ (m_f_X3_minutesOf_plan l hl9 D cI cJ ad sg9 _ (yN T.1) (by omega) ) (cwV 2 hts (gwV a159 a160 a161 a135 a162) rfl rfl rfl (by decide +kernel) ⟨by decide, by decide⟩) (gc_preV0 hK hP hD hS hA hE rfl rfl rfl) rfl rfl hl.1 rfl (lv_room (Nat.le_of_ble_eq_true rfl)) dX3_best_63 ⟨by decide, by decide⟩) hD hS hA (fun v13 sg15 H locs hp16 hP hD hS => ?_)
              obtain ⟨hs9, rfl⟩ := hp16
              rw [hs9] at hP hD
              rw [mS_eq hk.1 (c := 10) (pl := T.2.2.2.1) (yN T.1) hN6 (fun q9 h9 => ⟨(hk.2.2.1 hfo).2 q9 (Nat.lt_of_lt_of_le h9 hN6), hp12 q9⟩)]
              refine W.eq (g2 := F0 m 66 ls [.int (nI (totN (yMn T.1) (yCh T.1) T.2.2.2.1 (yN T.1)))]) rfl ?_
              exact hret _ _ _ _ _ _ hP hS dX3_best_66 (⟨hk, hcd.trans hk9.symm, fun _ => by unfold aBest; rw [hnj1]; first | rw [if_pos (by omega)] | rw [if_neg (by omega), if_pos (by omega)], _, rfl⟩)
            · rw [← nI_0] at hc12
              have hc12 : j1 = 0 := (nI_eq (a := j1) (b := 0) (by omega) (by omega)).mp hc12
              refine lv_aload_n hx hb dX3_best_47 rfl (lv_at hl 0 rfl) ?_
              refine gw_geti (C := RX3) (T := TX3) (N := 27) hx hb hts inwX3 hown hK hP 0 20 rfl rfl rfl (by decide) (hts _ a190) (fun _ h9 => h9) dX3_best_48 ?_
              refine gw_top (y := T.2.2.1) ((hk.2.2.1 hfo).1) ?_
              refine lv_goto (tgt := 66) hx hb dX3_best_51 (by decide) ?_
              exact hret _ _ _ _ _ _ hP hS dX3_best_66 (⟨hk, hcd.trans hk9.symm, fun _ => by unfold aBest; rw [hnj1]; first | rw [if_pos (by omega)] | rw [if_neg (by omega), if_pos (by omega)], _, rfl⟩)
        · exact absurd hc10 (by decide)
      · refine lv_iconst (v := (nI 2)) hx hb dX3_best_21 (by decide) ?_
        refine lv_goto (tgt := 26) hx hb dX3_best_22 (by decide) ?_
        refine gw_put (C := RX3) (T := TX3) (N := 27) (ty := .int) hx hb hts inwX3 tyX3 tyX3_ok nmX3 hown hK hP hD hS 0 0 rfl rfl rfl (by decide) (hts _ a130) (fun _ h9 => h9) rfl (by decide +kernel) rfl rfl dX3_best_26 (fun H locs hP hD hS => ?_)
        obtain ⟨sg19, esg19⟩ : ∃ z : Nat → Nat → Int32, z = gw_u sg0 0 (upd (sg0 0) 0 (nI 2)) := ⟨_, rfl⟩
        rw [← esg19] at hP hD
        have hk : EM (T) sg19 := by rw [esg19]; exact mw_code hk
        have hcd : sg19 0 0 = (nI 2) := by rw [esg19]; exact m_upd_s _ _ _
        refine lv_aload_n hx hb dX3_best_29 rfl (lv_at hl 0 rfl) ?_
        refine gw_geti (C := RX3) (T := TX3) (N := 27) hx hb hts inwX3 hown hK hP 0 0 rfl rfl rfl (by decide) (hts _ a130) (fun _ h9 => h9) dX3_best_30 ?_
        refine gw_top (y := (nI 2)) (hcd) ?_
        refine lv_if_le (tgt := 38) hx hb dX3_best_33 (by decide) (fun hc20 => ?_) (fun hc20 => ?_)
        · exact absurd hc20 (by decide)
        · refine lv_iconst (v := (nI 0)) hx hb dX3_best_36 (by decide) ?_
          have hkv : qBest T x1 = nI 2 := by simp [qBest, kif, hi1, b2_0.mp hcb]
          exact hret _ _ _ _ _ _ hP hS dX3_best_37 (⟨hk, hcd.trans hkv.symm, fun h9 => absurd (hkv.symm.trans h9) (by decide), _, rfl⟩)
    · exact absurd hc8 (by decide)
  · refine W.eq (g2 := F0 m 7 ls [.int (nI 0), .ref (ad 0)]) rfl ?_
    refine lv_if_ne (tgt := 14) hx hb dX3_best_7 (by decide) (fun hc21 => ?_) (fun hc21 => ?_)
    · exact absurd hc21 (by decide)
    · refine lv_iconst (v := (nI 1)) hx hb dX3_best_10 (by decide) ?_
      refine lv_goto (tgt := 26) hx hb dX3_best_11 (by decide) ?_
      refine gw_put (C := RX3) (T := TX3) (N := 27) (ty := .int) hx hb hts inwX3 tyX3 tyX3_ok nmX3 hown hK hP hD hS 0 0 rfl rfl rfl (by decide) (hts _ a130) (fun _ h9 => h9) rfl (by decide +kernel) rfl rfl dX3_best_26 (fun H locs hP hD hS => ?_)
      obtain ⟨sg22, esg22⟩ : ∃ z : Nat → Nat → Int32, z = gw_u sg0 0 (upd (sg0 0) 0 (nI 1)) := ⟨_, rfl⟩
      rw [← esg22] at hP hD
      have hk : EM (T) sg22 := by rw [esg22]; exact mw_code hk
      have hcd : sg22 0 0 = (nI 1) := by rw [esg22]; exact m_upd_s _ _ _
      refine lv_aload_n hx hb dX3_best_29 rfl (lv_at hl 0 rfl) ?_
      refine gw_geti (C := RX3) (T := TX3) (N := 27) hx hb hts inwX3 hown hK hP 0 0 rfl rfl rfl (by decide) (hts _ a130) (fun _ h9 => h9) dX3_best_30 ?_
      refine gw_top (y := (nI 1)) (hcd) ?_
      refine lv_if_le (tgt := 38) hx hb dX3_best_33 (by decide) (fun hc23 => ?_) (fun hc23 => ?_)
      · exact absurd hc23 (by decide)
      · refine lv_iconst (v := (nI 0)) hx hb dX3_best_36 (by decide) ?_
        have hkv : qBest T x1 = nI 1 := by simp [qBest, kif, hi1]
        exact hret _ _ _ _ _ _ hP hS dX3_best_37 (⟨hk, hcd.trans hkv.symm, fun h9 => absurd (hkv.symm.trans h9) (by decide), _, rfl⟩)
abbrev rmf_X3_made : Room := { frames := 1, cells := 0, slots := 0, locals := 24 }
set_option maxRecDepth 100000 in
set_option maxHeartbeats 4000000 in
theorem m_f_X3_made (l : Launch) (hl9 : l.stackTraces = false) (D : va_G) (cI : ClassId) (cJ : ClassId × ClassId) (ad : Nat → Nat) (sg0 : Nat → Nat → Int32) (sz : Nat) (x1 : Int32) (T : TS) (hT : TOk T) (hM : EM T sg0) : gc_M l yX3_made wsX3_made rmf_X3_made D vwCl (tyS cI cJ) cI cJ gxT gxN SM [.ref (ad 0), .int x1] ad sg0 sz 0 0 (fun v sg2 => EM T sg2 ∧ sg2 0 0 = qMade T x1 ∧ (qMade T x1 = nI 0 → v = some (.int (aMade T x1))) ∧ ∃ r : Int32, v = some (.int r)) := by
  refine gc_Mi_of (cc := cX3_made) (maxL := 2) (by decide) rfl (Nat.le_of_ble_eq_true rfl) ?_
  intro p e s m below meth c A ls Q hin hE hret
  obtain ⟨⟨hx, hb, hml, hown, hts⟩, -, hlocks, -, hA, hP, hK, hD, hS, hl⟩ := hin
  have hts : ∀ w ∈ wsAll, w.before ([.ref (ad 0), .int x1] : List Value).toArray s = true := fun w h => hts w (List.mem_cons_of_mem _ h)
  have hl : lv_has ls 2 [(0, .ref (ad 0)), (1, .int x1)] := hl
  have hk := hM
  have hN6 := hM.1.1.1
  refine lv_aload_n hx hb dX3_made_0 rfl (lv_at hl 0 rfl) ?_
  refine lv_iload_n hx hb dX3_made_1 rfl (lv_at hl 1 rfl) ?_
  refine lv_iconst (v := (nI 0)) hx hb dX3_made_2 (by decide) ?_
  refine lv_iconst (v := (nI 3)) hx hb dX3_made_3 (by decide) ?_
  refine gc_go (pl := []) (S2 := SE) (ad := ad) (sg := sg0) (va_runS (As := [.int x1, .int (nI 0), .int (nI 3)]) (rest := [.ref (ad 0)]) ⟨hx, hb, hml, hown, hts⟩ (m_f_X3_isIn l hl9 D cI cJ (fun j => ad (gw_p [] j)) (fun j => sg0 (gw_p [] j)) _ x1 (nI 0) (nI 3) ) (cwS 3 hts (gwS a133 a134 a135 a136) rfl rfl rfl (by decide +kernel) ⟨by decide, by decide⟩) (gc_preS hK hP hD hS hA hE rfl) rfl rfl hl.1 rfl (lv_room (Nat.le_of_ble_eq_true rfl)) dX3_made_4 ⟨by decide, by decide⟩) hP hD hS hA rfl (fun v1 sp2 sg3 H locs hp4 ha5 hb6 hP hD hS => ?_)
  rw [show sg3 = sg0 from funext (fun k => hb6 k (by simp))] at hP hD
  rcases hp4 with ⟨rfl, hi1⟩ | ⟨rfl, hi1⟩
  · refine W.eq (g2 := F0 m 7 ls [.int (nI 1), .ref (ad 0)]) rfl ?_
    refine lv_if_ne (tgt := 14) hx hb dX3_made_7 (by decide) (fun hc7 => ?_) (fun hc7 => ?_)
    · refine lv_aload_n hx hb dX3_made_14 rfl (lv_at hl 0 rfl) ?_
      refine gw_geti (C := RX3) (T := TX3) (N := 27) hx hb hts inwX3 hown hK hP 0 16 rfl rfl rfl (by decide) (hts _ a132) (fun _ h9 => h9) dX3_made_15 ?_
      refine gw_top (y := (b2 T.2.1)) (hk.2.1) ?_
      refine lv_if_ne (tgt := 25) hx hb dX3_made_18 (by decide) (fun hcb => ?_) (fun hcb => ?_)
      · refine lv_iconst (v := (nI 0)) hx hb dX3_made_25 (by decide) ?_
        refine gw_put (C := RX3) (T := TX3) (N := 27) (ty := .int) hx hb hts inwX3 tyX3 tyX3_ok nmX3 hown hK hP hD hS 0 0 rfl rfl rfl (by decide) (hts _ a130) (fun _ h9 => h9) rfl (by decide +kernel) rfl rfl dX3_made_26 (fun H locs hP hD hS => ?_)
        obtain ⟨sg8, esg8⟩ : ∃ z : Nat → Nat → Int32, z = gw_u sg0 0 (upd (sg0 0) 0 (nI 0)) := ⟨_, rfl⟩
        rw [← esg8] at hP hD
        have hk : EM (T) sg8 := by rw [esg8]; exact mw_code hk
        have hcd : sg8 0 0 = (nI 0) := by rw [esg8]; exact m_upd_s _ _ _
        refine lv_aload_n hx hb dX3_made_29 rfl (lv_at hl 0 rfl) ?_
        refine gw_geti (C := RX3) (T := TX3) (N := 27) hx hb hts inwX3 hown hK hP 0 0 rfl rfl rfl (by decide) (hts _ a130) (fun _ h9 => h9) dX3_made_30 ?_
        refine gw_top (y := (nI 0)) (hcd) ?_
        refine lv_if_le (tgt := 40) hx hb dX3_made_33 (by decide) (fun hc9 => ?_) (fun hc9 => ?_)
        · have hk9 : qMade T x1 = nI 0 := by simp [qMade, kif, hi1, fo_of hcb]
          obtain ⟨j1, hj1, rfl⟩ := inof3 hi1
          have hnj1 : nt (nI j1) = j1 := nt_nI (by omega)
          have hfo := fo_of hcb
          obtain ⟨hp12, hft, hz⟩ := hT hfo
          refine lv_aload_n hx hb dX3_made_40 rfl (lv_at hl 0 rfl) ?_
          refine lv_aload_n hx hb dX3_made_41 rfl (lv_at hl 0 rfl) ?_
          refine gw_getr (C := RX3) (T := TX3) (N := 27) hx hb hts inwX3 hown hK hP 0 19 10 rfl rfl rfl (by decide) (hts _ a184) (fun _ h9 => h9) dX3_made_42 ?_
          refine lv_iload_n hx hb dX3_made_45 rfl (lv_at hl 1 rfl) ?_
          refine gc_go0 (va_runV (As := [.ref (ad 10), .int (nI j1)]) (rest := []) ⟨hx, hb, hml, hown, hts⟩ (m_f_X3_madeOf_plan l hl9 D cI cJ ad sg8 _ j1 (by omega) (yN T.1) hN6 hk.1.1.2) (cwV 2 hts (gwV a166 a167 a168 a135 a169) rfl rfl rfl (by decide +kernel) ⟨by decide, by decide⟩) (gc_preV0 hK hP hD hS hA hE rfl rfl rfl) rfl rfl hl.1 rfl (lv_room (Nat.le_of_ble_eq_true rfl)) dX3_made_46 ⟨by decide, by decide⟩) hD hS hA (fun v10 sg12 H locs hp13 hP hD hS => ?_)
          obtain ⟨hs9, rfl⟩ := hp13
          rw [hs9] at hP hD
          rw [dS_N hk.1 (c := 10) (pl := T.2.2.2.1) (by omega) (fun q9 h9 => ⟨(hk.2.2.1 hfo).2 q9 (Nat.lt_of_lt_of_le h9 hN6), hp12 q9⟩) hz]
          refine W.eq (g2 := F0 m 49 ls [.int (yMad T.1 T.2.2.2.1 j1)]) rfl ?_
          exact hret _ _ _ _ _ _ hP hS dX3_made_49 (⟨hk, hcd.trans hk9.symm, fun _ => by unfold aMade; rw [hnj1], _, rfl⟩)
        · exact absurd hc9 (by decide)
      · refine lv_iconst (v := (nI 2)) hx hb dX3_made_21 (by decide) ?_
        refine lv_goto (tgt := 26) hx hb dX3_made_22 (by decide) ?_
        refine gw_put (C := RX3) (T := TX3) (N := 27) (ty := .int) hx hb hts inwX3 tyX3 tyX3_ok nmX3 hown hK hP hD hS 0 0 rfl rfl rfl (by decide) (hts _ a130) (fun _ h9 => h9) rfl (by decide +kernel) rfl rfl dX3_made_26 (fun H locs hP hD hS => ?_)
        obtain ⟨sg16, esg16⟩ : ∃ z : Nat → Nat → Int32, z = gw_u sg0 0 (upd (sg0 0) 0 (nI 2)) := ⟨_, rfl⟩
        rw [← esg16] at hP hD
        have hk : EM (T) sg16 := by rw [esg16]; exact mw_code hk
        have hcd : sg16 0 0 = (nI 2) := by rw [esg16]; exact m_upd_s _ _ _
        refine lv_aload_n hx hb dX3_made_29 rfl (lv_at hl 0 rfl) ?_
        refine gw_geti (C := RX3) (T := TX3) (N := 27) hx hb hts inwX3 hown hK hP 0 0 rfl rfl rfl (by decide) (hts _ a130) (fun _ h9 => h9) dX3_made_30 ?_
        refine gw_top (y := (nI 2)) (hcd) ?_
        refine lv_if_le (tgt := 40) hx hb dX3_made_33 (by decide) (fun hc17 => ?_) (fun hc17 => ?_)
        · exact absurd hc17 (by decide)
        · refine lv_iconst (v := (nI 0)) hx hb dX3_made_36 (by decide) ?_
          refine lv_goto (tgt := 49) hx hb dX3_made_37 (by decide) ?_
          have hkv : qMade T x1 = nI 2 := by simp [qMade, kif, hi1, b2_0.mp hcb]
          exact hret _ _ _ _ _ _ hP hS dX3_made_49 (⟨hk, hcd.trans hkv.symm, fun h9 => absurd (hkv.symm.trans h9) (by decide), _, rfl⟩)
    · exact absurd hc7 (by decide)
  · refine W.eq (g2 := F0 m 7 ls [.int (nI 0), .ref (ad 0)]) rfl ?_
    refine lv_if_ne (tgt := 14) hx hb dX3_made_7 (by decide) (fun hc18 => ?_) (fun hc18 => ?_)
    · exact absurd hc18 (by decide)
    · refine lv_iconst (v := (nI 1)) hx hb dX3_made_10 (by decide) ?_
      refine lv_goto (tgt := 26) hx hb dX3_made_11 (by decide) ?_
      refine gw_put (C := RX3) (T := TX3) (N := 27) (ty := .int) hx hb hts inwX3 tyX3 tyX3_ok nmX3 hown hK hP hD hS 0 0 rfl rfl rfl (by decide) (hts _ a130) (fun _ h9 => h9) rfl (by decide +kernel) rfl rfl dX3_made_26 (fun H locs hP hD hS => ?_)
      obtain ⟨sg19, esg19⟩ : ∃ z : Nat → Nat → Int32, z = gw_u sg0 0 (upd (sg0 0) 0 (nI 1)) := ⟨_, rfl⟩
      rw [← esg19] at hP hD
      have hk : EM (T) sg19 := by rw [esg19]; exact mw_code hk
      have hcd : sg19 0 0 = (nI 1) := by rw [esg19]; exact m_upd_s _ _ _
      refine lv_aload_n hx hb dX3_made_29 rfl (lv_at hl 0 rfl) ?_
      refine gw_geti (C := RX3) (T := TX3) (N := 27) hx hb hts inwX3 hown hK hP 0 0 rfl rfl rfl (by decide) (hts _ a130) (fun _ h9 => h9) dX3_made_30 ?_
      refine gw_top (y := (nI 1)) (hcd) ?_
      refine lv_if_le (tgt := 40) hx hb dX3_made_33 (by decide) (fun hc20 => ?_) (fun hc20 => ?_)
      · exact absurd hc20 (by decide)
      · refine lv_iconst (v := (nI 0)) hx hb dX3_made_36 (by decide) ?_
        refine lv_goto (tgt := 49) hx hb dX3_made_37 (by decide) ?_
        have hkv : qMade T x1 = nI 1 := by simp [qMade, kif, hi1]
        exact hret _ _ _ _ _ _ hP hS dX3_made_49 (⟨hk, hcd.trans hkv.symm, fun h9 => absurd (hkv.symm.trans h9) (by decide), _, rfl⟩)
abbrev rmf_X3_mill : Room := { frames := 1, cells := 0, slots := 0, locals := 22 }
set_option maxRecDepth 100000 in
set_option maxHeartbeats 4000000 in
theorem m_f_X3_mill (l : Launch) (hl9 : l.stackTraces = false) (D : va_G) (cI : ClassId) (cJ : ClassId × ClassId) (ad : Nat → Nat) (sg0 : Nat → Nat → Int32) (sz : Nat) (x1 : Int32) (T : TS) (hT : TOk T) (hM : EM T sg0) : gc_M l yX3_mill wsX3_mill rmf_X3_mill D vwCl (tyS cI cJ) cI cJ gxT gxN SM [.ref (ad 0), .int x1] ad sg0 sz 0 0 (fun v sg2 => EM T sg2 ∧ sg2 0 0 = kMill x1 ∧ (kMill x1 = nI 0 → v = some (.int (aMill T x1))) ∧ ∃ r : Int32, v = some (.int r)) := by
  refine gc_Mi_of (cc := cX3_mill) (maxL := 2) (by decide) rfl (Nat.le_of_ble_eq_true rfl) ?_
  intro p e s m below meth c A ls Q hin hE hret
  obtain ⟨⟨hx, hb, hml, hown, hts⟩, -, hlocks, -, hA, hP, hK, hD, hS, hl⟩ := hin
  have hts : ∀ w ∈ wsAll, w.before ([.ref (ad 0), .int x1] : List Value).toArray s = true := fun w h => hts w (List.mem_cons_of_mem _ h)
  have hl : lv_has ls 2 [(0, .ref (ad 0)), (1, .int x1)] := hl
  have hk := hM
  have hN6 := hM.1.1.1
  refine lv_aload_n hx hb dX3_mill_0 rfl (lv_at hl 0 rfl) ?_
  refine lv_iload_n hx hb dX3_mill_1 rfl (lv_at hl 1 rfl) ?_
  refine lv_iconst (v := (nI 0)) hx hb dX3_mill_2 (by decide) ?_
  refine lv_iconst (v := (nI 5)) hx hb dX3_mill_3 (by decide) ?_
  refine gc_go (pl := []) (S2 := SE) (ad := ad) (sg := sg0) (va_runS (As := [.int x1, .int (nI 0), .int (nI 5)]) (rest := [.ref (ad 0)]) ⟨hx, hb, hml, hown, hts⟩ (m_f_X3_isIn l hl9 D cI cJ (fun j => ad (gw_p [] j)) (fun j => sg0 (gw_p [] j)) _ x1 (nI 0) (nI 5) ) (cwS 3 hts (gwS a133 a134 a135 a136) rfl rfl rfl (by decide +kernel) ⟨by decide, by decide⟩) (gc_preS hK hP hD hS hA hE rfl) rfl rfl hl.1 rfl (lv_room (Nat.le_of_ble_eq_true rfl)) dX3_mill_4 ⟨by decide, by decide⟩) hP hD hS hA rfl (fun v1 sp2 sg3 H locs hp4 ha5 hb6 hP hD hS => ?_)
  rw [show sg3 = sg0 from funext (fun k => hb6 k (by simp))] at hP hD
  rcases hp4 with ⟨rfl, hi1⟩ | ⟨rfl, hi1⟩
  · refine W.eq (g2 := F0 m 7 ls [.int (nI 1), .ref (ad 0)]) rfl ?_
    refine lv_if_eq (tgt := 14) hx hb dX3_mill_7 (by decide) (fun hc7 => ?_) (fun hc7 => ?_)
    · exact absurd hc7 (by decide)
    · refine lv_iconst (v := (nI 0)) hx hb dX3_mill_10 (by decide) ?_
      refine lv_goto (tgt := 15) hx hb dX3_mill_11 (by decide) ?_
      refine gw_put (C := RX3) (T := TX3) (N := 27) (ty := .int) hx hb hts inwX3 tyX3 tyX3_ok nmX3 hown hK hP hD hS 0 0 rfl rfl rfl (by decide) (hts _ a130) (fun _ h9 => h9) rfl (by decide +kernel) rfl rfl dX3_mill_15 (fun H locs hP hD hS => ?_)
      obtain ⟨sg8, esg8⟩ : ∃ z : Nat → Nat → Int32, z = gw_u sg0 0 (upd (sg0 0) 0 (nI 0)) := ⟨_, rfl⟩
      rw [← esg8] at hP hD
      have hk : EM (T) sg8 := by rw [esg8]; exact mw_code hk
      have hcd : sg8 0 0 = (nI 0) := by rw [esg8]; exact m_upd_s _ _ _
      refine lv_aload_n hx hb dX3_mill_18 rfl (lv_at hl 0 rfl) ?_
      refine gw_geti (C := RX3) (T := TX3) (N := 27) hx hb hts inwX3 hown hK hP 0 0 rfl rfl rfl (by decide) (hts _ a130) (fun _ h9 => h9) dX3_mill_19 ?_
      refine gw_top (y := (nI 0)) (hcd) ?_
      refine lv_if_le (tgt := 27) hx hb dX3_mill_22 (by decide) (fun hc9 => ?_) (fun hc9 => ?_)
      · have hk9 : kMill x1 = nI 0 := by simp [kMill, kif, hi1]
        obtain ⟨j1, hj1, rfl⟩ := inof5 hi1
        have hnj1 : nt (nI j1) = j1 := nt_nI (by omega)
        refine lv_iload_n hx hb dX3_mill_27 rfl (lv_at hl 1 rfl) ?_
        refine lv_if_ne (tgt := 38) hx hb dX3_mill_28 (by decide) (fun hc10 => ?_) (fun hc10 => ?_)
        · rw [← nI_0] at hc10
          have hc10 : ¬ (j1 = 0) := fun q => hc10 ((nI_eq (a := j1) (b := 0) (by omega) (by omega)).mpr q)
          refine lv_iload_n hx hb dX3_mill_38 rfl (lv_at hl 1 rfl) ?_
          refine lv_iconst (v := (nI 1)) hx hb dX3_mill_39 (by decide) ?_
          refine lv_icmp_ne (tgt := 50) hx hb dX3_mill_40 (by decide) (fun hc11 => ?_) (fun hc11 => ?_)
          · have hc11 : ¬ (j1 = 1) := fun q => hc11 ((nI_eq (a := j1) (b := 1) (by omega) (by omega)).mpr q)
            refine lv_aload_n hx hb dX3_mill_50 rfl (lv_at hl 0 rfl) ?_
            refine gw_getr (C := RX3) (T := TX3) (N := 27) hx hb hts inwX3 hown hK hP 0 10 9 rfl rfl rfl (by decide) (hts _ a157) (fun _ h9 => h9) dX3_mill_51 ?_
            refine lv_iload_n hx hb dX3_mill_54 rfl (lv_at hl 1 rfl) ?_
            refine lv_iconst (v := (nI 2)) hx hb dX3_mill_55 (by decide) ?_
            refine lv_isub hx hb dX3_mill_56 ?_
            refine gw_top (y := (nI (j1 - 2))) (nI_sub (by omega)) ?_
            refine gw_ald hx hb hK hP 9 0 (n := 4) rfl rfl (i := j1 - 2) (by omega) (by decide) dX3_mill_57 ?_
            refine gw_top (y := (ySk T.1 (j1 - 2))) (hk.1.2.2.2.2.2.2.2.1 (j1 - 2) (by omega)) ?_
            exact hret _ _ _ _ _ _ hP hS dX3_mill_58 (⟨hk, hcd.trans hk9.symm, fun _ => by unfold aMill; rw [hnj1]; first | rw [if_pos (by omega)] | rw [if_neg (by omega), if_pos (by omega)] | rw [if_neg (by omega), if_neg (by omega)], _, rfl⟩)
          · have hc11 : j1 = 1 := (nI_eq (a := j1) (b := 1) (by omega) (by omega)).mp hc11
            refine lv_aload_n hx hb dX3_mill_43 rfl (lv_at hl 0 rfl) ?_
            refine gw_geti (C := RX3) (T := TX3) (N := 27) hx hb hts inwX3 hown hK hP 0 14 rfl rfl rfl (by decide) (hts _ a195) (fun _ h9 => h9) dX3_mill_44 ?_
            refine gw_top (y := T.2.2.2.2.2) (hk.2.2.2.2) ?_
            refine lv_goto (tgt := 58) hx hb dX3_mill_47 (by decide) ?_
            exact hret _ _ _ _ _ _ hP hS dX3_mill_58 (⟨hk, hcd.trans hk9.symm, fun _ => by unfold aMill; rw [hnj1]; first | rw [if_pos (by omega)] | rw [if_neg (by omega), if_pos (by omega)] | rw [if_neg (by omega), if_neg (by omega)], _, rfl⟩)
        · rw [← nI_0] at hc10
          have hc10 : j1 = 0 := (nI_eq (a := j1) (b := 0) (by omega) (by omega)).mp hc10
          refine lv_aload_n hx hb dX3_mill_31 rfl (lv_at hl 0 rfl) ?_
          refine gw_geti (C := RX3) (T := TX3) (N := 27) hx hb hts inwX3 hown hK hP 0 13 rfl rfl rfl (by decide) (hts _ a196) (fun _ h9 => h9) dX3_mill_32 ?_
          refine gw_top (y := T.2.2.2.2.1) (hk.2.2.2.1) ?_
          refine lv_goto (tgt := 58) hx hb dX3_mill_35 (by decide) ?_
          exact hret _ _ _ _ _ _ hP hS dX3_mill_58 (⟨hk, hcd.trans hk9.symm, fun _ => by unfold aMill; rw [hnj1]; first | rw [if_pos (by omega)] | rw [if_neg (by omega), if_pos (by omega)] | rw [if_neg (by omega), if_neg (by omega)], _, rfl⟩)
      · exact absurd hc9 (by decide)
  · refine W.eq (g2 := F0 m 7 ls [.int (nI 0), .ref (ad 0)]) rfl ?_
    refine lv_if_eq (tgt := 14) hx hb dX3_mill_7 (by decide) (fun hc12 => ?_) (fun hc12 => ?_)
    · refine lv_iconst (v := (nI 1)) hx hb dX3_mill_14 (by decide) ?_
      refine gw_put (C := RX3) (T := TX3) (N := 27) (ty := .int) hx hb hts inwX3 tyX3 tyX3_ok nmX3 hown hK hP hD hS 0 0 rfl rfl rfl (by decide) (hts _ a130) (fun _ h9 => h9) rfl (by decide +kernel) rfl rfl dX3_mill_15 (fun H locs hP hD hS => ?_)
      obtain ⟨sg13, esg13⟩ : ∃ z : Nat → Nat → Int32, z = gw_u sg0 0 (upd (sg0 0) 0 (nI 1)) := ⟨_, rfl⟩
      rw [← esg13] at hP hD
      have hk : EM (T) sg13 := by rw [esg13]; exact mw_code hk
      have hcd : sg13 0 0 = (nI 1) := by rw [esg13]; exact m_upd_s _ _ _
      refine lv_aload_n hx hb dX3_mill_18 rfl (lv_at hl 0 rfl) ?_
      refine gw_geti (C := RX3) (T := TX3) (N := 27) hx hb hts inwX3 hown hK hP 0 0 rfl rfl rfl (by decide) (hts _ a130) (fun _ h9 => h9) dX3_mill_19 ?_
      refine gw_top (y := (nI 1)) (hcd) ?_
      refine lv_if_le (tgt := 27) hx hb dX3_mill_22 (by decide) (fun hc14 => ?_) (fun hc14 => ?_)
      · exact absurd hc14 (by decide)
      · refine lv_iconst (v := (nI 0)) hx hb dX3_mill_25 (by decide) ?_
        have hkv : kMill x1 = nI 1 := by simp [kMill, kif, hi1]
        exact hret _ _ _ _ _ _ hP hS dX3_mill_26 (⟨hk, hcd.trans hkv.symm, fun h9 => absurd (hkv.symm.trans h9) (by decide), _, rfl⟩)
    · exact absurd hc12 (by decide)
abbrev rmf_X3_saw : Room := { frames := 1, cells := 0, slots := 0, locals := 24 }
set_option maxRecDepth 100000 in
set_option maxHeartbeats 4000000 in
theorem m_f_X3_saw (l : Launch) (hl9 : l.stackTraces = false) (D : va_G) (cI : ClassId) (cJ : ClassId × ClassId) (ad : Nat → Nat) (sg0 : Nat → Nat → Int32) (sz : Nat) (T : TS) (hT : TOk T) (hM : EM T sg0) : gc_M l yX3_saw wsX3_saw rmf_X3_saw D vwCl (tyS cI cJ) cI cJ gxT gxN SM [.ref (ad 0)] ad sg0 sz 0 0 (fun v sg2 => EM (uT (qSaw T) (tSaw T) T) sg2 ∧ sg2 0 0 = qSaw T ∧ (qSaw T = nI 0 → v = some (.int (aSaw T))) ∧ ∃ r : Int32, v = some (.int r)) := by
  refine gc_Mi_of (cc := cX3_saw) (maxL := 3) (by decide) rfl (Nat.le_of_ble_eq_true rfl) ?_
  intro p e s m below meth c A ls Q hin hE hret
  obtain ⟨⟨hx, hb, hml, hown, hts⟩, -, hlocks, -, hA, hP, hK, hD, hS, hl⟩ := hin
  have hts : ∀ w ∈ wsAll, w.before ([.ref (ad 0)] : List Value).toArray s = true := fun w h => hts w (List.mem_cons_of_mem _ h)
  have hl : lv_has ls 3 [(0, .ref (ad 0))] := hl
  have hk := hM
  have hN6 := hM.1.1.1
  have c68 : ∀ (n9 : Nat) (i : Nat) (sg : Nat → Nat → Int32) (H : Heap) (locs : List Loc) (ls : Array Slot), 6 - i = n9 → i ≤ yN T.1 → T.2.1 = true → qSaw T = nI 0 → (EM (tLo (tSt T 4) i) sg ∧ sg 0 0 = nI 0) → va_P D vwCl (gw cI cJ ad sg SM) H → va_D A (gw cI cJ ad sg SM) → va_S A s.heap H locs → lv_has ls 3 [(1, .int (nI i)), (0, .ref (ad 0))] → W p l e rmf_X3_saw s m ([.ref (ad 0)] : List Value).toArray below meth c H locs 0 0 Q (F0 m 68 ls []) := by
    intro n9
    induction n9 using Nat.strongRecOn with
    | ind n9 ih =>
    intro i sg H locs ls hn h1 h2 h3 hk hP hD hS hl
    subst hn
    have hcd := hk.2
    have hk := hk.1
    have hfo := h2
    have hk9 := h3
    obtain ⟨hp12, hft, hz⟩ := hT hfo
    have hN6 := hM.1.1.1
    refine lv_iload_n hx hb dX3_saw_68 rfl (lv_at hl 0 rfl) ?_
    refine lv_aload_n hx hb dX3_saw_69 rfl (lv_at hl 1 rfl) ?_
    refine gw_geti (C := RX3) (T := TX3) (N := 27) hx hb hts inwX3 hown hK hP 0 3 rfl rfl rfl (by decide) (hts _ a149) (fun _ h9 => h9) dX3_saw_70 ?_
    refine gw_top (y := (nI (yN T.1))) (hk.1.1.2) ?_
    refine lv_icmp_ge (tgt := 102) hx hb dX3_saw_73 (by decide) (fun hc1 => ?_) (fun hc1 => ?_)
    · have hc1 : yN T.1 ≤ i := (nI_leI (a := yN T.1) (b := i) (by omega) (by omega)).mp hc1
      refine lv_aload_n hx hb dX3_saw_102 rfl (lv_at hl 1 rfl) ?_
      refine lv_dup hx hb dX3_saw_103 rfl ?_
      refine gw_geti (C := RX3) (T := TX3) (N := 27) hx hb hts inwX3 hown hK hP 0 14 rfl rfl rfl (by decide) (hts _ a195) (fun _ h9 => h9) dX3_saw_104 ?_
      refine gw_top (y := T.2.2.2.2.2) (hk.2.2.2.2) ?_
      refine lv_aload_n hx hb dX3_saw_107 rfl (lv_at hl 1 rfl) ?_
      refine gw_geti (C := RX3) (T := TX3) (N := 27) hx hb hts inwX3 hown hK hP 0 20 rfl rfl rfl (by decide) (hts _ a190) (fun _ h9 => h9) dX3_saw_108 ?_
      refine gw_top (y := T.2.2.1) ((hk.2.2.1 hfo).1) ?_
      refine lv_iadd hx hb dX3_saw_111 ?_
      refine gw_put (C := RX3) (T := TX3) (N := 27) (ty := .int) hx hb hts inwX3 tyX3 tyX3_ok nmX3 hown hK hP hD hS 0 14 rfl rfl rfl (by decide) (hts _ a195) (fun _ h9 => h9) rfl (by decide +kernel) rfl rfl dX3_saw_112 (fun H locs hP hD hS => ?_)
      obtain ⟨sg2, esg2⟩ : ∃ z : Nat → Nat → Int32, z = gw_u sg 0 (upd (sg 0) 14 (T.2.2.2.2.2 + T.2.2.1)) := ⟨_, rfl⟩
      rw [← esg2] at hP hD
      have hk : EM (sEr (tLo (tSt T 4) i) (T.2.2.2.2.2 + T.2.2.1)) sg2 := by rw [esg2]; exact mw_er hk
      have hcd : sg2 0 0 = (nI 0) := by rw [esg2, m_upd _ (by decide)]; exact hcd
      refine lv_aload_n hx hb dX3_saw_115 rfl (lv_at hl 1 rfl) ?_
      refine lv_dup hx hb dX3_saw_116 rfl ?_
      refine gw_geti (C := RX3) (T := TX3) (N := 27) hx hb hts inwX3 hown hK hP 0 13 rfl rfl rfl (by decide) (hts _ a196) (fun _ h9 => h9) dX3_saw_117 ?_
      refine gw_top (y := T.2.2.2.2.1) (hk.2.2.2.1) ?_
      refine lv_iconst (v := (nI 1)) hx hb dX3_saw_120 (by decide) ?_
      refine lv_iadd hx hb dX3_saw_121 ?_
      refine gw_put (C := RX3) (T := TX3) (N := 27) (ty := .int) hx hb hts inwX3 tyX3 tyX3_ok nmX3 hown hK hP hD hS 0 13 rfl rfl rfl (by decide) (hts _ a196) (fun _ h9 => h9) rfl (by decide +kernel) rfl rfl dX3_saw_122 (fun H locs hP hD hS => ?_)
      obtain ⟨sg3, esg3⟩ : ∃ z : Nat → Nat → Int32, z = gw_u sg2 0 (upd (sg2 0) 13 (T.2.2.2.2.1 + (nI 1))) := ⟨_, rfl⟩
      rw [← esg3] at hP hD
      have hk : EM (sDy (sEr (tLo (tSt T 4) i) (T.2.2.2.2.2 + T.2.2.1)) (T.2.2.2.2.1 + (nI 1))) sg3 := by rw [esg3]; exact mw_dy hk
      have hcd : sg3 0 0 = (nI 0) := by rw [esg3, m_upd _ (by decide)]; exact hcd
      refine lv_aload_n hx hb dX3_saw_125 rfl (lv_at hl 1 rfl) ?_
      refine gc_go0 (va_runV (As := []) (rest := []) ⟨hx, hb, hml, hown, hts⟩ (m_f_X3_forget l hl9 D cI cJ ad sg3 _  (sDy (sEr (tLo (tSt T 4) i) (T.2.2.2.2.2 + T.2.2.1)) (T.2.2.2.2.1 + (nI 1))) hk) (cwV 0 hts (gwV a140 a141 a142 a135 a143) rfl rfl rfl (by decide +kernel) ⟨by decide, by decide⟩) (gc_preV0 hK hP hD hS hA hE rfl rfl rfl) rfl rfl hl.1 rfl (lv_room (Nat.le_of_ble_eq_true rfl)) dX3_saw_126 ⟨by decide, by decide⟩) hD hS hA (fun v4 sg6 H locs hp7 hP hD hS => ?_)
      obtain ⟨rfl, hk8, hq7⟩ := hp7
      have hga9 := (hq7 20 (by decide) (by decide)).trans (hk.2.2.1 hfo).1
      have hk := hk8
      have hcd : sg6 0 0 = (nI 0) := (hq7 0 (by decide) (by decide)).trans hcd
      refine W.eq (g2 := F0 m 129 ls []) rfl ?_
      refine lv_aload_n hx hb dX3_saw_129 rfl (lv_at hl 1 rfl) ?_
      refine gw_geti (C := RX3) (T := TX3) (N := 27) hx hb hts inwX3 hown hK hP 0 20 rfl rfl rfl (by decide) (hts _ a190) (fun _ h9 => h9) dX3_saw_130 ?_
      refine gw_top (y := T.2.2.1) (hga9) ?_
      exact hret _ _ _ _ _ _ hP hS dX3_saw_133 (⟨by rw [uT_t hk9]; unfold tSaw; rw [← show i = yN T.1 by omega]; exact hk, hcd.trans hk9.symm, fun _ => rfl, _, rfl⟩)
    · have hc1 : ¬ (yN T.1 ≤ i) := fun q => hc1 ((nI_leI (a := yN T.1) (b := i) (by omega) (by omega)).mpr q)
      refine lv_aload_n hx hb dX3_saw_76 rfl (lv_at hl 1 rfl) ?_
      refine gw_getr (C := RX3) (T := TX3) (N := 27) hx hb hts inwX3 hown hK hP 0 1 1 rfl rfl rfl (by decide) (hts _ a138) (fun _ h9 => h9) dX3_saw_77 ?_
      refine lv_aload_n hx hb dX3_saw_80 rfl (lv_at hl 1 rfl) ?_
      refine gw_getr (C := RX3) (T := TX3) (N := 27) hx hb hts inwX3 hown hK hP 0 4 3 rfl rfl rfl (by decide) (hts _ a155) (fun _ h9 => h9) dX3_saw_81 ?_
      refine lv_iload_n hx hb dX3_saw_84 rfl (lv_at hl 0 rfl) ?_
      refine gw_ald hx hb hK hP 3 0 (n := 6) rfl rfl (i := i) (by omega) (by decide) dX3_saw_85 ?_
      refine gw_top (y := (nI (yCf T.1 i))) ((hk.1.2.2.2.2.2.1 i (by omega)).1) ?_
      have hcf := (hk.1.2.2.2.2.2.1 i (by omega)).2
      have hcf : yCf T.1 i < 4 := hcf
      refine lv_dup2_11 hx hb dX3_saw_86 rfl rfl ?_
      refine gw_ald hx hb hK hP 1 0 (n := 4) rfl rfl (i := yCf T.1 i) (by omega) (by decide) dX3_saw_87 ?_
      refine gw_top (y := (nI (yLg T.1 (yCf T.1 i) - usdN (yCf T.1) T.2.2.2.1 (yCf T.1 i) i))) ((hk.1.2.2.2.1 (yCf T.1 i) hcf).1) ?_
      have hlg := (hk.1.2.2.2.1 (yCf T.1 i) hcf).2
      have hlg : yLg T.1 (yCf T.1 i) - usdN (yCf T.1) T.2.2.2.1 (yCf T.1 i) i ≤ 1000 := hlg
      refine lv_aload_n hx hb dX3_saw_88 rfl (lv_at hl 1 rfl) ?_
      refine gw_getr (C := RX3) (T := TX3) (N := 27) hx hb hts inwX3 hown hK hP 0 19 10 rfl rfl rfl (by decide) (hts _ a184) (fun _ h9 => h9) dX3_saw_89 ?_
      refine lv_iload_n hx hb dX3_saw_92 rfl (lv_at hl 0 rfl) ?_
      refine gw_ald hx hb hK hP 10 0 (n := 6) rfl rfl (i := i) (by omega) (by decide) dX3_saw_93 ?_
      refine gw_top (y := (nI (T.2.2.2.1 i))) ((hk.2.2.1 hfo).2 i (by omega)) ?_
      have hle := lo_le hT hfo (i := i) (by omega) hcf
      refine lv_isub hx hb dX3_saw_94 ?_
      refine gw_top (y := (nI (yLg T.1 (yCf T.1 i) - usdN (yCf T.1) T.2.2.2.1 (yCf T.1 i) i - T.2.2.2.1 i))) (nI_subN hle) ?_
      refine gw_ast hx hb hK hP hD hS 1 0 (n := 4) rfl rfl (i := yCf T.1 i) (by omega) (by decide) dX3_saw_95 (fun H locs hP hD hS => ?_)
      obtain ⟨sg10, esg10⟩ : ∃ z : Nat → Nat → Int32, z = gw_u sg 1 (upd (sg 1) (yCf T.1 i) (nI (yLg T.1 (yCf T.1 i) - usdN (yCf T.1) T.2.2.2.1 (yCf T.1 i) i - T.2.2.2.1 i))) := ⟨_, rfl⟩
      rw [← esg10] at hP hD
      have hk : EM (sLg (tLo (tSt T 4) i) (yCf T.1 i) (yLg T.1 (yCf T.1 i) - usdN (yCf T.1) T.2.2.2.1 (yCf T.1 i) i - T.2.2.2.1 i)) sg10 := by rw [esg10]; exact mw_Lg hk (by omega)
      have hcd : sg10 0 0 = (nI 0) := by rw [esg10, gw_u_n _ _ (by decide)]; exact hcd
      refine lv_iinc (k := 0) (v := (nI (i + 1))) (lv' := [(1, .int (nI (i + 1))), (0, .ref (ad 0))]) hx hb dX3_saw_96 hl rfl (nI_1 _) (by decide) rfl (fun ls hl => ?_)
      refine lv_goto (tgt := 68) hx hb dX3_saw_99 (by decide) ?_
      exact ih _ (by omega) (i + 1) _ _ _ _ rfl (by omega) hfo hk9 (⟨by rw [show tLo (tSt T 4) (i + 1) = _ from (tLo_s (tSt T 4) i).symm]; exact hk, hcd⟩) hP hD hS (lv_sub hl [0, 1] rfl)
  have c27 : ∀ (n9 : Nat) (i : Nat) (sg : Nat → Nat → Int32) (H : Heap) (locs : List Loc) (ls : Array Slot), 4 - i = n9 → i ≤ 4 → T.2.1 = true → qSaw T = nI 0 → (EM (tSt T i) sg ∧ sg 0 0 = nI 0) → va_P D vwCl (gw cI cJ ad sg SM) H → va_D A (gw cI cJ ad sg SM) → va_S A s.heap H locs → lv_has ls 3 [(1, .int (nI i)), (0, .ref (ad 0))] → W p l e rmf_X3_saw s m ([.ref (ad 0)] : List Value).toArray below meth c H locs 0 0 Q (F0 m 27 ls []) := by
    intro n9
    induction n9 using Nat.strongRecOn with
    | ind n9 ih =>
    intro i sg H locs ls hn h1 h2 h3 hk hP hD hS hl
    subst hn
    have hcd := hk.2
    have hk := hk.1
    have hfo := h2
    have hk9 := h3
    obtain ⟨hp12, hft, hz⟩ := hT hfo
    have hN6 := hM.1.1.1
    refine lv_iload_n hx hb dX3_saw_27 rfl (lv_at hl 0 rfl) ?_
    refine lv_iconst (v := (nI 4)) hx hb dX3_saw_28 (by decide) ?_
    refine lv_icmp_ge (tgt := 66) hx hb dX3_saw_29 (by decide) (fun hc11 => ?_) (fun hc11 => ?_)
    · have hc11 : 4 ≤ i := (nI_leI (a := 4) (b := i) (by omega) (by omega)).mp hc11
      refine lv_iconst (v := (nI 0)) hx hb dX3_saw_66 (by decide) ?_
      refine lv_istore_n (lv' := [(1, .int (nI 0)), (0, .ref (ad 0))]) hx hb dX3_saw_67 rfl hl (by decide) rfl (fun ls hl => ?_)
      exact c68 _ 0 _ _ _ _ rfl (by omega) hfo hk9 (⟨by rw [tLo_0, ← show i = 4 by omega]; exact hk, hcd⟩) hP hD hS (lv_sub hl [0, 1] rfl)
    · have hc11 : ¬ (4 ≤ i) := fun q => hc11 ((nI_leI (a := 4) (b := i) (by omega) (by omega)).mpr q)
      refine lv_aload_n hx hb dX3_saw_32 rfl (lv_at hl 1 rfl) ?_
      refine lv_aload_n hx hb dX3_saw_33 rfl (lv_at hl 1 rfl) ?_
      refine gw_getr (C := RX3) (T := TX3) (N := 27) hx hb hts inwX3 hown hK hP 0 19 10 rfl rfl rfl (by decide) (hts _ a184) (fun _ h9 => h9) dX3_saw_34 ?_
      refine lv_iload_n hx hb dX3_saw_37 rfl (lv_at hl 0 rfl) ?_
      refine gc_go0 (va_runV (As := [.ref (ad 10), .int (nI i)]) (rest := []) ⟨hx, hb, hml, hown, hts⟩ (m_f_X3_madeOf_plan l hl9 D cI cJ ad sg _ i (by omega) (yN T.1) hN6 hk.1.1.2) (cwV 2 hts (gwV a166 a167 a168 a135 a169) rfl rfl rfl (by decide +kernel) ⟨by decide, by decide⟩) (gc_preV0 hK hP hD hS hA hE rfl rfl rfl) rfl rfl hl.1 rfl (lv_room (Nat.le_of_ble_eq_true rfl)) dX3_saw_38 ⟨by decide, by decide⟩) hD hS hA (fun v12 sg14 H locs hp15 hP hD hS => ?_)
      obtain ⟨hs9, rfl⟩ := hp15
      rw [hs9] at hP hD
      rw [show dS sg 10 i (yN T.1) = yMad T.1 T.2.2.2.1 i from (dS_N hk.1 (c := 10) (pl := T.2.2.2.1) (by omega) (fun q9 h9 => ⟨(hk.2.2.1 hfo).2 q9 (Nat.lt_of_lt_of_le h9 hN6), hp12 q9⟩) hz).trans (mad_tSt T i)]
      refine W.eq (g2 := F0 m 41 ls [.int (yMad T.1 T.2.2.2.1 i)]) rfl ?_
      refine lv_istore_n (lv' := [(2, .int (yMad T.1 T.2.2.2.1 i)), (1, .int (nI i)), (0, .ref (ad 0))]) hx hb dX3_saw_41 rfl hl (by decide) rfl (fun ls hl => ?_)
      refine lv_aload_n hx hb dX3_saw_42 rfl (lv_at hl 2 rfl) ?_
      refine gw_getr (C := RX3) (T := TX3) (N := 27) hx hb hts inwX3 hown hK hP 0 10 9 rfl rfl rfl (by decide) (hts _ a157) (fun _ h9 => h9) dX3_saw_43 ?_
      refine lv_iload_n hx hb dX3_saw_46 rfl (lv_at hl 1 rfl) ?_
      refine lv_iload_n hx hb dX3_saw_47 rfl (lv_at hl 0 rfl) ?_
      refine lv_iload_n hx hb dX3_saw_48 rfl (lv_at hl 0 rfl) ?_
      refine lv_aload_n hx hb dX3_saw_49 rfl (lv_at hl 2 rfl) ?_
      refine gw_getr (C := RX3) (T := TX3) (N := 27) hx hb hts inwX3 hown hK hP 0 8 7 rfl rfl rfl (by decide) (hts _ a145) (fun _ h9 => h9) dX3_saw_50 ?_
      refine lv_iload_n hx hb dX3_saw_53 rfl (lv_at hl 1 rfl) ?_
      refine gw_ald hx hb hK hP 7 0 (n := 4) rfl rfl (i := i) (by omega) (by decide) dX3_saw_54 ?_
      refine gw_top (y := (yMs T.1 i)) ((hk.1.2.2.2.2.2.2.2.2.2 i (by omega)).2.1) ?_
      refine gc_go (pl := []) (S2 := SE) (ad := ad) (sg := sg) (va_runS (As := [.int (yMad T.1 T.2.2.2.1 i), .int (yMs T.1 i)]) (rest := [.int (yMad T.1 T.2.2.2.1 i), .int (nI i), .ref (ad 9)]) ⟨hx, hb, hml, hown, hts⟩ (m_f_X3_lesser l hl9 D cI cJ (fun j => ad (gw_p [] j)) (fun j => sg (gw_p [] j)) _ (yMad T.1 T.2.2.2.1 i) (yMs T.1 i) ) (cwS 2 hts (gwS a170 a171 a135 a172) rfl rfl rfl (by decide +kernel) ⟨by decide, by decide⟩) (gc_preS hK hP hD hS hA hE rfl) rfl rfl hl.1 rfl (lv_room (Nat.le_of_ble_eq_true rfl)) dX3_saw_55 ⟨by decide, by decide⟩) hP hD hS hA rfl (fun v18 sp19 sg20 H locs hp21 ha22 hb23 hP hD hS => ?_)
      obtain rfl := hp21
      rw [show sg20 = sg from funext (fun k => hb23 k (by simp))] at hP hD
      refine W.eq (g2 := F0 m 58 ls [.int (mnW (yMad T.1 T.2.2.2.1 i) (yMs T.1 i)), .int (yMad T.1 T.2.2.2.1 i), .int (nI i), .ref (ad 9)]) rfl ?_
      refine lv_isub hx hb dX3_saw_58 ?_
      refine gw_ast hx hb hK hP hD hS 9 0 (n := 4) rfl rfl (i := i) (by omega) (by decide) dX3_saw_59 (fun H locs hP hD hS => ?_)
      obtain ⟨sg24, esg24⟩ : ∃ z : Nat → Nat → Int32, z = gw_u sg 9 (upd (sg 9) i ((yMad T.1 T.2.2.2.1 i) - (mnW (yMad T.1 T.2.2.2.1 i) (yMs T.1 i)))) := ⟨_, rfl⟩
      rw [← esg24] at hP hD
      have hk : EM (sSk (tSt T i) i ((yMad T.1 T.2.2.2.1 i) - (mnW (yMad T.1 T.2.2.2.1 i) (yMs T.1 i)))) sg24 := by rw [esg24]; exact mw_Sk hk
      have hcd : sg24 0 0 = (nI 0) := by rw [esg24, gw_u_n _ _ (by decide)]; exact hcd
      refine lv_iinc (k := 1) (v := (nI (i + 1))) (lv' := [(1, .int (nI (i + 1))), (2, .int (yMad T.1 T.2.2.2.1 i)), (0, .ref (ad 0))]) hx hb dX3_saw_60 hl rfl (nI_1 _) (by decide) rfl (fun ls hl => ?_)
      refine lv_goto (tgt := 27) hx hb dX3_saw_63 (by decide) ?_
      exact ih _ (by omega) (i + 1) _ _ _ _ rfl (by omega) hfo hk9 (⟨by rw [← tSt_s T i]; exact hk, hcd⟩) hP hD hS (lv_sub hl [0, 2] rfl)
  refine lv_aload_n hx hb dX3_saw_0 rfl (lv_at hl 0 rfl) ?_
  refine lv_aload_n hx hb dX3_saw_1 rfl (lv_at hl 0 rfl) ?_
  refine gw_geti (C := RX3) (T := TX3) (N := 27) hx hb hts inwX3 hown hK hP 0 16 rfl rfl rfl (by decide) (hts _ a132) (fun _ h9 => h9) dX3_saw_2 ?_
  refine gw_top (y := (b2 T.2.1)) (hk.2.1) ?_
  refine lv_if_eq (tgt := 12) hx hb dX3_saw_5 (by decide) (fun hcb => ?_) (fun hcb => ?_)
  · refine lv_iconst (v := (nI 1)) hx hb dX3_saw_12 (by decide) ?_
    refine gw_put (C := RX3) (T := TX3) (N := 27) (ty := .int) hx hb hts inwX3 tyX3 tyX3_ok nmX3 hown hK hP hD hS 0 0 rfl rfl rfl (by decide) (hts _ a130) (fun _ h9 => h9) rfl (by decide +kernel) rfl rfl dX3_saw_13 (fun H locs hP hD hS => ?_)
    obtain ⟨sg25, esg25⟩ : ∃ z : Nat → Nat → Int32, z = gw_u sg0 0 (upd (sg0 0) 0 (nI 1)) := ⟨_, rfl⟩
    rw [← esg25] at hP hD
    have hk : EM (T) sg25 := by rw [esg25]; exact mw_code hk
    have hcd : sg25 0 0 = (nI 1) := by rw [esg25]; exact m_upd_s _ _ _
    refine lv_aload_n hx hb dX3_saw_16 rfl (lv_at hl 0 rfl) ?_
    refine gw_geti (C := RX3) (T := TX3) (N := 27) hx hb hts inwX3 hown hK hP 0 0 rfl rfl rfl (by decide) (hts _ a130) (fun _ h9 => h9) dX3_saw_17 ?_
    refine gw_top (y := (nI 1)) (hcd) ?_
    refine lv_if_le (tgt := 25) hx hb dX3_saw_20 (by decide) (fun hc26 => ?_) (fun hc26 => ?_)
    · exact absurd hc26 (by decide)
    · refine lv_iconst (v := (nI 0)) hx hb dX3_saw_23 (by decide) ?_
      have hkv : qSaw T = nI 1 := by simp [qSaw, kif, b2_0.mp hcb]
      exact hret _ _ _ _ _ _ hP hS dX3_saw_24 (⟨by rw [uT_f (by rw [hkv]; decide)]; exact hk, hcd.trans hkv.symm, fun h9 => absurd (hkv.symm.trans h9) (by decide), _, rfl⟩)
  · refine lv_iconst (v := (nI 0)) hx hb dX3_saw_8 (by decide) ?_
    refine lv_goto (tgt := 13) hx hb dX3_saw_9 (by decide) ?_
    refine gw_put (C := RX3) (T := TX3) (N := 27) (ty := .int) hx hb hts inwX3 tyX3 tyX3_ok nmX3 hown hK hP hD hS 0 0 rfl rfl rfl (by decide) (hts _ a130) (fun _ h9 => h9) rfl (by decide +kernel) rfl rfl dX3_saw_13 (fun H locs hP hD hS => ?_)
    obtain ⟨sg27, esg27⟩ : ∃ z : Nat → Nat → Int32, z = gw_u sg0 0 (upd (sg0 0) 0 (nI 0)) := ⟨_, rfl⟩
    rw [← esg27] at hP hD
    have hk : EM (T) sg27 := by rw [esg27]; exact mw_code hk
    have hcd : sg27 0 0 = (nI 0) := by rw [esg27]; exact m_upd_s _ _ _
    refine lv_aload_n hx hb dX3_saw_16 rfl (lv_at hl 0 rfl) ?_
    refine gw_geti (C := RX3) (T := TX3) (N := 27) hx hb hts inwX3 hown hK hP 0 0 rfl rfl rfl (by decide) (hts _ a130) (fun _ h9 => h9) dX3_saw_17 ?_
    refine gw_top (y := (nI 0)) (hcd) ?_
    refine lv_if_le (tgt := 25) hx hb dX3_saw_20 (by decide) (fun hc28 => ?_) (fun hc28 => ?_)
    · have hk9 : qSaw T = nI 0 := by simp [qSaw, kif, fo_of hcb]
      have hfo := fo_of hcb
      obtain ⟨hp12, hft, hz⟩ := hT hfo
      refine lv_iconst (v := (nI 0)) hx hb dX3_saw_25 (by decide) ?_
      refine lv_istore_n (lv' := [(1, .int (nI 0)), (0, .ref (ad 0))]) hx hb dX3_saw_26 rfl hl (by decide) rfl (fun ls hl => ?_)
      exact c27 _ 0 _ _ _ _ rfl (by omega) hfo hk9 (⟨by rw [tSt_0]; exact hk, hcd⟩) hP hD hS (lv_sub hl [0, 1] rfl)
    · exact absurd hc28 (by decide)
abbrev rmf_X3_cost : Room := { frames := 3, cells := 0, slots := 0, locals := 70 }
set_option maxRecDepth 100000 in
set_option maxHeartbeats 4000000 in
theorem m_f_X3_cost (l : Launch) (hl9 : l.stackTraces = false) (D : va_G) (cI : ClassId) (cJ : ClassId × ClassId) (ad : Nat → Nat) (sg0 : Nat → Nat → Int32) (sz : Nat) (x1 : Int32) (x2 : Int32) (T : TS) (hT : TOk T) (hM : EM T sg0) : gc_M l yX3_cost wsX3_cost rmf_X3_cost D vwCl (tyS cI cJ) cI cJ gxT gxN SM [.ref (ad 0), .int x1, .int x2] ad sg0 sz 0 0 (fun v sg2 => EM T sg2 ∧ sg2 0 0 = qCost T x1 x2 ∧ (qCost T x1 x2 = nI 0 → v = some (.int (aCost T x1 x2))) ∧ ∃ r : Int32, v = some (.int r)) := by
  refine gc_Mi_of (cc := cX3_cost) (maxL := 8) (by decide) rfl (Nat.le_of_ble_eq_true rfl) ?_
  intro p e s m below meth c A ls Q hin hE hret
  obtain ⟨⟨hx, hb, hml, hown, hts⟩, -, hlocks, -, hA, hP, hK, hD, hS, hl⟩ := hin
  have hts : ∀ w ∈ wsAll, w.before ([.ref (ad 0), .int x1, .int x2] : List Value).toArray s = true := fun w h => hts w (List.mem_cons_of_mem _ h)
  have hl : lv_has ls 8 [(0, .ref (ad 0)), (1, .int x1), (2, .int x2)] := hl
  have hk := hM
  have hN6 := hM.1.1.1
  refine lv_aload_n hx hb dX3_cost_0 rfl (lv_at hl 0 rfl) ?_
  refine lv_iload_n hx hb dX3_cost_1 rfl (lv_at hl 1 rfl) ?_
  refine lv_iconst (v := (nI 0)) hx hb dX3_cost_2 (by decide) ?_
  refine lv_iconst (v := (nI 3)) hx hb dX3_cost_3 (by decide) ?_
  refine gc_go (pl := []) (S2 := SE) (ad := ad) (sg := sg0) (va_runS (As := [.int x1, .int (nI 0), .int (nI 3)]) (rest := [.ref (ad 0)]) ⟨hx, hb, hml, hown, hts⟩ (m_f_X3_isIn l hl9 D cI cJ (fun j => ad (gw_p [] j)) (fun j => sg0 (gw_p [] j)) _ x1 (nI 0) (nI 3) ) (cwS 3 hts (gwS a133 a134 a135 a136) rfl rfl rfl (by decide +kernel) ⟨by decide, by decide⟩) (gc_preS hK hP hD hS hA hE rfl) rfl rfl hl.1 rfl (lv_room (Nat.le_of_ble_eq_true rfl)) dX3_cost_4 ⟨by decide, by decide⟩) hP hD hS hA rfl (fun v1 sp2 sg3 H locs hp4 ha5 hb6 hP hD hS => ?_)
  rw [show sg3 = sg0 from funext (fun k => hb6 k (by simp))] at hP hD
  rcases hp4 with ⟨rfl, hi1⟩ | ⟨rfl, hi1⟩
  · refine W.eq (g2 := F0 m 7 ls [.int (nI 1), .ref (ad 0)]) rfl ?_
    refine lv_if_ne (tgt := 14) hx hb dX3_cost_7 (by decide) (fun hc7 => ?_) (fun hc7 => ?_)
    · refine lv_iload_n hx hb dX3_cost_14 rfl (lv_at hl 2 rfl) ?_
      refine lv_iconst (v := (nI 0)) hx hb dX3_cost_15 (by decide) ?_
      refine lv_sipush (v := (nI 20000)) hx hb dX3_cost_16 (by decide) ?_
      refine gc_go (pl := []) (S2 := SE) (ad := ad) (sg := sg0) (va_runS (As := [.int x2, .int (nI 0), .int (nI 20000)]) (rest := [.ref (ad 0)]) ⟨hx, hb, hml, hown, hts⟩ (m_f_X3_isIn l hl9 D cI cJ (fun j => ad (gw_p [] j)) (fun j => sg0 (gw_p [] j)) _ x2 (nI 0) (nI 20000) ) (cwS 3 hts (gwS a133 a134 a135 a136) rfl rfl rfl (by decide +kernel) ⟨by decide, by decide⟩) (gc_preS hK hP hD hS hA hE rfl) rfl rfl hl.1 rfl (lv_room (Nat.le_of_ble_eq_true rfl)) dX3_cost_19 ⟨by decide, by decide⟩) hP hD hS hA rfl (fun v8 sp9 sg10 H locs hp11 ha12 hb13 hP hD hS => ?_)
      rw [show sg10 = sg0 from funext (fun k => hb13 k (by simp))] at hP hD
      rcases hp11 with ⟨rfl, hi2⟩ | ⟨rfl, hi2⟩
      · refine W.eq (g2 := F0 m 22 ls [.int (nI 1), .ref (ad 0)]) rfl ?_
        refine lv_if_ne (tgt := 29) hx hb dX3_cost_22 (by decide) (fun hc14 => ?_) (fun hc14 => ?_)
        · refine lv_iconst (v := (nI 0)) hx hb dX3_cost_29 (by decide) ?_
          refine gw_put (C := RX3) (T := TX3) (N := 27) (ty := .int) hx hb hts inwX3 tyX3 tyX3_ok nmX3 hown hK hP hD hS 0 0 rfl rfl rfl (by decide) (hts _ a130) (fun _ h9 => h9) rfl (by decide +kernel) rfl rfl dX3_cost_30 (fun H locs hP hD hS => ?_)
          obtain ⟨sg15, esg15⟩ : ∃ z : Nat → Nat → Int32, z = gw_u sg0 0 (upd (sg0 0) 0 (nI 0)) := ⟨_, rfl⟩
          rw [← esg15] at hP hD
          have hk : EM (T) sg15 := by rw [esg15]; exact mw_code hk
          have hcd : sg15 0 0 = (nI 0) := by rw [esg15]; exact m_upd_s _ _ _
          refine lv_aload_n hx hb dX3_cost_33 rfl (lv_at hl 0 rfl) ?_
          refine gw_geti (C := RX3) (T := TX3) (N := 27) hx hb hts inwX3 hown hK hP 0 0 rfl rfl rfl (by decide) (hts _ a130) (fun _ h9 => h9) dX3_cost_34 ?_
          refine gw_top (y := (nI 0)) (hcd) ?_
          refine lv_if_le (tgt := 42) hx hb dX3_cost_37 (by decide) (fun hc16 => ?_) (fun hc16 => ?_)
          · obtain ⟨j1, hj1, rfl⟩ := inof3 hi1
            have hnj1 : nt (nI j1) = j1 := nt_nI (by omega)
            obtain ⟨j2, hj2, rfl⟩ := inof20000 hi2
            have hnj2 : nt (nI j2) = j2 := nt_nI (by omega)
            refine lv_aload_n hx hb dX3_cost_42 rfl (lv_at hl 0 rfl) ?_
            refine lv_iload_n hx hb dX3_cost_43 rfl (lv_at hl 2 rfl) ?_
            refine gc_go0 (va_runV (As := [.int (nI j2)]) (rest := []) ⟨hx, hb, hml, hown, hts⟩ (m_f_X3_seek l hl9 D cI cJ ad sg15 _ j2 (by omega) (yL T.1 j2) hk.1 rfl) (cwV 1 hts (gwV a185 a186 a187 a135 a188) rfl rfl rfl (by decide +kernel) ⟨by decide, by decide⟩) (gc_preV0 hK hP hD hS hA hE rfl rfl rfl) rfl rfl hl.1 rfl (lv_room (Nat.le_of_ble_eq_true rfl)) dX3_cost_44 ⟨by decide, by decide⟩) hD hS hA (fun v17 sg19 H locs hp20 hP hD hS => ?_)
            obtain ⟨rfl, hF9, hR9⟩ := hp20
            have hS1 := cR_sim (yL T.1 j2) (sg15 0 26) (sg15 12)
            have hh1 : sg19 0 23 = b2 (cR (yL T.1 j2)).2.2.1 := by rw [← hS1.2.2.1]; exact hR9.2.2.1
            have hg1 : (cR (yL T.1 j2)).2.2.1 = true → sg19 0 26 = (cR (yL T.1 j2)).2.2.2.1 := fun q9 => by rw [← hS1.2.2.2 q9]; exact hR9.2.2.2.1
            have hk := EM_mf hF9 hk
            have hcd : sg19 0 0 = nI 0 := (hF9.2 0 (by decide)).trans hcd
            refine W.eq (g2 := F0 m 47 ls []) rfl ?_
            refine lv_aload_n hx hb dX3_cost_47 rfl (lv_at hl 0 rfl) ?_
            refine gw_geti (C := RX3) (T := TX3) (N := 27) hx hb hts inwX3 hown hK hP 0 23 rfl rfl rfl (by decide) (hts _ a164) (fun _ h9 => h9) dX3_cost_48 ?_
            refine gw_top (y := (b2 (cR (yL T.1 j2)).2.2.1)) (hh1) ?_
            refine lv_istore_n (lv' := [(3, .int (b2 (cR (yL T.1 j2)).2.2.1)), (0, .ref (ad 0)), (1, .int (nI j1)), (2, .int (nI j2))]) hx hb dX3_cost_51 rfl hl (by decide) rfl (fun ls hl => ?_)
            refine lv_aload_n hx hb dX3_cost_52 rfl (lv_at hl 1 rfl) ?_
            refine gw_geti (C := RX3) (T := TX3) (N := 27) hx hb hts inwX3 hown hK hP 0 26 rfl rfl rfl (by decide) (hts _ a165) (fun _ h9 => h9) dX3_cost_53 ?_
            refine lv_istore (lv' := [(4, .int (sg19 0 26)), (3, .int (b2 (cR (yL T.1 j2)).2.2.1)), (0, .ref (ad 0)), (1, .int (nI j1)), (2, .int (nI j2))]) hx hb dX3_cost_56 hl (by decide) rfl (fun ls hl => ?_)
            refine lv_aload_n hx hb dX3_cost_58 rfl (lv_at hl 2 rfl) ?_
            refine gw_getr (C := RX3) (T := TX3) (N := 27) hx hb hts inwX3 hown hK hP 0 9 8 rfl rfl rfl (by decide) (hts _ a146) (fun _ h9 => h9) dX3_cost_59 ?_
            refine lv_iload_n hx hb dX3_cost_62 rfl (lv_at hl 3 rfl) ?_
            refine gw_ald hx hb hK hP 8 0 (n := 4) rfl rfl (i := j1) (by omega) (by decide) dX3_cost_63 ?_
            refine gw_top (y := (yWo T.1 j1)) ((hk.1.2.2.2.2.2.2.2.2.2 j1 (by omega)).2.2) ?_
            refine lv_istore (lv' := [(5, .int (yWo T.1 j1)), (4, .int (sg19 0 26)), (3, .int (b2 (cR (yL T.1 j2)).2.2.1)), (0, .ref (ad 0)), (1, .int (nI j1)), (2, .int (nI j2))]) hx hb dX3_cost_64 hl (by decide) rfl (fun ls hl => ?_)
            refine lv_aload_n hx hb dX3_cost_66 rfl (lv_at hl 3 rfl) ?_
            refine gw_getr (C := RX3) (T := TX3) (N := 27) hx hb hts inwX3 hown hK hP 0 7 6 rfl rfl rfl (by decide) (hts _ a144) (fun _ h9 => h9) dX3_cost_67 ?_
            refine lv_iload_n hx hb dX3_cost_70 rfl (lv_at hl 4 rfl) ?_
            refine gw_ald hx hb hK hP 6 0 (n := 4) rfl rfl (i := j1) (by omega) (by decide) dX3_cost_71 ?_
            refine gw_top (y := (yLs T.1 j1)) ((hk.1.2.2.2.2.2.2.2.2.2 j1 (by omega)).1) ?_
            refine lv_istore (lv' := [(6, .int (yLs T.1 j1)), (5, .int (yWo T.1 j1)), (4, .int (sg19 0 26)), (3, .int (b2 (cR (yL T.1 j2)).2.2.1)), (0, .ref (ad 0)), (1, .int (nI j1)), (2, .int (nI j2))]) hx hb dX3_cost_72 hl (by decide) rfl (fun ls hl => ?_)
            refine lv_aload_n hx hb dX3_cost_74 rfl (lv_at hl 4 rfl) ?_
            refine gw_getr (C := RX3) (T := TX3) (N := 27) hx hb hts inwX3 hown hK hP 0 8 7 rfl rfl rfl (by decide) (hts _ a145) (fun _ h9 => h9) dX3_cost_75 ?_
            refine lv_iload_n hx hb dX3_cost_78 rfl (lv_at hl 5 rfl) ?_
            refine gw_ald hx hb hK hP 7 0 (n := 4) rfl rfl (i := j1) (by omega) (by decide) dX3_cost_79 ?_
            refine gw_top (y := (yMs T.1 j1)) ((hk.1.2.2.2.2.2.2.2.2.2 j1 (by omega)).2.1) ?_
            refine lv_istore (lv' := [(7, .int (yMs T.1 j1)), (6, .int (yLs T.1 j1)), (5, .int (yWo T.1 j1)), (4, .int (sg19 0 26)), (3, .int (b2 (cR (yL T.1 j2)).2.2.1)), (0, .ref (ad 0)), (1, .int (nI j1)), (2, .int (nI j2))]) hx hb dX3_cost_80 hl (by decide) rfl (fun ls hl => ?_)
            refine lv_aload_n hx hb dX3_cost_82 rfl (lv_at hl 5 rfl) ?_
            refine gw_getr (C := RX3) (T := TX3) (N := 27) hx hb hts inwX3 hown hK hP 0 9 8 rfl rfl rfl (by decide) (hts _ a146) (fun _ h9 => h9) dX3_cost_83 ?_
            refine lv_iload_n hx hb dX3_cost_86 rfl (lv_at hl 6 rfl) ?_
            refine lv_iconst (v := (nI 0)) hx hb dX3_cost_87 (by decide) ?_
            refine gw_ast hx hb hK hP hD hS 8 0 (n := 4) rfl rfl (i := j1) (by omega) (by decide) dX3_cost_88 (fun H locs hP hD hS => ?_)
            obtain ⟨sg23, esg23⟩ : ∃ z : Nat → Nat → Int32, z = gw_u sg19 8 (upd (sg19 8) j1 (nI 0)) := ⟨_, rfl⟩
            rw [← esg23] at hP hD
            have hk : EM (sWo (T) j1 (nI 0)) sg23 := by rw [esg23]; exact mw_Wo hk
            have hcd : sg23 0 0 = (nI 0) := by rw [esg23, gw_u_n _ _ (by decide)]; exact hcd
            refine lv_aload_n hx hb dX3_cost_89 rfl (lv_at hl 5 rfl) ?_
            refine gw_getr (C := RX3) (T := TX3) (N := 27) hx hb hts inwX3 hown hK hP 0 7 6 rfl rfl rfl (by decide) (hts _ a144) (fun _ h9 => h9) dX3_cost_90 ?_
            refine lv_iload_n hx hb dX3_cost_93 rfl (lv_at hl 6 rfl) ?_
            refine lv_iconst (v := (nI 0)) hx hb dX3_cost_94 (by decide) ?_
            refine gw_ast hx hb hK hP hD hS 6 0 (n := 4) rfl rfl (i := j1) (by omega) (by decide) dX3_cost_95 (fun H locs hP hD hS => ?_)
            obtain ⟨sg24, esg24⟩ : ∃ z : Nat → Nat → Int32, z = gw_u sg23 6 (upd (sg23 6) j1 (nI 0)) := ⟨_, rfl⟩
            rw [← esg24] at hP hD
            have hk : EM (sLs (sWo (T) j1 (nI 0)) j1 (nI 0)) sg24 := by rw [esg24]; exact mw_Ls hk
            have hcd : sg24 0 0 = (nI 0) := by rw [esg24, gw_u_n _ _ (by decide)]; exact hcd
            refine lv_aload_n hx hb dX3_cost_96 rfl (lv_at hl 5 rfl) ?_
            refine gw_getr (C := RX3) (T := TX3) (N := 27) hx hb hts inwX3 hown hK hP 0 8 7 rfl rfl rfl (by decide) (hts _ a145) (fun _ h9 => h9) dX3_cost_97 ?_
            refine lv_iload_n hx hb dX3_cost_100 rfl (lv_at hl 6 rfl) ?_
            refine lv_iconst (v := (nI 0)) hx hb dX3_cost_101 (by decide) ?_
            refine gw_ast hx hb hK hP hD hS 7 0 (n := 4) rfl rfl (i := j1) (by omega) (by decide) dX3_cost_102 (fun H locs hP hD hS => ?_)
            obtain ⟨sg25, esg25⟩ : ∃ z : Nat → Nat → Int32, z = gw_u sg24 7 (upd (sg24 7) j1 (nI 0)) := ⟨_, rfl⟩
            rw [← esg25] at hP hD
            have hk : EM (sMs (sLs (sWo (T) j1 (nI 0)) j1 (nI 0)) j1 (nI 0)) sg25 := by rw [esg25]; exact mw_Ms hk
            have hcd : sg25 0 0 = (nI 0) := by rw [esg25, gw_u_n _ _ (by decide)]; exact hcd
            refine lv_aload_n hx hb dX3_cost_103 rfl (lv_at hl 5 rfl) ?_
            refine lv_iload_n hx hb dX3_cost_104 rfl (lv_at hl 7 rfl) ?_
            refine gc_go0 (va_runV (As := [.int (nI j2)]) (rest := []) ⟨hx, hb, hml, hown, hts⟩ (m_f_X3_seek l hl9 D cI cJ ad sg25 _ j2 (by omega) (yQ T.1 j1 j2) hk.1 rfl) (cwV 1 hts (gwV a185 a186 a187 a135 a188) rfl rfl rfl (by decide +kernel) ⟨by decide, by decide⟩) (gc_preV0 hK hP hD hS hA hE rfl rfl rfl) rfl rfl hl.1 rfl (lv_room (Nat.le_of_ble_eq_true rfl)) dX3_cost_105 ⟨by decide, by decide⟩) hD hS hA (fun v26 sg28 H locs hp29 hP hD hS => ?_)
            obtain ⟨rfl, hF9, hR9⟩ := hp29
            have hS2 := cR_sim (yQ T.1 j1 j2) (sg25 0 26) (sg25 12)
            have hh2 : sg28 0 23 = b2 (cR (yQ T.1 j1 j2)).2.2.1 := by rw [← hS2.2.2.1]; exact hR9.2.2.1
            have hg2 : (cR (yQ T.1 j1 j2)).2.2.1 = true → sg28 0 26 = (cR (yQ T.1 j1 j2)).2.2.2.1 := fun q9 => by rw [← hS2.2.2.2 q9]; exact hR9.2.2.2.1
            have hk := EM_mf hF9 hk
            have hcd : sg28 0 0 = nI 0 := (hF9.2 0 (by decide)).trans hcd
            refine W.eq (g2 := F0 m 108 ls []) rfl ?_
            refine lv_aload_n hx hb dX3_cost_108 rfl (lv_at hl 5 rfl) ?_
            refine gw_getr (C := RX3) (T := TX3) (N := 27) hx hb hts inwX3 hown hK hP 0 9 8 rfl rfl rfl (by decide) (hts _ a146) (fun _ h9 => h9) dX3_cost_109 ?_
            refine lv_iload_n hx hb dX3_cost_112 rfl (lv_at hl 6 rfl) ?_
            refine lv_iload hx hb dX3_cost_113 (lv_at hl 2 rfl) ?_
            refine gw_ast hx hb hK hP hD hS 8 0 (n := 4) rfl rfl (i := j1) (by omega) (by decide) dX3_cost_115 (fun H locs hP hD hS => ?_)
            obtain ⟨sg32, esg32⟩ : ∃ z : Nat → Nat → Int32, z = gw_u sg28 8 (upd (sg28 8) j1 (yWo T.1 j1)) := ⟨_, rfl⟩
            rw [← esg32] at hP hD
            have hk : EM (sWo (sMs (sLs (sWo (T) j1 (nI 0)) j1 (nI 0)) j1 (nI 0)) j1 (yWo T.1 j1)) sg32 := by rw [esg32]; exact mw_Wo hk
            have hcd : sg32 0 0 = (nI 0) := by rw [esg32, gw_u_n _ _ (by decide)]; exact hcd
            refine lv_aload_n hx hb dX3_cost_116 rfl (lv_at hl 5 rfl) ?_
            refine gw_getr (C := RX3) (T := TX3) (N := 27) hx hb hts inwX3 hown hK hP 0 7 6 rfl rfl rfl (by decide) (hts _ a144) (fun _ h9 => h9) dX3_cost_117 ?_
            refine lv_iload_n hx hb dX3_cost_120 rfl (lv_at hl 6 rfl) ?_
            refine lv_iload hx hb dX3_cost_121 (lv_at hl 1 rfl) ?_
            refine gw_ast hx hb hK hP hD hS 6 0 (n := 4) rfl rfl (i := j1) (by omega) (by decide) dX3_cost_123 (fun H locs hP hD hS => ?_)
            obtain ⟨sg33, esg33⟩ : ∃ z : Nat → Nat → Int32, z = gw_u sg32 6 (upd (sg32 6) j1 (yLs T.1 j1)) := ⟨_, rfl⟩
            rw [← esg33] at hP hD
            have hk : EM (sLs (sWo (sMs (sLs (sWo (T) j1 (nI 0)) j1 (nI 0)) j1 (nI 0)) j1 (yWo T.1 j1)) j1 (yLs T.1 j1)) sg33 := by rw [esg33]; exact mw_Ls hk
            have hcd : sg33 0 0 = (nI 0) := by rw [esg33, gw_u_n _ _ (by decide)]; exact hcd
            refine lv_aload_n hx hb dX3_cost_124 rfl (lv_at hl 5 rfl) ?_
            refine gw_getr (C := RX3) (T := TX3) (N := 27) hx hb hts inwX3 hown hK hP 0 8 7 rfl rfl rfl (by decide) (hts _ a145) (fun _ h9 => h9) dX3_cost_125 ?_
            refine lv_iload_n hx hb dX3_cost_128 rfl (lv_at hl 6 rfl) ?_
            refine lv_iload hx hb dX3_cost_129 (lv_at hl 0 rfl) ?_
            refine gw_ast hx hb hK hP hD hS 7 0 (n := 4) rfl rfl (i := j1) (by omega) (by decide) dX3_cost_131 (fun H locs hP hD hS => ?_)
            obtain ⟨sg34, esg34⟩ : ∃ z : Nat → Nat → Int32, z = gw_u sg33 7 (upd (sg33 7) j1 (yMs T.1 j1)) := ⟨_, rfl⟩
            rw [← esg34] at hP hD
            have hk : EM (sMs (sLs (sWo (sMs (sLs (sWo (T) j1 (nI 0)) j1 (nI 0)) j1 (nI 0)) j1 (yWo T.1 j1)) j1 (yLs T.1 j1)) j1 (yMs T.1 j1)) sg34 := by rw [esg34]; exact mw_Ms hk
            have hcd : sg34 0 0 = (nI 0) := by rw [esg34, gw_u_n _ _ (by decide)]; exact hcd
            refine lv_iload_n hx hb dX3_cost_132 rfl (lv_at hl 4 rfl) ?_
            refine lv_if_eq (tgt := 143) hx hb dX3_cost_133 (by decide) (fun hc133 => ?_) (fun hc133 => ?_)
            · refine lv_aload_n hx hb dX3_cost_143 rfl (lv_at hl 5 rfl) ?_
              refine lv_iconst (v := (nI 3)) hx hb dX3_cost_144 (by decide) ?_
              refine gw_put (C := RX3) (T := TX3) (N := 27) (ty := .int) hx hb hts inwX3 tyX3 tyX3_ok nmX3 hown hK hP hD hS 0 0 rfl rfl rfl (by decide) (hts _ a130) (fun _ h9 => h9) rfl (by decide +kernel) rfl rfl dX3_cost_145 (fun H locs hP hD hS => ?_)
              obtain ⟨sg35, esg35⟩ : ∃ z : Nat → Nat → Int32, z = gw_u sg34 0 (upd (sg34 0) 0 (nI 3)) := ⟨_, rfl⟩
              rw [← esg35] at hP hD
              have hk : EM (sMs (sLs (sWo (sMs (sLs (sWo (T) j1 (nI 0)) j1 (nI 0)) j1 (nI 0)) j1 (yWo T.1 j1)) j1 (yLs T.1 j1)) j1 (yMs T.1 j1)) sg35 := by rw [esg35]; exact mw_code hk
              have hcd : sg35 0 0 = (nI 3) := by rw [esg35]; exact m_upd_s _ _ _
              refine lv_iconst (v := (nI 0)) hx hb dX3_cost_148 (by decide) ?_
              have hkv : qCost T (nI j1) (nI j2) = nI 3 := by simp only [qCost, kif, hi1, hi2, if_true, hnj1, hnj2]; first | (rw [if_neg (fun q9 => by rw [b2_0.mp hc133] at q9; exact absurd q9.1 (by decide))]) | (rw [if_neg (fun q9 => by rw [b2_0.mp hc140] at q9; exact absurd q9.2 (by decide))])
              have hk : EM T _ := (back3 T j1 (nI 0)) ▸ hk
              exact hret _ _ _ _ _ _ hP hS dX3_cost_149 (⟨hk, hcd.trans hkv.symm, fun h9 => absurd (hkv.symm.trans h9) (by decide), _, rfl⟩)
            · refine lv_aload_n hx hb dX3_cost_136 rfl (lv_at hl 5 rfl) ?_
              refine gw_geti (C := RX3) (T := TX3) (N := 27) hx hb hts inwX3 hown hK hP 0 23 rfl rfl rfl (by decide) (hts _ a164) (fun _ h9 => h9) dX3_cost_137 ?_
              refine gw_top (y := (b2 (cR (yQ T.1 j1 j2)).2.2.1)) (by rw [esg34, gw_u_n _ _ (by decide), esg33, gw_u_n _ _ (by decide), esg32, gw_u_n _ _ (by decide)]; exact hh2) ?_
              refine lv_if_ne (tgt := 150) hx hb dX3_cost_140 (by decide) (fun hc140 => ?_) (fun hc140 => ?_)
              · refine lv_iload hx hb dX3_cost_150 (lv_at hl 3 rfl) ?_
                refine lv_aload_n hx hb dX3_cost_152 rfl (lv_at hl 5 rfl) ?_
                refine gw_geti (C := RX3) (T := TX3) (N := 27) hx hb hts inwX3 hown hK hP 0 26 rfl rfl rfl (by decide) (hts _ a165) (fun _ h9 => h9) dX3_cost_153 ?_
                refine lv_isub hx hb dX3_cost_156 ?_
                have hfa := fo_of hc133
                have hfb := fo_of hc140
                have hkv : qCost T (nI j1) (nI j2) = nI 0 := by simp [qCost, kif, hi1, hi2, hnj1, hnj2, hfa, hfb]
                have hk : EM T _ := (back3 T j1 (nI 0)) ▸ hk
                exact hret _ _ _ _ _ _ hP hS dX3_cost_157 (⟨hk, hcd.trans hkv.symm, fun _ => by unfold aCost; rw [hnj1, hnj2, hg1 hfa, esg34, gw_u_n _ _ (by decide), esg33, gw_u_n _ _ (by decide), esg32, gw_u_n _ _ (by decide), hg2 hfb], _, rfl⟩)
              · refine lv_aload_n hx hb dX3_cost_143 rfl (lv_at hl 5 rfl) ?_
                refine lv_iconst (v := (nI 3)) hx hb dX3_cost_144 (by decide) ?_
                refine gw_put (C := RX3) (T := TX3) (N := 27) (ty := .int) hx hb hts inwX3 tyX3 tyX3_ok nmX3 hown hK hP hD hS 0 0 rfl rfl rfl (by decide) (hts _ a130) (fun _ h9 => h9) rfl (by decide +kernel) rfl rfl dX3_cost_145 (fun H locs hP hD hS => ?_)
                obtain ⟨sg36, esg36⟩ : ∃ z : Nat → Nat → Int32, z = gw_u sg34 0 (upd (sg34 0) 0 (nI 3)) := ⟨_, rfl⟩
                rw [← esg36] at hP hD
                have hk : EM (sMs (sLs (sWo (sMs (sLs (sWo (T) j1 (nI 0)) j1 (nI 0)) j1 (nI 0)) j1 (yWo T.1 j1)) j1 (yLs T.1 j1)) j1 (yMs T.1 j1)) sg36 := by rw [esg36]; exact mw_code hk
                have hcd : sg36 0 0 = (nI 3) := by rw [esg36]; exact m_upd_s _ _ _
                refine lv_iconst (v := (nI 0)) hx hb dX3_cost_148 (by decide) ?_
                have hkv : qCost T (nI j1) (nI j2) = nI 3 := by simp only [qCost, kif, hi1, hi2, if_true, hnj1, hnj2]; first | (rw [if_neg (fun q9 => by rw [b2_0.mp hc133] at q9; exact absurd q9.1 (by decide))]) | (rw [if_neg (fun q9 => by rw [b2_0.mp hc140] at q9; exact absurd q9.2 (by decide))])
                have hk : EM T _ := (back3 T j1 (nI 0)) ▸ hk
                exact hret _ _ _ _ _ _ hP hS dX3_cost_149 (⟨hk, hcd.trans hkv.symm, fun h9 => absurd (hkv.symm.trans h9) (by decide), _, rfl⟩)
          · exact absurd hc16 (by decide)
        · exact absurd hc14 (by decide)
      · refine W.eq (g2 := F0 m 22 ls [.int (nI 0), .ref (ad 0)]) rfl ?_
        refine lv_if_ne (tgt := 29) hx hb dX3_cost_22 (by decide) (fun hc37 => ?_) (fun hc37 => ?_)
        · exact absurd hc37 (by decide)
        · refine lv_iconst (v := (nI 2)) hx hb dX3_cost_25 (by decide) ?_
          refine lv_goto (tgt := 30) hx hb dX3_cost_26 (by decide) ?_
          refine gw_put (C := RX3) (T := TX3) (N := 27) (ty := .int) hx hb hts inwX3 tyX3 tyX3_ok nmX3 hown hK hP hD hS 0 0 rfl rfl rfl (by decide) (hts _ a130) (fun _ h9 => h9) rfl (by decide +kernel) rfl rfl dX3_cost_30 (fun H locs hP hD hS => ?_)
          obtain ⟨sg38, esg38⟩ : ∃ z : Nat → Nat → Int32, z = gw_u sg0 0 (upd (sg0 0) 0 (nI 2)) := ⟨_, rfl⟩
          rw [← esg38] at hP hD
          have hk : EM (T) sg38 := by rw [esg38]; exact mw_code hk
          have hcd : sg38 0 0 = (nI 2) := by rw [esg38]; exact m_upd_s _ _ _
          refine lv_aload_n hx hb dX3_cost_33 rfl (lv_at hl 0 rfl) ?_
          refine gw_geti (C := RX3) (T := TX3) (N := 27) hx hb hts inwX3 hown hK hP 0 0 rfl rfl rfl (by decide) (hts _ a130) (fun _ h9 => h9) dX3_cost_34 ?_
          refine gw_top (y := (nI 2)) (hcd) ?_
          refine lv_if_le (tgt := 42) hx hb dX3_cost_37 (by decide) (fun hc39 => ?_) (fun hc39 => ?_)
          · exact absurd hc39 (by decide)
          · refine lv_iconst (v := (nI 0)) hx hb dX3_cost_40 (by decide) ?_
            have hkv : qCost T x1 x2 = nI 2 := by simp [qCost, kif, hi1, hi2]
            exact hret _ _ _ _ _ _ hP hS dX3_cost_41 (⟨hk, hcd.trans hkv.symm, fun h9 => absurd (hkv.symm.trans h9) (by decide), _, rfl⟩)
    · exact absurd hc7 (by decide)
  · refine W.eq (g2 := F0 m 7 ls [.int (nI 0), .ref (ad 0)]) rfl ?_
    refine lv_if_ne (tgt := 14) hx hb dX3_cost_7 (by decide) (fun hc40 => ?_) (fun hc40 => ?_)
    · exact absurd hc40 (by decide)
    · refine lv_iconst (v := (nI 1)) hx hb dX3_cost_10 (by decide) ?_
      refine lv_goto (tgt := 30) hx hb dX3_cost_11 (by decide) ?_
      refine gw_put (C := RX3) (T := TX3) (N := 27) (ty := .int) hx hb hts inwX3 tyX3 tyX3_ok nmX3 hown hK hP hD hS 0 0 rfl rfl rfl (by decide) (hts _ a130) (fun _ h9 => h9) rfl (by decide +kernel) rfl rfl dX3_cost_30 (fun H locs hP hD hS => ?_)
      obtain ⟨sg41, esg41⟩ : ∃ z : Nat → Nat → Int32, z = gw_u sg0 0 (upd (sg0 0) 0 (nI 1)) := ⟨_, rfl⟩
      rw [← esg41] at hP hD
      have hk : EM (T) sg41 := by rw [esg41]; exact mw_code hk
      have hcd : sg41 0 0 = (nI 1) := by rw [esg41]; exact m_upd_s _ _ _
      refine lv_aload_n hx hb dX3_cost_33 rfl (lv_at hl 0 rfl) ?_
      refine gw_geti (C := RX3) (T := TX3) (N := 27) hx hb hts inwX3 hown hK hP 0 0 rfl rfl rfl (by decide) (hts _ a130) (fun _ h9 => h9) dX3_cost_34 ?_
      refine gw_top (y := (nI 1)) (hcd) ?_
      refine lv_if_le (tgt := 42) hx hb dX3_cost_37 (by decide) (fun hc42 => ?_) (fun hc42 => ?_)
      · exact absurd hc42 (by decide)
      · refine lv_iconst (v := (nI 0)) hx hb dX3_cost_40 (by decide) ?_
        have hkv : qCost T x1 x2 = nI 1 := by simp [qCost, kif, hi1]
        exact hret _ _ _ _ _ _ hP hS dX3_cost_41 (⟨hk, hcd.trans hkv.symm, fun h9 => absurd (hkv.symm.trans h9) (by decide), _, rfl⟩)
