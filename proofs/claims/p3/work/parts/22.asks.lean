abbrev rmX3_run : Room := { frames := 3, cells := 0, slots := 0, locals := 70 }
set_option maxRecDepth 100000 in
set_option maxHeartbeats 4000000 in
theorem m_X3_run (l : Launch) (hl9 : l.stackTraces = false) (D : va_G) (cI : ClassId) (cJ : ClassId × ClassId) (ad : Nat → Nat) (sg0 : Nat → Nat → Int32) (sz : Nat) (x1 : Int32) (hI : IvM sg0) : gc_M l yX3_run wsX3_run rmX3_run D vwCl (tyS cI cJ) cI cJ gxT gxN SM [.ref (ad 0), .int x1] ad sg0 sz 0 0 (fun v sg2 => KM sg0 sg2 ∧ ∃ r : Int32, v = some (.int r)) := by
  refine gc_Mi_of (cc := cX3_run) (maxL := 3) (by decide) rfl (Nat.le_of_ble_eq_true rfl) ?_
  intro p e s m below meth c A ls Q hin hE hret
  obtain ⟨⟨hx, hb, hml, hown, hts⟩, -, hlocks, -, hA, hP, hK, hD, hS, hl⟩ := hin
  have hts : ∀ w ∈ wsAll, w.before ([.ref (ad 0), .int x1] : List Value).toArray s = true := fun w h => hts w (List.mem_cons_of_mem _ h)
  have hl : lv_has ls 3 [(0, .ref (ad 0)), (1, .int x1)] := hl
  have hk := KM.refl hI
  have c73 : ∀ (n9 : Nat) (i : Nat) (sg : Nat → Nat → Int32) (H : Heap) (locs : List Loc) (ls : Array Slot), 6 - i = n9 → i ≤ 6 → (KM sg0 sg) → va_P D vwCl (gw cI cJ ad sg SM) H → va_D A (gw cI cJ ad sg SM) → va_S A s.heap H locs → lv_has ls 3 [(2, .int (nI i)), (0, .ref (ad 0))] → W p l e rmX3_run s m ([.ref (ad 0), .int x1] : List Value).toArray below meth c H locs 0 0 Q (F0 m 73 ls []) := by
    intro n9
    induction n9 using Nat.strongRecOn with
    | ind n9 ih =>
    intro i sg H locs ls hn h1 hk hP hD hS hl
    subst hn
    refine lv_iload_n hx hb dX3_run_73 rfl (lv_at hl 0 rfl) ?_
    refine lv_bipush (v := (nI 6)) hx hb dX3_run_74 (by decide) ?_
    refine lv_icmp_ge (tgt := 97) hx hb dX3_run_76 (by decide) (fun hc1 => ?_) (fun hc1 => ?_)
    · have hc1 : 6 ≤ i := (nI_leI (a := 6) (b := i) (by omega) (by omega)).mp hc1
      refine lv_aload_n hx hb dX3_run_97 rfl (lv_at hl 1 rfl) ?_
      refine gw_geti (C := RX3) (T := TX3) (N := 27) hx hb hts inwX3 hown hK hP 0 17 rfl rfl rfl (by decide) (hts _ a183) (fun _ h9 => h9) dX3_run_98 ?_
      refine lv_topi (fun v2 hv2 => ?_)
      refine lv_if_eq (tgt := 108) hx hb dX3_run_101 (by decide) (fun hc3 => ?_) (fun hc3 => ?_)
      · refine lv_aload_n hx hb dX3_run_108 rfl (lv_at hl 1 rfl) ?_
        refine gw_geti (C := RX3) (T := TX3) (N := 27) hx hb hts inwX3 hown hK hP 0 16 rfl rfl rfl (by decide) (hts _ a132) (fun _ h9 => h9) dX3_run_109 ?_
        refine lv_topi (fun v4 hv4 => ?_)
        refine lv_if_eq (tgt := 119) hx hb dX3_run_112 (by decide) (fun hc5 => ?_) (fun hc5 => ?_)
        · refine lv_iconst (v := (nI 1)) hx hb dX3_run_119 (by decide) ?_
          exact hret _ _ _ _ _ _ hP hS dX3_run_120 (⟨hk, _, rfl⟩)
        · refine lv_iconst (v := (nI 0)) hx hb dX3_run_115 (by decide) ?_
          refine lv_goto (tgt := 120) hx hb dX3_run_116 (by decide) ?_
          exact hret _ _ _ _ _ _ hP hS dX3_run_120 (⟨hk, _, rfl⟩)
      · refine lv_iconst (v := (nI 2)) hx hb dX3_run_104 (by decide) ?_
        refine lv_goto (tgt := 120) hx hb dX3_run_105 (by decide) ?_
        exact hret _ _ _ _ _ _ hP hS dX3_run_120 (⟨hk, _, rfl⟩)
    · have hc1 : ¬ (6 ≤ i) := fun q => hc1 ((nI_leI (a := 6) (b := i) (by omega) (by omega)).mpr q)
      refine lv_aload_n hx hb dX3_run_79 rfl (lv_at hl 1 rfl) ?_
      refine gw_getr (C := RX3) (T := TX3) (N := 27) hx hb hts inwX3 hown hK hP 0 19 10 rfl rfl rfl (by decide) (hts _ a184) (fun _ h9 => h9) dX3_run_80 ?_
      refine lv_iload_n hx hb dX3_run_83 rfl (lv_at hl 0 rfl) ?_
      refine lv_aload_n hx hb dX3_run_84 rfl (lv_at hl 1 rfl) ?_
      refine gw_getr (C := RX3) (T := TX3) (N := 27) hx hb hts inwX3 hown hK hP 0 22 12 rfl rfl rfl (by decide) (hts _ a163) (fun _ h9 => h9) dX3_run_85 ?_
      refine lv_iload_n hx hb dX3_run_88 rfl (lv_at hl 0 rfl) ?_
      refine gw_ald hx hb hK hP 12 0 (n := 6) rfl rfl (i := i) (by omega) (by decide) dX3_run_89 ?_
      refine lv_topi (fun v6 hv6 => ?_)
      refine gw_ast hx hb hK hP hD hS 10 0 (n := 6) rfl rfl (i := i) (by omega) (by decide) dX3_run_90 (fun H locs hP hD hS => ?_)
      obtain ⟨sg7, esg7⟩ : ∃ z : Nat → Nat → Int32, z = gw_u sg 10 (upd (sg 10) i v6) := ⟨_, rfl⟩
      rw [← esg7] at hP hD
      have hk : KM sg0 sg7 := by rw [esg7]; exact hk.wa 10 (by decide) (by decide) _
      refine lv_iinc (k := 0) (v := (nI (i + 1))) (lv' := [(2, .int (nI (i + 1))), (0, .ref (ad 0))]) hx hb dX3_run_91 hl rfl (nI_1 _) (by decide) rfl (fun ls hl => ?_)
      refine lv_goto (tgt := 73) hx hb dX3_run_94 (by decide) ?_
      exact ih _ (by omega) (i + 1) _ _ _ _ rfl (by omega) hk hP hD hS (lv_sub hl [0, 1] rfl)
  refine lv_aload_n hx hb dX3_run_0 rfl (lv_at hl 0 rfl) ?_
  refine lv_iload_n hx hb dX3_run_1 rfl (lv_at hl 1 rfl) ?_
  refine lv_iconst (v := (nI 0)) hx hb dX3_run_2 (by decide) ?_
  refine lv_sipush (v := (nI 20000)) hx hb dX3_run_3 (by decide) ?_
  refine gc_go (pl := []) (S2 := SE) (ad := ad) (sg := sg0) (va_runS (As := [.int x1, .int (nI 0), .int (nI 20000)]) (rest := [.ref (ad 0)]) ⟨hx, hb, hml, hown, hts⟩ (m_X3_isIn l hl9 D cI cJ (fun j => ad (gw_p [] j)) (fun j => sg0 (gw_p [] j)) _ x1 (nI 0) (nI 20000) ) (cwS 3 hts (gwS a133 a134 a135 a136) rfl rfl rfl (by decide +kernel) ⟨by decide, by decide⟩) (gc_preS hK hP hD hS hA hE rfl) rfl rfl hl.1 rfl (lv_room (Nat.le_of_ble_eq_true rfl)) dX3_run_6 ⟨by decide, by decide⟩) hP hD hS hA rfl (fun v8 sp9 sg10 H locs hp11 ha12 hb13 hP hD hS => ?_)
  rw [show sg10 = sg0 from funext (fun k => hb13 k (by simp))] at hP hD
  rcases hp11 with ⟨rfl, hi1⟩ | ⟨rfl, hi1⟩
  · refine W.eq (g2 := F0 m 9 ls [.int (nI 1), .ref (ad 0)]) rfl ?_
    refine lv_if_eq (tgt := 16) hx hb dX3_run_9 (by decide) (fun hc14 => ?_) (fun hc14 => ?_)
    · exact absurd hc14 (by decide)
    · refine lv_iconst (v := (nI 0)) hx hb dX3_run_12 (by decide) ?_
      refine lv_goto (tgt := 17) hx hb dX3_run_13 (by decide) ?_
      refine gw_put (C := RX3) (T := TX3) (N := 27) (ty := .int) hx hb hts inwX3 tyX3 tyX3_ok nmX3 hown hK hP hD hS 0 0 rfl rfl rfl (by decide) (hts _ a130) (fun _ h9 => h9) rfl (by decide +kernel) rfl rfl dX3_run_17 (fun H locs hP hD hS => ?_)
      obtain ⟨sg15, esg15⟩ : ∃ z : Nat → Nat → Int32, z = gw_u sg0 0 (upd (sg0 0) 0 (nI 0)) := ⟨_, rfl⟩
      rw [← esg15] at hP hD
      have hk : KM sg0 sg15 := by rw [esg15]; exact hk.wf (by decide) (by decide) (by decide) _
      refine lv_aload_n hx hb dX3_run_20 rfl (lv_at hl 0 rfl) ?_
      refine gw_geti (C := RX3) (T := TX3) (N := 27) hx hb hts inwX3 hown hK hP 0 0 rfl rfl rfl (by decide) (hts _ a130) (fun _ h9 => h9) dX3_run_21 ?_
      refine gw_top (y := (nI 0)) (by simp [esg15, gw_u, upd]) ?_
      refine lv_if_le (tgt := 29) hx hb dX3_run_24 (by decide) (fun hc16 => ?_) (fun hc16 => ?_)
      · obtain ⟨j1, hj1, rfl⟩ := inof20000 hi1
        refine lv_aload_n hx hb dX3_run_29 rfl (lv_at hl 0 rfl) ?_
        refine lv_iload_n hx hb dX3_run_30 rfl (lv_at hl 1 rfl) ?_
        obtain ⟨N17, hN17, eN17⟩ := hk.1.1
        refine gc_go0 (va_runV (As := [.int (nI j1)]) (rest := []) ⟨hx, hb, hml, hown, hts⟩ (m_X3_seek l hl9 D cI cJ ad sg15 _ j1 (by omega) hk.1 N17 hN17 eN17) (cwV 1 hts (gwV a185 a186 a187 a135 a188) rfl rfl rfl (by decide +kernel) ⟨by decide, by decide⟩) (gc_preV0 hK hP hD hS hA hE rfl rfl rfl) rfl rfl hl.1 rfl (lv_room (Nat.le_of_ble_eq_true rfl)) dX3_run_31 ⟨by decide, by decide⟩) hD hS hA (fun v18 sg20 H locs hp21 hP hD hS => ?_)
        obtain ⟨hk1, rfl⟩ := hp21
        have hk := hk.trans hk1
        refine W.eq (g2 := F0 m 34 ls []) rfl ?_
        refine lv_aload_n hx hb dX3_run_34 rfl (lv_at hl 0 rfl) ?_
        refine lv_iconst (v := (nI 1)) hx hb dX3_run_35 (by decide) ?_
        refine gw_put (C := RX3) (T := TX3) (N := 27) (ty := .boolean) hx hb hts inwX3 tyX3 tyX3_ok nmX3 hown hK hP hD hS 0 15 rfl rfl rfl (by decide) (hts _ a131) (fun _ h9 => h9) rfl (by decide +kernel) rfl rfl dX3_run_36 (fun H locs hP hD hS => ?_)
        obtain ⟨sg24, esg24⟩ : ∃ z : Nat → Nat → Int32, z = gw_u sg20 0 (upd (sg20 0) 15 (nI 1)) := ⟨_, rfl⟩
        rw [← esg24] at hP hD
        have hk : KM sg0 sg24 := by rw [esg24]; exact hk.wf (by decide) (by decide) (by decide) _
        refine lv_aload_n hx hb dX3_run_39 rfl (lv_at hl 0 rfl) ?_
        refine lv_aload_n hx hb dX3_run_40 rfl (lv_at hl 0 rfl) ?_
        refine gw_geti (C := RX3) (T := TX3) (N := 27) hx hb hts inwX3 hown hK hP 0 23 rfl rfl rfl (by decide) (hts _ a164) (fun _ h9 => h9) dX3_run_41 ?_
        refine lv_topi (fun v25 hv25 => ?_)
        have hb41 : v25 = nI 0 ∨ v25 = nI 1 := by rw [hv25]; exact hk.1.2.2.1
        refine gw_put (C := RX3) (T := TX3) (N := 27) (ty := .boolean) hx hb hts inwX3 tyX3 tyX3_ok nmX3 hown hK hP hD hS 0 16 rfl rfl rfl (by decide) (hts _ a132) (fun _ h9 => h9) rfl (by decide +kernel) (nb hb41) (nbf hb41) dX3_run_44 (fun H locs hP hD hS => ?_)
        obtain ⟨sg26, esg26⟩ : ∃ z : Nat → Nat → Int32, z = gw_u sg24 0 (upd (sg24 0) 16 v25) := ⟨_, rfl⟩
        rw [← esg26] at hP hD
        have hk : KM sg0 sg26 := by rw [esg26]; exact hk.wf (by decide) (by decide) (by decide) _
        refine lv_aload_n hx hb dX3_run_47 rfl (lv_at hl 0 rfl) ?_
        refine lv_aload_n hx hb dX3_run_48 rfl (lv_at hl 0 rfl) ?_
        refine gw_geti (C := RX3) (T := TX3) (N := 27) hx hb hts inwX3 hown hK hP 0 24 rfl rfl rfl (by decide) (hts _ a182) (fun _ h9 => h9) dX3_run_49 ?_
        refine lv_topi (fun v27 hv27 => ?_)
        have hb49 : v27 = nI 0 ∨ v27 = nI 1 := by rw [hv27]; exact hk.1.2.2.2
        refine gw_put (C := RX3) (T := TX3) (N := 27) (ty := .boolean) hx hb hts inwX3 tyX3 tyX3_ok nmX3 hown hK hP hD hS 0 17 rfl rfl rfl (by decide) (hts _ a183) (fun _ h9 => h9) rfl (by decide +kernel) (nb hb49) (nbf hb49) dX3_run_52 (fun H locs hP hD hS => ?_)
        obtain ⟨sg28, esg28⟩ : ∃ z : Nat → Nat → Int32, z = gw_u sg26 0 (upd (sg26 0) 17 v27) := ⟨_, rfl⟩
        rw [← esg28] at hP hD
        have hk : KM sg0 sg28 := by rw [esg28]; exact hk.wf (by decide) (by decide) (by decide) _
        refine lv_aload_n hx hb dX3_run_55 rfl (lv_at hl 0 rfl) ?_
        refine lv_aload_n hx hb dX3_run_56 rfl (lv_at hl 0 rfl) ?_
        refine gw_geti (C := RX3) (T := TX3) (N := 27) hx hb hts inwX3 hown hK hP 0 25 rfl rfl rfl (by decide) (hts _ a177) (fun _ h9 => h9) dX3_run_57 ?_
        refine lv_topi (fun v29 hv29 => ?_)
        refine gw_put (C := RX3) (T := TX3) (N := 27) (ty := .int) hx hb hts inwX3 tyX3 tyX3_ok nmX3 hown hK hP hD hS 0 18 rfl rfl rfl (by decide) (hts _ a189) (fun _ h9 => h9) rfl (by decide +kernel) rfl rfl dX3_run_60 (fun H locs hP hD hS => ?_)
        obtain ⟨sg30, esg30⟩ : ∃ z : Nat → Nat → Int32, z = gw_u sg28 0 (upd (sg28 0) 18 v29) := ⟨_, rfl⟩
        rw [← esg30] at hP hD
        have hk : KM sg0 sg30 := by rw [esg30]; exact hk.wf (by decide) (by decide) (by decide) _
        refine lv_aload_n hx hb dX3_run_63 rfl (lv_at hl 0 rfl) ?_
        refine lv_aload_n hx hb dX3_run_64 rfl (lv_at hl 0 rfl) ?_
        refine gw_geti (C := RX3) (T := TX3) (N := 27) hx hb hts inwX3 hown hK hP 0 26 rfl rfl rfl (by decide) (hts _ a165) (fun _ h9 => h9) dX3_run_65 ?_
        refine lv_topi (fun v31 hv31 => ?_)
        refine gw_put (C := RX3) (T := TX3) (N := 27) (ty := .int) hx hb hts inwX3 tyX3 tyX3_ok nmX3 hown hK hP hD hS 0 20 rfl rfl rfl (by decide) (hts _ a190) (fun _ h9 => h9) rfl (by decide +kernel) rfl rfl dX3_run_68 (fun H locs hP hD hS => ?_)
        obtain ⟨sg32, esg32⟩ : ∃ z : Nat → Nat → Int32, z = gw_u sg30 0 (upd (sg30 0) 20 v31) := ⟨_, rfl⟩
        rw [← esg32] at hP hD
        have hk : KM sg0 sg32 := by rw [esg32]; exact hk.wf (by decide) (by decide) (by decide) _
        refine lv_iconst (v := (nI 0)) hx hb dX3_run_71 (by decide) ?_
        refine lv_istore_n (lv' := [(2, .int (nI 0)), (0, .ref (ad 0)), (1, .int (nI j1))]) hx hb dX3_run_72 rfl hl (by decide) rfl (fun ls hl => ?_)
        exact c73 _ 0 _ _ _ _ rfl (by omega) hk hP hD hS (lv_sub hl [0, 1] rfl)
      · exact absurd hc16 (by decide)
  · refine W.eq (g2 := F0 m 9 ls [.int (nI 0), .ref (ad 0)]) rfl ?_
    refine lv_if_eq (tgt := 16) hx hb dX3_run_9 (by decide) (fun hc33 => ?_) (fun hc33 => ?_)
    · refine lv_iconst (v := (nI 1)) hx hb dX3_run_16 (by decide) ?_
      refine gw_put (C := RX3) (T := TX3) (N := 27) (ty := .int) hx hb hts inwX3 tyX3 tyX3_ok nmX3 hown hK hP hD hS 0 0 rfl rfl rfl (by decide) (hts _ a130) (fun _ h9 => h9) rfl (by decide +kernel) rfl rfl dX3_run_17 (fun H locs hP hD hS => ?_)
      obtain ⟨sg34, esg34⟩ : ∃ z : Nat → Nat → Int32, z = gw_u sg0 0 (upd (sg0 0) 0 (nI 1)) := ⟨_, rfl⟩
      rw [← esg34] at hP hD
      have hk : KM sg0 sg34 := by rw [esg34]; exact hk.wf (by decide) (by decide) (by decide) _
      refine lv_aload_n hx hb dX3_run_20 rfl (lv_at hl 0 rfl) ?_
      refine gw_geti (C := RX3) (T := TX3) (N := 27) hx hb hts inwX3 hown hK hP 0 0 rfl rfl rfl (by decide) (hts _ a130) (fun _ h9 => h9) dX3_run_21 ?_
      refine gw_top (y := (nI 1)) (by simp [esg34, gw_u, upd]) ?_
      refine lv_if_le (tgt := 29) hx hb dX3_run_24 (by decide) (fun hc35 => ?_) (fun hc35 => ?_)
      · exact absurd hc35 (by decide)
      · refine lv_iconst (v := (nI 0)) hx hb dX3_run_27 (by decide) ?_
        exact hret _ _ _ _ _ _ hP hS dX3_run_28 (⟨hk, _, rfl⟩)
    · exact absurd hc33 (by decide)
abbrev rmX3_search : Room := { frames := 1, cells := 0, slots := 0, locals := 22 }
set_option maxRecDepth 100000 in
set_option maxHeartbeats 4000000 in
theorem m_X3_search (l : Launch) (hl9 : l.stackTraces = false) (D : va_G) (cI : ClassId) (cJ : ClassId × ClassId) (ad : Nat → Nat) (sg0 : Nat → Nat → Int32) (sz : Nat) (x1 : Int32) (hI : IvM sg0) : gc_M l yX3_search wsX3_search rmX3_search D vwCl (tyS cI cJ) cI cJ gxT gxN SM [.ref (ad 0), .int x1] ad sg0 sz 0 0 (fun v sg2 => KM sg0 sg2 ∧ ∃ r : Int32, v = some (.int r)) := by
  refine gc_Mi_of (cc := cX3_search) (maxL := 2) (by decide) rfl (Nat.le_of_ble_eq_true rfl) ?_
  intro p e s m below meth c A ls Q hin hE hret
  obtain ⟨⟨hx, hb, hml, hown, hts⟩, -, hlocks, -, hA, hP, hK, hD, hS, hl⟩ := hin
  have hts : ∀ w ∈ wsAll, w.before ([.ref (ad 0), .int x1] : List Value).toArray s = true := fun w h => hts w (List.mem_cons_of_mem _ h)
  have hl : lv_has ls 2 [(0, .ref (ad 0)), (1, .int x1)] := hl
  have hk := KM.refl hI
  refine lv_aload_n hx hb dX3_search_0 rfl (lv_at hl 0 rfl) ?_
  refine lv_iload_n hx hb dX3_search_1 rfl (lv_at hl 1 rfl) ?_
  refine lv_iconst (v := (nI 0)) hx hb dX3_search_2 (by decide) ?_
  refine lv_iconst (v := (nI 3)) hx hb dX3_search_3 (by decide) ?_
  refine gc_go (pl := []) (S2 := SE) (ad := ad) (sg := sg0) (va_runS (As := [.int x1, .int (nI 0), .int (nI 3)]) (rest := [.ref (ad 0)]) ⟨hx, hb, hml, hown, hts⟩ (m_X3_isIn l hl9 D cI cJ (fun j => ad (gw_p [] j)) (fun j => sg0 (gw_p [] j)) _ x1 (nI 0) (nI 3) ) (cwS 3 hts (gwS a133 a134 a135 a136) rfl rfl rfl (by decide +kernel) ⟨by decide, by decide⟩) (gc_preS hK hP hD hS hA hE rfl) rfl rfl hl.1 rfl (lv_room (Nat.le_of_ble_eq_true rfl)) dX3_search_4 ⟨by decide, by decide⟩) hP hD hS hA rfl (fun v1 sp2 sg3 H locs hp4 ha5 hb6 hP hD hS => ?_)
  rw [show sg3 = sg0 from funext (fun k => hb6 k (by simp))] at hP hD
  rcases hp4 with ⟨rfl, hi1⟩ | ⟨rfl, hi1⟩
  · refine W.eq (g2 := F0 m 7 ls [.int (nI 1), .ref (ad 0)]) rfl ?_
    refine lv_if_ne (tgt := 14) hx hb dX3_search_7 (by decide) (fun hc7 => ?_) (fun hc7 => ?_)
    · refine lv_aload_n hx hb dX3_search_14 rfl (lv_at hl 0 rfl) ?_
      refine gw_geti (C := RX3) (T := TX3) (N := 27) hx hb hts inwX3 hown hK hP 0 15 rfl rfl rfl (by decide) (hts _ a131) (fun _ h9 => h9) dX3_search_15 ?_
      refine lv_topi (fun v8 hv8 => ?_)
      refine lv_if_ne (tgt := 25) hx hb dX3_search_18 (by decide) (fun hc9 => ?_) (fun hc9 => ?_)
      · refine lv_iconst (v := (nI 0)) hx hb dX3_search_25 (by decide) ?_
        refine gw_put (C := RX3) (T := TX3) (N := 27) (ty := .int) hx hb hts inwX3 tyX3 tyX3_ok nmX3 hown hK hP hD hS 0 0 rfl rfl rfl (by decide) (hts _ a130) (fun _ h9 => h9) rfl (by decide +kernel) rfl rfl dX3_search_26 (fun H locs hP hD hS => ?_)
        obtain ⟨sg10, esg10⟩ : ∃ z : Nat → Nat → Int32, z = gw_u sg0 0 (upd (sg0 0) 0 (nI 0)) := ⟨_, rfl⟩
        rw [← esg10] at hP hD
        have hk : KM sg0 sg10 := by rw [esg10]; exact hk.wf (by decide) (by decide) (by decide) _
        refine lv_aload_n hx hb dX3_search_29 rfl (lv_at hl 0 rfl) ?_
        refine gw_geti (C := RX3) (T := TX3) (N := 27) hx hb hts inwX3 hown hK hP 0 0 rfl rfl rfl (by decide) (hts _ a130) (fun _ h9 => h9) dX3_search_30 ?_
        refine gw_top (y := (nI 0)) (by simp [esg10, gw_u, upd]) ?_
        refine lv_if_le (tgt := 38) hx hb dX3_search_33 (by decide) (fun hc11 => ?_) (fun hc11 => ?_)
        · refine lv_iload_n hx hb dX3_search_38 rfl (lv_at hl 1 rfl) ?_
          refine lv_if_ne (tgt := 49) hx hb dX3_search_39 (by decide) (fun hc12 => ?_) (fun hc12 => ?_)
          · refine lv_iload_n hx hb dX3_search_49 rfl (lv_at hl 1 rfl) ?_
            refine lv_iconst (v := (nI 1)) hx hb dX3_search_50 (by decide) ?_
            refine lv_icmp_ne (tgt := 69) hx hb dX3_search_51 (by decide) (fun hc13 => ?_) (fun hc13 => ?_)
            · refine lv_iload_n hx hb dX3_search_69 rfl (lv_at hl 1 rfl) ?_
              refine lv_iconst (v := (nI 2)) hx hb dX3_search_70 (by decide) ?_
              refine lv_icmp_ne (tgt := 89) hx hb dX3_search_71 (by decide) (fun hc14 => ?_) (fun hc14 => ?_)
              · refine lv_aload_n hx hb dX3_search_89 rfl (lv_at hl 0 rfl) ?_
                refine gc_go0 (va_runV (As := []) (rest := []) ⟨hx, hb, hml, hown, hts⟩ (m_X3_bound l hl9 D cI cJ ad sg10 _  hk.1) (cwV 0 hts (gwV a191 a192 a193 a135 a194) rfl rfl rfl (by decide +kernel) ⟨by decide, by decide⟩) (gc_preV0 hK hP hD hS hA hE rfl rfl rfl) rfl rfl hl.1 rfl (lv_room (Nat.le_of_ble_eq_true rfl)) dX3_search_90 ⟨by decide, by decide⟩) hD hS hA (fun v15 sg17 H locs hp18 hP hD hS => ?_)
                obtain ⟨hs9, r21, rfl⟩ := hp18
                rw [hs9] at hP hD
                refine W.eq (g2 := F0 m 93 ls [.int r21]) rfl ?_
                exact hret _ _ _ _ _ _ hP hS dX3_search_93 (⟨hk, _, rfl⟩)
              · refine lv_aload_n hx hb dX3_search_74 rfl (lv_at hl 0 rfl) ?_
                refine gw_geti (C := RX3) (T := TX3) (N := 27) hx hb hts inwX3 hown hK hP 0 16 rfl rfl rfl (by decide) (hts _ a132) (fun _ h9 => h9) dX3_search_75 ?_
                refine lv_topi (fun v22 hv22 => ?_)
                refine lv_if_eq (tgt := 85) hx hb dX3_search_78 (by decide) (fun hc23 => ?_) (fun hc23 => ?_)
                · refine lv_iconst (v := (nI 0)) hx hb dX3_search_85 (by decide) ?_
                  refine lv_goto (tgt := 93) hx hb dX3_search_86 (by decide) ?_
                  exact hret _ _ _ _ _ _ hP hS dX3_search_93 (⟨hk, _, rfl⟩)
                · refine lv_iconst (v := (nI 1)) hx hb dX3_search_81 (by decide) ?_
                  refine lv_goto (tgt := 93) hx hb dX3_search_82 (by decide) ?_
                  exact hret _ _ _ _ _ _ hP hS dX3_search_93 (⟨hk, _, rfl⟩)
            · refine lv_aload_n hx hb dX3_search_54 rfl (lv_at hl 0 rfl) ?_
              refine gw_geti (C := RX3) (T := TX3) (N := 27) hx hb hts inwX3 hown hK hP 0 17 rfl rfl rfl (by decide) (hts _ a183) (fun _ h9 => h9) dX3_search_55 ?_
              refine lv_topi (fun v24 hv24 => ?_)
              refine lv_if_eq (tgt := 65) hx hb dX3_search_58 (by decide) (fun hc25 => ?_) (fun hc25 => ?_)
              · refine lv_iconst (v := (nI 1)) hx hb dX3_search_65 (by decide) ?_
                refine lv_goto (tgt := 93) hx hb dX3_search_66 (by decide) ?_
                exact hret _ _ _ _ _ _ hP hS dX3_search_93 (⟨hk, _, rfl⟩)
              · refine lv_iconst (v := (nI 0)) hx hb dX3_search_61 (by decide) ?_
                refine lv_goto (tgt := 93) hx hb dX3_search_62 (by decide) ?_
                exact hret _ _ _ _ _ _ hP hS dX3_search_93 (⟨hk, _, rfl⟩)
          · refine lv_aload_n hx hb dX3_search_42 rfl (lv_at hl 0 rfl) ?_
            refine gw_geti (C := RX3) (T := TX3) (N := 27) hx hb hts inwX3 hown hK hP 0 18 rfl rfl rfl (by decide) (hts _ a189) (fun _ h9 => h9) dX3_search_43 ?_
            refine lv_topi (fun v26 hv26 => ?_)
            refine lv_goto (tgt := 93) hx hb dX3_search_46 (by decide) ?_
            exact hret _ _ _ _ _ _ hP hS dX3_search_93 (⟨hk, _, rfl⟩)
        · exact absurd hc11 (by decide)
      · refine lv_iconst (v := (nI 2)) hx hb dX3_search_21 (by decide) ?_
        refine lv_goto (tgt := 26) hx hb dX3_search_22 (by decide) ?_
        refine gw_put (C := RX3) (T := TX3) (N := 27) (ty := .int) hx hb hts inwX3 tyX3 tyX3_ok nmX3 hown hK hP hD hS 0 0 rfl rfl rfl (by decide) (hts _ a130) (fun _ h9 => h9) rfl (by decide +kernel) rfl rfl dX3_search_26 (fun H locs hP hD hS => ?_)
        obtain ⟨sg27, esg27⟩ : ∃ z : Nat → Nat → Int32, z = gw_u sg0 0 (upd (sg0 0) 0 (nI 2)) := ⟨_, rfl⟩
        rw [← esg27] at hP hD
        have hk : KM sg0 sg27 := by rw [esg27]; exact hk.wf (by decide) (by decide) (by decide) _
        refine lv_aload_n hx hb dX3_search_29 rfl (lv_at hl 0 rfl) ?_
        refine gw_geti (C := RX3) (T := TX3) (N := 27) hx hb hts inwX3 hown hK hP 0 0 rfl rfl rfl (by decide) (hts _ a130) (fun _ h9 => h9) dX3_search_30 ?_
        refine gw_top (y := (nI 2)) (by simp [esg27, gw_u, upd]) ?_
        refine lv_if_le (tgt := 38) hx hb dX3_search_33 (by decide) (fun hc28 => ?_) (fun hc28 => ?_)
        · exact absurd hc28 (by decide)
        · refine lv_iconst (v := (nI 0)) hx hb dX3_search_36 (by decide) ?_
          exact hret _ _ _ _ _ _ hP hS dX3_search_37 (⟨hk, _, rfl⟩)
    · exact absurd hc7 (by decide)
  · refine W.eq (g2 := F0 m 7 ls [.int (nI 0), .ref (ad 0)]) rfl ?_
    refine lv_if_ne (tgt := 14) hx hb dX3_search_7 (by decide) (fun hc29 => ?_) (fun hc29 => ?_)
    · exact absurd hc29 (by decide)
    · refine lv_iconst (v := (nI 1)) hx hb dX3_search_10 (by decide) ?_
      refine lv_goto (tgt := 26) hx hb dX3_search_11 (by decide) ?_
      refine gw_put (C := RX3) (T := TX3) (N := 27) (ty := .int) hx hb hts inwX3 tyX3 tyX3_ok nmX3 hown hK hP hD hS 0 0 rfl rfl rfl (by decide) (hts _ a130) (fun _ h9 => h9) rfl (by decide +kernel) rfl rfl dX3_search_26 (fun H locs hP hD hS => ?_)
      obtain ⟨sg30, esg30⟩ : ∃ z : Nat → Nat → Int32, z = gw_u sg0 0 (upd (sg0 0) 0 (nI 1)) := ⟨_, rfl⟩
      rw [← esg30] at hP hD
      have hk : KM sg0 sg30 := by rw [esg30]; exact hk.wf (by decide) (by decide) (by decide) _
      refine lv_aload_n hx hb dX3_search_29 rfl (lv_at hl 0 rfl) ?_
      refine gw_geti (C := RX3) (T := TX3) (N := 27) hx hb hts inwX3 hown hK hP 0 0 rfl rfl rfl (by decide) (hts _ a130) (fun _ h9 => h9) dX3_search_30 ?_
      refine gw_top (y := (nI 1)) (by simp [esg30, gw_u, upd]) ?_
      refine lv_if_le (tgt := 38) hx hb dX3_search_33 (by decide) (fun hc31 => ?_) (fun hc31 => ?_)
      · exact absurd hc31 (by decide)
      · refine lv_iconst (v := (nI 0)) hx hb dX3_search_36 (by decide) ?_
        exact hret _ _ _ _ _ _ hP hS dX3_search_37 (⟨hk, _, rfl⟩)
abbrev rmX3_used : Room := { frames := 1, cells := 0, slots := 0, locals := 21 }
set_option maxRecDepth 100000 in
set_option maxHeartbeats 4000000 in
theorem m_X3_used (l : Launch) (hl9 : l.stackTraces = false) (D : va_G) (cI : ClassId) (cJ : ClassId × ClassId) (ad : Nat → Nat) (sg0 : Nat → Nat → Int32) (sz : Nat) (x1 : Int32) (hI : IvM sg0) : gc_M l yX3_used wsX3_used rmX3_used D vwCl (tyS cI cJ) cI cJ gxT gxN SM [.ref (ad 0), .int x1] ad sg0 sz 0 0 (fun v sg2 => KM sg0 sg2 ∧ ∃ r : Int32, v = some (.int r)) := by
  refine gc_Mi_of (cc := cX3_used) (maxL := 2) (by decide) rfl (Nat.le_of_ble_eq_true rfl) ?_
  intro p e s m below meth c A ls Q hin hE hret
  obtain ⟨⟨hx, hb, hml, hown, hts⟩, -, hlocks, -, hA, hP, hK, hD, hS, hl⟩ := hin
  have hts : ∀ w ∈ wsAll, w.before ([.ref (ad 0), .int x1] : List Value).toArray s = true := fun w h => hts w (List.mem_cons_of_mem _ h)
  have hl : lv_has ls 2 [(0, .ref (ad 0)), (1, .int x1)] := hl
  have hk := KM.refl hI
  refine lv_aload_n hx hb dX3_used_0 rfl (lv_at hl 0 rfl) ?_
  refine lv_aload_n hx hb dX3_used_1 rfl (lv_at hl 0 rfl) ?_
  refine lv_iload_n hx hb dX3_used_2 rfl (lv_at hl 1 rfl) ?_
  refine gc_go0 (va_runV (As := [.int x1]) (rest := [.ref (ad 0)]) ⟨hx, hb, hml, hown, hts⟩ (m_X3_isPattern l hl9 D cI cJ ad sg0 _ x1 hk.1) (cwV 1 hts (gwV a150 a151 a152 a135 a153) rfl rfl rfl (by decide +kernel) ⟨by decide, by decide⟩) (gc_preV0 hK hP hD hS hA hE rfl rfl rfl) rfl rfl hl.1 rfl (lv_room (Nat.le_of_ble_eq_true rfl)) dX3_used_3 ⟨by decide, by decide⟩) hD hS hA (fun v1 sg3 H locs hp4 hP hD hS => ?_)
  obtain ⟨hs9, hp9⟩ := hp4
  rw [hs9] at hP hD
  rcases hp9 with ⟨rfl, hp1⟩ | ⟨rfl, hp1⟩
  · refine W.eq (g2 := F0 m 6 ls [.int (nI 1), .ref (ad 0)]) rfl ?_
    refine lv_if_ne (tgt := 13) hx hb dX3_used_6 (by decide) (fun hc7 => ?_) (fun hc7 => ?_)
    · refine lv_aload_n hx hb dX3_used_13 rfl (lv_at hl 0 rfl) ?_
      refine gw_geti (C := RX3) (T := TX3) (N := 27) hx hb hts inwX3 hown hK hP 0 16 rfl rfl rfl (by decide) (hts _ a132) (fun _ h9 => h9) dX3_used_14 ?_
      refine lv_topi (fun v8 hv8 => ?_)
      refine lv_if_ne (tgt := 24) hx hb dX3_used_17 (by decide) (fun hc9 => ?_) (fun hc9 => ?_)
      · refine lv_iconst (v := (nI 0)) hx hb dX3_used_24 (by decide) ?_
        refine gw_put (C := RX3) (T := TX3) (N := 27) (ty := .int) hx hb hts inwX3 tyX3 tyX3_ok nmX3 hown hK hP hD hS 0 0 rfl rfl rfl (by decide) (hts _ a130) (fun _ h9 => h9) rfl (by decide +kernel) rfl rfl dX3_used_25 (fun H locs hP hD hS => ?_)
        obtain ⟨sg10, esg10⟩ : ∃ z : Nat → Nat → Int32, z = gw_u sg0 0 (upd (sg0 0) 0 (nI 0)) := ⟨_, rfl⟩
        rw [← esg10] at hP hD
        have hk : KM sg0 sg10 := by rw [esg10]; exact hk.wf (by decide) (by decide) (by decide) _
        refine lv_aload_n hx hb dX3_used_28 rfl (lv_at hl 0 rfl) ?_
        refine gw_geti (C := RX3) (T := TX3) (N := 27) hx hb hts inwX3 hown hK hP 0 0 rfl rfl rfl (by decide) (hts _ a130) (fun _ h9 => h9) dX3_used_29 ?_
        refine gw_top (y := (nI 0)) (by simp [esg10, gw_u, upd]) ?_
        refine lv_if_le (tgt := 39) hx hb dX3_used_32 (by decide) (fun hc11 => ?_) (fun hc11 => ?_)
        · obtain ⟨N, hN, eN⟩ := hI.1
          rw [eN] at hp1
          obtain ⟨j1, hj1, rfl⟩ := ixofN hN hp1
          refine lv_aload_n hx hb dX3_used_39 rfl (lv_at hl 0 rfl) ?_
          refine gw_getr (C := RX3) (T := TX3) (N := 27) hx hb hts inwX3 hown hK hP 0 19 10 rfl rfl rfl (by decide) (hts _ a184) (fun _ h9 => h9) dX3_used_40 ?_
          refine lv_iload_n hx hb dX3_used_43 rfl (lv_at hl 1 rfl) ?_
          refine gw_ald hx hb hK hP 10 0 (n := 6) rfl rfl (i := j1) (by omega) (by decide) dX3_used_44 ?_
          refine lv_topi (fun v12 hv12 => ?_)
          exact hret _ _ _ _ _ _ hP hS dX3_used_45 (⟨hk, _, rfl⟩)
        · exact absurd hc11 (by decide)
      · refine lv_iconst (v := (nI 2)) hx hb dX3_used_20 (by decide) ?_
        refine lv_goto (tgt := 25) hx hb dX3_used_21 (by decide) ?_
        refine gw_put (C := RX3) (T := TX3) (N := 27) (ty := .int) hx hb hts inwX3 tyX3 tyX3_ok nmX3 hown hK hP hD hS 0 0 rfl rfl rfl (by decide) (hts _ a130) (fun _ h9 => h9) rfl (by decide +kernel) rfl rfl dX3_used_25 (fun H locs hP hD hS => ?_)
        obtain ⟨sg13, esg13⟩ : ∃ z : Nat → Nat → Int32, z = gw_u sg0 0 (upd (sg0 0) 0 (nI 2)) := ⟨_, rfl⟩
        rw [← esg13] at hP hD
        have hk : KM sg0 sg13 := by rw [esg13]; exact hk.wf (by decide) (by decide) (by decide) _
        refine lv_aload_n hx hb dX3_used_28 rfl (lv_at hl 0 rfl) ?_
        refine gw_geti (C := RX3) (T := TX3) (N := 27) hx hb hts inwX3 hown hK hP 0 0 rfl rfl rfl (by decide) (hts _ a130) (fun _ h9 => h9) dX3_used_29 ?_
        refine gw_top (y := (nI 2)) (by simp [esg13, gw_u, upd]) ?_
        refine lv_if_le (tgt := 39) hx hb dX3_used_32 (by decide) (fun hc14 => ?_) (fun hc14 => ?_)
        · exact absurd hc14 (by decide)
        · refine lv_iconst (v := (nI 0)) hx hb dX3_used_35 (by decide) ?_
          refine lv_goto (tgt := 45) hx hb dX3_used_36 (by decide) ?_
          exact hret _ _ _ _ _ _ hP hS dX3_used_45 (⟨hk, _, rfl⟩)
    · exact absurd hc7 (by decide)
  · refine W.eq (g2 := F0 m 6 ls [.int (nI 0), .ref (ad 0)]) rfl ?_
    refine lv_if_ne (tgt := 13) hx hb dX3_used_6 (by decide) (fun hc15 => ?_) (fun hc15 => ?_)
    · exact absurd hc15 (by decide)
    · refine lv_iconst (v := (nI 1)) hx hb dX3_used_9 (by decide) ?_
      refine lv_goto (tgt := 25) hx hb dX3_used_10 (by decide) ?_
      refine gw_put (C := RX3) (T := TX3) (N := 27) (ty := .int) hx hb hts inwX3 tyX3 tyX3_ok nmX3 hown hK hP hD hS 0 0 rfl rfl rfl (by decide) (hts _ a130) (fun _ h9 => h9) rfl (by decide +kernel) rfl rfl dX3_used_25 (fun H locs hP hD hS => ?_)
      obtain ⟨sg16, esg16⟩ : ∃ z : Nat → Nat → Int32, z = gw_u sg0 0 (upd (sg0 0) 0 (nI 1)) := ⟨_, rfl⟩
      rw [← esg16] at hP hD
      have hk : KM sg0 sg16 := by rw [esg16]; exact hk.wf (by decide) (by decide) (by decide) _
      refine lv_aload_n hx hb dX3_used_28 rfl (lv_at hl 0 rfl) ?_
      refine gw_geti (C := RX3) (T := TX3) (N := 27) hx hb hts inwX3 hown hK hP 0 0 rfl rfl rfl (by decide) (hts _ a130) (fun _ h9 => h9) dX3_used_29 ?_
      refine gw_top (y := (nI 1)) (by simp [esg16, gw_u, upd]) ?_
      refine lv_if_le (tgt := 39) hx hb dX3_used_32 (by decide) (fun hc17 => ?_) (fun hc17 => ?_)
      · exact absurd hc17 (by decide)
      · refine lv_iconst (v := (nI 0)) hx hb dX3_used_35 (by decide) ?_
        refine lv_goto (tgt := 45) hx hb dX3_used_36 (by decide) ?_
        exact hret _ _ _ _ _ _ hP hS dX3_used_45 (⟨hk, _, rfl⟩)
abbrev rmX3_best : Room := { frames := 1, cells := 0, slots := 0, locals := 24 }
set_option maxRecDepth 100000 in
set_option maxHeartbeats 4000000 in
theorem m_X3_best (l : Launch) (hl9 : l.stackTraces = false) (D : va_G) (cI : ClassId) (cJ : ClassId × ClassId) (ad : Nat → Nat) (sg0 : Nat → Nat → Int32) (sz : Nat) (x1 : Int32) (hI : IvM sg0) : gc_M l yX3_best wsX3_best rmX3_best D vwCl (tyS cI cJ) cI cJ gxT gxN SM [.ref (ad 0), .int x1] ad sg0 sz 0 0 (fun v sg2 => KM sg0 sg2 ∧ ∃ r : Int32, v = some (.int r)) := by
  refine gc_Mi_of (cc := cX3_best) (maxL := 4) (by decide) rfl (Nat.le_of_ble_eq_true rfl) ?_
  intro p e s m below meth c A ls Q hin hE hret
  obtain ⟨⟨hx, hb, hml, hown, hts⟩, -, hlocks, -, hA, hP, hK, hD, hS, hl⟩ := hin
  have hts : ∀ w ∈ wsAll, w.before ([.ref (ad 0), .int x1] : List Value).toArray s = true := fun w h => hts w (List.mem_cons_of_mem _ h)
  have hl : lv_has ls 4 [(0, .ref (ad 0)), (1, .int x1)] := hl
  have hk := KM.refl hI
  have c71 : ∀ (n9 : Nat) (i : Nat) (x2 : Int32) (sg : Nat → Nat → Int32) (H : Heap) (locs : List Loc) (ls : Array Slot), 6 - i = n9 → i ≤ 6 → (KM sg0 sg) → va_P D vwCl (gw cI cJ ad sg SM) H → va_D A (gw cI cJ ad sg SM) → va_S A s.heap H locs → lv_has ls 4 [(3, .int (nI i)), (2, .int x2), (0, .ref (ad 0))] → W p l e rmX3_best s m ([.ref (ad 0), .int x1] : List Value).toArray below meth c H locs 0 0 Q (F0 m 71 ls []) := by
    intro n9
    induction n9 using Nat.strongRecOn with
    | ind n9 ih =>
    intro i x2 sg H locs ls hn h1 hk hP hD hS hl
    subst hn
    refine lv_iload_n hx hb dX3_best_71 rfl (lv_at hl 0 rfl) ?_
    refine lv_aload_n hx hb dX3_best_72 rfl (lv_at hl 2 rfl) ?_
    refine gw_geti (C := RX3) (T := TX3) (N := 27) hx hb hts inwX3 hown hK hP 0 3 rfl rfl rfl (by decide) (hts _ a149) (fun _ h9 => h9) dX3_best_73 ?_
    obtain ⟨N1, hN1, eN1⟩ := hk.1.1
    refine gw_top (y := (nI N1)) (eN1) ?_
    refine lv_icmp_ge (tgt := 102) hx hb dX3_best_76 (by decide) (fun hc2 => ?_) (fun hc2 => ?_)
    · have hc2 : N1 ≤ i := (nI_leI (a := N1) (b := i) (by omega) (by omega)).mp hc2
      refine lv_iload_n hx hb dX3_best_102 rfl (lv_at hl 1 rfl) ?_
      exact hret _ _ _ _ _ _ hP hS dX3_best_103 (⟨hk, _, rfl⟩)
    · have hc2 : ¬ (N1 ≤ i) := fun q => hc2 ((nI_leI (a := N1) (b := i) (by omega) (by omega)).mpr q)
      refine lv_iload_n hx hb dX3_best_79 rfl (lv_at hl 1 rfl) ?_
      refine lv_aload_n hx hb dX3_best_80 rfl (lv_at hl 2 rfl) ?_
      refine gw_getr (C := RX3) (T := TX3) (N := 27) hx hb hts inwX3 hown hK hP 0 19 10 rfl rfl rfl (by decide) (hts _ a184) (fun _ h9 => h9) dX3_best_81 ?_
      refine lv_iload_n hx hb dX3_best_84 rfl (lv_at hl 0 rfl) ?_
      refine gw_ald hx hb hK hP 10 0 (n := 6) rfl rfl (i := i) (by omega) (by decide) dX3_best_85 ?_
      refine lv_topi (fun v3 hv3 => ?_)
      refine lv_if_le (tgt := 93) hx hb dX3_best_86 (by decide) (fun hc4 => ?_) (fun hc4 => ?_)
      · refine lv_iconst (v := (nI 0)) hx hb dX3_best_93 (by decide) ?_
        refine lv_iadd hx hb dX3_best_94 ?_
        refine lv_topi (fun v5 hv5 => ?_)
        refine lv_istore_n (lv' := [(2, .int v5), (3, .int (nI i)), (0, .ref (ad 0))]) hx hb dX3_best_95 rfl hl (by decide) rfl (fun ls hl => ?_)
        refine lv_iinc (k := 1) (v := (nI (i + 1))) (lv' := [(3, .int (nI (i + 1))), (2, .int v5), (0, .ref (ad 0))]) hx hb dX3_best_96 hl rfl (nI_1 _) (by decide) rfl (fun ls hl => ?_)
        refine lv_goto (tgt := 71) hx hb dX3_best_99 (by decide) ?_
        exact ih _ (by omega) (i + 1) v5 _ _ _ _ rfl (by omega) hk hP hD hS (lv_sub hl [0, 1, 2] rfl)
      · refine lv_iconst (v := (nI 1)) hx hb dX3_best_89 (by decide) ?_
        refine lv_goto (tgt := 94) hx hb dX3_best_90 (by decide) ?_
        refine lv_iadd hx hb dX3_best_94 ?_
        refine lv_topi (fun v6 hv6 => ?_)
        refine lv_istore_n (lv' := [(2, .int v6), (3, .int (nI i)), (0, .ref (ad 0))]) hx hb dX3_best_95 rfl hl (by decide) rfl (fun ls hl => ?_)
        refine lv_iinc (k := 1) (v := (nI (i + 1))) (lv' := [(3, .int (nI (i + 1))), (2, .int v6), (0, .ref (ad 0))]) hx hb dX3_best_96 hl rfl (nI_1 _) (by decide) rfl (fun ls hl => ?_)
        refine lv_goto (tgt := 71) hx hb dX3_best_99 (by decide) ?_
        exact ih _ (by omega) (i + 1) v6 _ _ _ _ rfl (by omega) hk hP hD hS (lv_sub hl [0, 1, 2] rfl)
  refine lv_aload_n hx hb dX3_best_0 rfl (lv_at hl 0 rfl) ?_
  refine lv_iload_n hx hb dX3_best_1 rfl (lv_at hl 1 rfl) ?_
  refine lv_iconst (v := (nI 0)) hx hb dX3_best_2 (by decide) ?_
  refine lv_iconst (v := (nI 2)) hx hb dX3_best_3 (by decide) ?_
  refine gc_go (pl := []) (S2 := SE) (ad := ad) (sg := sg0) (va_runS (As := [.int x1, .int (nI 0), .int (nI 2)]) (rest := [.ref (ad 0)]) ⟨hx, hb, hml, hown, hts⟩ (m_X3_isIn l hl9 D cI cJ (fun j => ad (gw_p [] j)) (fun j => sg0 (gw_p [] j)) _ x1 (nI 0) (nI 2) ) (cwS 3 hts (gwS a133 a134 a135 a136) rfl rfl rfl (by decide +kernel) ⟨by decide, by decide⟩) (gc_preS hK hP hD hS hA hE rfl) rfl rfl hl.1 rfl (lv_room (Nat.le_of_ble_eq_true rfl)) dX3_best_4 ⟨by decide, by decide⟩) hP hD hS hA rfl (fun v7 sp8 sg9 H locs hp10 ha11 hb12 hP hD hS => ?_)
  rw [show sg9 = sg0 from funext (fun k => hb12 k (by simp))] at hP hD
  rcases hp10 with ⟨rfl, hi1⟩ | ⟨rfl, hi1⟩
  · refine W.eq (g2 := F0 m 7 ls [.int (nI 1), .ref (ad 0)]) rfl ?_
    refine lv_if_ne (tgt := 14) hx hb dX3_best_7 (by decide) (fun hc13 => ?_) (fun hc13 => ?_)
    · refine lv_aload_n hx hb dX3_best_14 rfl (lv_at hl 0 rfl) ?_
      refine gw_geti (C := RX3) (T := TX3) (N := 27) hx hb hts inwX3 hown hK hP 0 16 rfl rfl rfl (by decide) (hts _ a132) (fun _ h9 => h9) dX3_best_15 ?_
      refine lv_topi (fun v14 hv14 => ?_)
      refine lv_if_ne (tgt := 25) hx hb dX3_best_18 (by decide) (fun hc15 => ?_) (fun hc15 => ?_)
      · refine lv_iconst (v := (nI 0)) hx hb dX3_best_25 (by decide) ?_
        refine gw_put (C := RX3) (T := TX3) (N := 27) (ty := .int) hx hb hts inwX3 tyX3 tyX3_ok nmX3 hown hK hP hD hS 0 0 rfl rfl rfl (by decide) (hts _ a130) (fun _ h9 => h9) rfl (by decide +kernel) rfl rfl dX3_best_26 (fun H locs hP hD hS => ?_)
        obtain ⟨sg16, esg16⟩ : ∃ z : Nat → Nat → Int32, z = gw_u sg0 0 (upd (sg0 0) 0 (nI 0)) := ⟨_, rfl⟩
        rw [← esg16] at hP hD
        have hk : KM sg0 sg16 := by rw [esg16]; exact hk.wf (by decide) (by decide) (by decide) _
        refine lv_aload_n hx hb dX3_best_29 rfl (lv_at hl 0 rfl) ?_
        refine gw_geti (C := RX3) (T := TX3) (N := 27) hx hb hts inwX3 hown hK hP 0 0 rfl rfl rfl (by decide) (hts _ a130) (fun _ h9 => h9) dX3_best_30 ?_
        refine gw_top (y := (nI 0)) (by simp [esg16, gw_u, upd]) ?_
        refine lv_if_le (tgt := 38) hx hb dX3_best_33 (by decide) (fun hc17 => ?_) (fun hc17 => ?_)
        · refine lv_iload_n hx hb dX3_best_38 rfl (lv_at hl 1 rfl) ?_
          refine lv_iconst (v := (nI 2)) hx hb dX3_best_39 (by decide) ?_
          refine lv_icmp_ge (tgt := 67) hx hb dX3_best_40 (by decide) (fun hc18 => ?_) (fun hc18 => ?_)
          · refine lv_iconst (v := (nI 0)) hx hb dX3_best_67 (by decide) ?_
            refine lv_istore_n (lv' := [(2, .int (nI 0)), (0, .ref (ad 0)), (1, .int x1)]) hx hb dX3_best_68 rfl hl (by decide) rfl (fun ls hl => ?_)
            refine lv_iconst (v := (nI 0)) hx hb dX3_best_69 (by decide) ?_
            refine lv_istore_n (lv' := [(3, .int (nI 0)), (2, .int (nI 0)), (0, .ref (ad 0)), (1, .int x1)]) hx hb dX3_best_70 rfl hl (by decide) rfl (fun ls hl => ?_)
            exact c71 _ 0 (nI 0) _ _ _ _ rfl (by omega) hk hP hD hS (lv_sub hl [0, 1, 2] rfl)
          · refine lv_iload_n hx hb dX3_best_43 rfl (lv_at hl 1 rfl) ?_
            refine lv_if_ne (tgt := 54) hx hb dX3_best_44 (by decide) (fun hc19 => ?_) (fun hc19 => ?_)
            · refine lv_aload_n hx hb dX3_best_54 rfl (lv_at hl 0 rfl) ?_
              refine lv_aload_n hx hb dX3_best_55 rfl (lv_at hl 0 rfl) ?_
              refine gw_getr (C := RX3) (T := TX3) (N := 27) hx hb hts inwX3 hown hK hP 0 19 10 rfl rfl rfl (by decide) (hts _ a184) (fun _ h9 => h9) dX3_best_56 ?_
              refine lv_aload_n hx hb dX3_best_59 rfl (lv_at hl 0 rfl) ?_
              refine gw_geti (C := RX3) (T := TX3) (N := 27) hx hb hts inwX3 hown hK hP 0 3 rfl rfl rfl (by decide) (hts _ a149) (fun _ h9 => h9) dX3_best_60 ?_
              obtain ⟨N20, hN20, eN20⟩ := hk.1.1
              refine gw_top (y := (nI N20)) (eN20) ?_
              refine gc_go0 (va_runV (As := [.ref (ad 10), .int (nI N20)]) (rest := []) ⟨hx, hb, hml, hown, hts⟩ (m_X3_minutesOf_plan l hl9 D cI cJ ad sg16 _ N20 (by omega) hk.1) (cwV 2 hts (gwV a159 a160 a161 a135 a162) rfl rfl rfl (by decide +kernel) ⟨by decide, by decide⟩) (gc_preV0 hK hP hD hS hA hE rfl rfl rfl) rfl rfl hl.1 rfl (lv_room (Nat.le_of_ble_eq_true rfl)) dX3_best_63 ⟨by decide, by decide⟩) hD hS hA (fun v21 sg23 H locs hp24 hP hD hS => ?_)
              obtain ⟨hs9, r27, rfl⟩ := hp24
              rw [hs9] at hP hD
              refine W.eq (g2 := F0 m 66 ls [.int r27]) rfl ?_
              exact hret _ _ _ _ _ _ hP hS dX3_best_66 (⟨hk, _, rfl⟩)
            · refine lv_aload_n hx hb dX3_best_47 rfl (lv_at hl 0 rfl) ?_
              refine gw_geti (C := RX3) (T := TX3) (N := 27) hx hb hts inwX3 hown hK hP 0 20 rfl rfl rfl (by decide) (hts _ a190) (fun _ h9 => h9) dX3_best_48 ?_
              refine lv_topi (fun v28 hv28 => ?_)
              refine lv_goto (tgt := 66) hx hb dX3_best_51 (by decide) ?_
              exact hret _ _ _ _ _ _ hP hS dX3_best_66 (⟨hk, _, rfl⟩)
        · exact absurd hc17 (by decide)
      · refine lv_iconst (v := (nI 2)) hx hb dX3_best_21 (by decide) ?_
        refine lv_goto (tgt := 26) hx hb dX3_best_22 (by decide) ?_
        refine gw_put (C := RX3) (T := TX3) (N := 27) (ty := .int) hx hb hts inwX3 tyX3 tyX3_ok nmX3 hown hK hP hD hS 0 0 rfl rfl rfl (by decide) (hts _ a130) (fun _ h9 => h9) rfl (by decide +kernel) rfl rfl dX3_best_26 (fun H locs hP hD hS => ?_)
        obtain ⟨sg29, esg29⟩ : ∃ z : Nat → Nat → Int32, z = gw_u sg0 0 (upd (sg0 0) 0 (nI 2)) := ⟨_, rfl⟩
        rw [← esg29] at hP hD
        have hk : KM sg0 sg29 := by rw [esg29]; exact hk.wf (by decide) (by decide) (by decide) _
        refine lv_aload_n hx hb dX3_best_29 rfl (lv_at hl 0 rfl) ?_
        refine gw_geti (C := RX3) (T := TX3) (N := 27) hx hb hts inwX3 hown hK hP 0 0 rfl rfl rfl (by decide) (hts _ a130) (fun _ h9 => h9) dX3_best_30 ?_
        refine gw_top (y := (nI 2)) (by simp [esg29, gw_u, upd]) ?_
        refine lv_if_le (tgt := 38) hx hb dX3_best_33 (by decide) (fun hc30 => ?_) (fun hc30 => ?_)
        · exact absurd hc30 (by decide)
        · refine lv_iconst (v := (nI 0)) hx hb dX3_best_36 (by decide) ?_
          exact hret _ _ _ _ _ _ hP hS dX3_best_37 (⟨hk, _, rfl⟩)
    · exact absurd hc13 (by decide)
  · refine W.eq (g2 := F0 m 7 ls [.int (nI 0), .ref (ad 0)]) rfl ?_
    refine lv_if_ne (tgt := 14) hx hb dX3_best_7 (by decide) (fun hc31 => ?_) (fun hc31 => ?_)
    · exact absurd hc31 (by decide)
    · refine lv_iconst (v := (nI 1)) hx hb dX3_best_10 (by decide) ?_
      refine lv_goto (tgt := 26) hx hb dX3_best_11 (by decide) ?_
      refine gw_put (C := RX3) (T := TX3) (N := 27) (ty := .int) hx hb hts inwX3 tyX3 tyX3_ok nmX3 hown hK hP hD hS 0 0 rfl rfl rfl (by decide) (hts _ a130) (fun _ h9 => h9) rfl (by decide +kernel) rfl rfl dX3_best_26 (fun H locs hP hD hS => ?_)
      obtain ⟨sg32, esg32⟩ : ∃ z : Nat → Nat → Int32, z = gw_u sg0 0 (upd (sg0 0) 0 (nI 1)) := ⟨_, rfl⟩
      rw [← esg32] at hP hD
      have hk : KM sg0 sg32 := by rw [esg32]; exact hk.wf (by decide) (by decide) (by decide) _
      refine lv_aload_n hx hb dX3_best_29 rfl (lv_at hl 0 rfl) ?_
      refine gw_geti (C := RX3) (T := TX3) (N := 27) hx hb hts inwX3 hown hK hP 0 0 rfl rfl rfl (by decide) (hts _ a130) (fun _ h9 => h9) dX3_best_30 ?_
      refine gw_top (y := (nI 1)) (by simp [esg32, gw_u, upd]) ?_
      refine lv_if_le (tgt := 38) hx hb dX3_best_33 (by decide) (fun hc33 => ?_) (fun hc33 => ?_)
      · exact absurd hc33 (by decide)
      · refine lv_iconst (v := (nI 0)) hx hb dX3_best_36 (by decide) ?_
        exact hret _ _ _ _ _ _ hP hS dX3_best_37 (⟨hk, _, rfl⟩)
abbrev rmX3_made : Room := { frames := 1, cells := 0, slots := 0, locals := 24 }
set_option maxRecDepth 100000 in
set_option maxHeartbeats 4000000 in
theorem m_X3_made (l : Launch) (hl9 : l.stackTraces = false) (D : va_G) (cI : ClassId) (cJ : ClassId × ClassId) (ad : Nat → Nat) (sg0 : Nat → Nat → Int32) (sz : Nat) (x1 : Int32) (hI : IvM sg0) : gc_M l yX3_made wsX3_made rmX3_made D vwCl (tyS cI cJ) cI cJ gxT gxN SM [.ref (ad 0), .int x1] ad sg0 sz 0 0 (fun v sg2 => KM sg0 sg2 ∧ ∃ r : Int32, v = some (.int r)) := by
  refine gc_Mi_of (cc := cX3_made) (maxL := 2) (by decide) rfl (Nat.le_of_ble_eq_true rfl) ?_
  intro p e s m below meth c A ls Q hin hE hret
  obtain ⟨⟨hx, hb, hml, hown, hts⟩, -, hlocks, -, hA, hP, hK, hD, hS, hl⟩ := hin
  have hts : ∀ w ∈ wsAll, w.before ([.ref (ad 0), .int x1] : List Value).toArray s = true := fun w h => hts w (List.mem_cons_of_mem _ h)
  have hl : lv_has ls 2 [(0, .ref (ad 0)), (1, .int x1)] := hl
  have hk := KM.refl hI
  refine lv_aload_n hx hb dX3_made_0 rfl (lv_at hl 0 rfl) ?_
  refine lv_iload_n hx hb dX3_made_1 rfl (lv_at hl 1 rfl) ?_
  refine lv_iconst (v := (nI 0)) hx hb dX3_made_2 (by decide) ?_
  refine lv_iconst (v := (nI 3)) hx hb dX3_made_3 (by decide) ?_
  refine gc_go (pl := []) (S2 := SE) (ad := ad) (sg := sg0) (va_runS (As := [.int x1, .int (nI 0), .int (nI 3)]) (rest := [.ref (ad 0)]) ⟨hx, hb, hml, hown, hts⟩ (m_X3_isIn l hl9 D cI cJ (fun j => ad (gw_p [] j)) (fun j => sg0 (gw_p [] j)) _ x1 (nI 0) (nI 3) ) (cwS 3 hts (gwS a133 a134 a135 a136) rfl rfl rfl (by decide +kernel) ⟨by decide, by decide⟩) (gc_preS hK hP hD hS hA hE rfl) rfl rfl hl.1 rfl (lv_room (Nat.le_of_ble_eq_true rfl)) dX3_made_4 ⟨by decide, by decide⟩) hP hD hS hA rfl (fun v1 sp2 sg3 H locs hp4 ha5 hb6 hP hD hS => ?_)
  rw [show sg3 = sg0 from funext (fun k => hb6 k (by simp))] at hP hD
  rcases hp4 with ⟨rfl, hi1⟩ | ⟨rfl, hi1⟩
  · refine W.eq (g2 := F0 m 7 ls [.int (nI 1), .ref (ad 0)]) rfl ?_
    refine lv_if_ne (tgt := 14) hx hb dX3_made_7 (by decide) (fun hc7 => ?_) (fun hc7 => ?_)
    · refine lv_aload_n hx hb dX3_made_14 rfl (lv_at hl 0 rfl) ?_
      refine gw_geti (C := RX3) (T := TX3) (N := 27) hx hb hts inwX3 hown hK hP 0 16 rfl rfl rfl (by decide) (hts _ a132) (fun _ h9 => h9) dX3_made_15 ?_
      refine lv_topi (fun v8 hv8 => ?_)
      refine lv_if_ne (tgt := 25) hx hb dX3_made_18 (by decide) (fun hc9 => ?_) (fun hc9 => ?_)
      · refine lv_iconst (v := (nI 0)) hx hb dX3_made_25 (by decide) ?_
        refine gw_put (C := RX3) (T := TX3) (N := 27) (ty := .int) hx hb hts inwX3 tyX3 tyX3_ok nmX3 hown hK hP hD hS 0 0 rfl rfl rfl (by decide) (hts _ a130) (fun _ h9 => h9) rfl (by decide +kernel) rfl rfl dX3_made_26 (fun H locs hP hD hS => ?_)
        obtain ⟨sg10, esg10⟩ : ∃ z : Nat → Nat → Int32, z = gw_u sg0 0 (upd (sg0 0) 0 (nI 0)) := ⟨_, rfl⟩
        rw [← esg10] at hP hD
        have hk : KM sg0 sg10 := by rw [esg10]; exact hk.wf (by decide) (by decide) (by decide) _
        refine lv_aload_n hx hb dX3_made_29 rfl (lv_at hl 0 rfl) ?_
        refine gw_geti (C := RX3) (T := TX3) (N := 27) hx hb hts inwX3 hown hK hP 0 0 rfl rfl rfl (by decide) (hts _ a130) (fun _ h9 => h9) dX3_made_30 ?_
        refine gw_top (y := (nI 0)) (by simp [esg10, gw_u, upd]) ?_
        refine lv_if_le (tgt := 40) hx hb dX3_made_33 (by decide) (fun hc11 => ?_) (fun hc11 => ?_)
        · obtain ⟨j1, hj1, rfl⟩ := inof3 hi1
          refine lv_aload_n hx hb dX3_made_40 rfl (lv_at hl 0 rfl) ?_
          refine lv_aload_n hx hb dX3_made_41 rfl (lv_at hl 0 rfl) ?_
          refine gw_getr (C := RX3) (T := TX3) (N := 27) hx hb hts inwX3 hown hK hP 0 19 10 rfl rfl rfl (by decide) (hts _ a184) (fun _ h9 => h9) dX3_made_42 ?_
          refine lv_iload_n hx hb dX3_made_45 rfl (lv_at hl 1 rfl) ?_
          refine gc_go0 (va_runV (As := [.ref (ad 10), .int (nI j1)]) (rest := []) ⟨hx, hb, hml, hown, hts⟩ (m_X3_madeOf_plan l hl9 D cI cJ ad sg10 _ j1 (by omega) hk.1) (cwV 2 hts (gwV a166 a167 a168 a135 a169) rfl rfl rfl (by decide +kernel) ⟨by decide, by decide⟩) (gc_preV0 hK hP hD hS hA hE rfl rfl rfl) rfl rfl hl.1 rfl (lv_room (Nat.le_of_ble_eq_true rfl)) dX3_made_46 ⟨by decide, by decide⟩) hD hS hA (fun v12 sg14 H locs hp15 hP hD hS => ?_)
          obtain ⟨hs9, r18, rfl⟩ := hp15
          rw [hs9] at hP hD
          refine W.eq (g2 := F0 m 49 ls [.int r18]) rfl ?_
          exact hret _ _ _ _ _ _ hP hS dX3_made_49 (⟨hk, _, rfl⟩)
        · exact absurd hc11 (by decide)
      · refine lv_iconst (v := (nI 2)) hx hb dX3_made_21 (by decide) ?_
        refine lv_goto (tgt := 26) hx hb dX3_made_22 (by decide) ?_
        refine gw_put (C := RX3) (T := TX3) (N := 27) (ty := .int) hx hb hts inwX3 tyX3 tyX3_ok nmX3 hown hK hP hD hS 0 0 rfl rfl rfl (by decide) (hts _ a130) (fun _ h9 => h9) rfl (by decide +kernel) rfl rfl dX3_made_26 (fun H locs hP hD hS => ?_)
        obtain ⟨sg19, esg19⟩ : ∃ z : Nat → Nat → Int32, z = gw_u sg0 0 (upd (sg0 0) 0 (nI 2)) := ⟨_, rfl⟩
        rw [← esg19] at hP hD
        have hk : KM sg0 sg19 := by rw [esg19]; exact hk.wf (by decide) (by decide) (by decide) _
        refine lv_aload_n hx hb dX3_made_29 rfl (lv_at hl 0 rfl) ?_
        refine gw_geti (C := RX3) (T := TX3) (N := 27) hx hb hts inwX3 hown hK hP 0 0 rfl rfl rfl (by decide) (hts _ a130) (fun _ h9 => h9) dX3_made_30 ?_
        refine gw_top (y := (nI 2)) (by simp [esg19, gw_u, upd]) ?_
        refine lv_if_le (tgt := 40) hx hb dX3_made_33 (by decide) (fun hc20 => ?_) (fun hc20 => ?_)
        · exact absurd hc20 (by decide)
        · refine lv_iconst (v := (nI 0)) hx hb dX3_made_36 (by decide) ?_
          refine lv_goto (tgt := 49) hx hb dX3_made_37 (by decide) ?_
          exact hret _ _ _ _ _ _ hP hS dX3_made_49 (⟨hk, _, rfl⟩)
    · exact absurd hc7 (by decide)
  · refine W.eq (g2 := F0 m 7 ls [.int (nI 0), .ref (ad 0)]) rfl ?_
    refine lv_if_ne (tgt := 14) hx hb dX3_made_7 (by decide) (fun hc21 => ?_) (fun hc21 => ?_)
    · exact absurd hc21 (by decide)
    · refine lv_iconst (v := (nI 1)) hx hb dX3_made_10 (by decide) ?_
      refine lv_goto (tgt := 26) hx hb dX3_made_11 (by decide) ?_
      refine gw_put (C := RX3) (T := TX3) (N := 27) (ty := .int) hx hb hts inwX3 tyX3 tyX3_ok nmX3 hown hK hP hD hS 0 0 rfl rfl rfl (by decide) (hts _ a130) (fun _ h9 => h9) rfl (by decide +kernel) rfl rfl dX3_made_26 (fun H locs hP hD hS => ?_)
      obtain ⟨sg22, esg22⟩ : ∃ z : Nat → Nat → Int32, z = gw_u sg0 0 (upd (sg0 0) 0 (nI 1)) := ⟨_, rfl⟩
      rw [← esg22] at hP hD
      have hk : KM sg0 sg22 := by rw [esg22]; exact hk.wf (by decide) (by decide) (by decide) _
      refine lv_aload_n hx hb dX3_made_29 rfl (lv_at hl 0 rfl) ?_
      refine gw_geti (C := RX3) (T := TX3) (N := 27) hx hb hts inwX3 hown hK hP 0 0 rfl rfl rfl (by decide) (hts _ a130) (fun _ h9 => h9) dX3_made_30 ?_
      refine gw_top (y := (nI 1)) (by simp [esg22, gw_u, upd]) ?_
      refine lv_if_le (tgt := 40) hx hb dX3_made_33 (by decide) (fun hc23 => ?_) (fun hc23 => ?_)
      · exact absurd hc23 (by decide)
      · refine lv_iconst (v := (nI 0)) hx hb dX3_made_36 (by decide) ?_
        refine lv_goto (tgt := 49) hx hb dX3_made_37 (by decide) ?_
        exact hret _ _ _ _ _ _ hP hS dX3_made_49 (⟨hk, _, rfl⟩)
abbrev rmX3_saw : Room := { frames := 1, cells := 0, slots := 0, locals := 24 }
set_option maxRecDepth 100000 in
set_option maxHeartbeats 4000000 in
theorem m_X3_saw (l : Launch) (hl9 : l.stackTraces = false) (D : va_G) (cI : ClassId) (cJ : ClassId × ClassId) (ad : Nat → Nat) (sg0 : Nat → Nat → Int32) (sz : Nat) (hI : IvM sg0) : gc_M l yX3_saw wsX3_saw rmX3_saw D vwCl (tyS cI cJ) cI cJ gxT gxN SM [.ref (ad 0)] ad sg0 sz 0 0 (fun v sg2 => KM sg0 sg2 ∧ ∃ r : Int32, v = some (.int r)) := by
  refine gc_Mi_of (cc := cX3_saw) (maxL := 3) (by decide) rfl (Nat.le_of_ble_eq_true rfl) ?_
  intro p e s m below meth c A ls Q hin hE hret
  obtain ⟨⟨hx, hb, hml, hown, hts⟩, -, hlocks, -, hA, hP, hK, hD, hS, hl⟩ := hin
  have hts : ∀ w ∈ wsAll, w.before ([.ref (ad 0)] : List Value).toArray s = true := fun w h => hts w (List.mem_cons_of_mem _ h)
  have hl : lv_has ls 3 [(0, .ref (ad 0))] := hl
  have hk := KM.refl hI
  have c68 : ∀ (n9 : Nat) (i : Nat) (sg : Nat → Nat → Int32) (H : Heap) (locs : List Loc) (ls : Array Slot), 6 - i = n9 → i ≤ 6 → (KM sg0 sg) → va_P D vwCl (gw cI cJ ad sg SM) H → va_D A (gw cI cJ ad sg SM) → va_S A s.heap H locs → lv_has ls 3 [(1, .int (nI i)), (0, .ref (ad 0))] → W p l e rmX3_saw s m ([.ref (ad 0)] : List Value).toArray below meth c H locs 0 0 Q (F0 m 68 ls []) := by
    intro n9
    induction n9 using Nat.strongRecOn with
    | ind n9 ih =>
    intro i sg H locs ls hn h1 hk hP hD hS hl
    subst hn
    refine lv_iload_n hx hb dX3_saw_68 rfl (lv_at hl 0 rfl) ?_
    refine lv_aload_n hx hb dX3_saw_69 rfl (lv_at hl 1 rfl) ?_
    refine gw_geti (C := RX3) (T := TX3) (N := 27) hx hb hts inwX3 hown hK hP 0 3 rfl rfl rfl (by decide) (hts _ a149) (fun _ h9 => h9) dX3_saw_70 ?_
    obtain ⟨N1, hN1, eN1⟩ := hk.1.1
    refine gw_top (y := (nI N1)) (eN1) ?_
    refine lv_icmp_ge (tgt := 102) hx hb dX3_saw_73 (by decide) (fun hc2 => ?_) (fun hc2 => ?_)
    · have hc2 : N1 ≤ i := (nI_leI (a := N1) (b := i) (by omega) (by omega)).mp hc2
      refine lv_aload_n hx hb dX3_saw_102 rfl (lv_at hl 1 rfl) ?_
      refine lv_dup hx hb dX3_saw_103 rfl ?_
      refine gw_geti (C := RX3) (T := TX3) (N := 27) hx hb hts inwX3 hown hK hP 0 14 rfl rfl rfl (by decide) (hts _ a195) (fun _ h9 => h9) dX3_saw_104 ?_
      refine lv_topi (fun v3 hv3 => ?_)
      refine lv_aload_n hx hb dX3_saw_107 rfl (lv_at hl 1 rfl) ?_
      refine gw_geti (C := RX3) (T := TX3) (N := 27) hx hb hts inwX3 hown hK hP 0 20 rfl rfl rfl (by decide) (hts _ a190) (fun _ h9 => h9) dX3_saw_108 ?_
      refine lv_topi (fun v4 hv4 => ?_)
      refine lv_iadd hx hb dX3_saw_111 ?_
      refine lv_topi (fun v5 hv5 => ?_)
      refine gw_put (C := RX3) (T := TX3) (N := 27) (ty := .int) hx hb hts inwX3 tyX3 tyX3_ok nmX3 hown hK hP hD hS 0 14 rfl rfl rfl (by decide) (hts _ a195) (fun _ h9 => h9) rfl (by decide +kernel) rfl rfl dX3_saw_112 (fun H locs hP hD hS => ?_)
      obtain ⟨sg6, esg6⟩ : ∃ z : Nat → Nat → Int32, z = gw_u sg 0 (upd (sg 0) 14 v5) := ⟨_, rfl⟩
      rw [← esg6] at hP hD
      have hk : KM sg0 sg6 := by rw [esg6]; exact hk.wf (by decide) (by decide) (by decide) _
      refine lv_aload_n hx hb dX3_saw_115 rfl (lv_at hl 1 rfl) ?_
      refine lv_dup hx hb dX3_saw_116 rfl ?_
      refine gw_geti (C := RX3) (T := TX3) (N := 27) hx hb hts inwX3 hown hK hP 0 13 rfl rfl rfl (by decide) (hts _ a196) (fun _ h9 => h9) dX3_saw_117 ?_
      refine lv_topi (fun v7 hv7 => ?_)
      refine lv_iconst (v := (nI 1)) hx hb dX3_saw_120 (by decide) ?_
      refine lv_iadd hx hb dX3_saw_121 ?_
      refine lv_topi (fun v8 hv8 => ?_)
      refine gw_put (C := RX3) (T := TX3) (N := 27) (ty := .int) hx hb hts inwX3 tyX3 tyX3_ok nmX3 hown hK hP hD hS 0 13 rfl rfl rfl (by decide) (hts _ a196) (fun _ h9 => h9) rfl (by decide +kernel) rfl rfl dX3_saw_122 (fun H locs hP hD hS => ?_)
      obtain ⟨sg9, esg9⟩ : ∃ z : Nat → Nat → Int32, z = gw_u sg6 0 (upd (sg6 0) 13 v8) := ⟨_, rfl⟩
      rw [← esg9] at hP hD
      have hk : KM sg0 sg9 := by rw [esg9]; exact hk.wf (by decide) (by decide) (by decide) _
      refine lv_aload_n hx hb dX3_saw_125 rfl (lv_at hl 1 rfl) ?_
      refine gc_go0 (va_runV (As := []) (rest := []) ⟨hx, hb, hml, hown, hts⟩ (m_X3_forget l hl9 D cI cJ ad sg9 _  hk.1) (cwV 0 hts (gwV a140 a141 a142 a135 a143) rfl rfl rfl (by decide +kernel) ⟨by decide, by decide⟩) (gc_preV0 hK hP hD hS hA hE rfl rfl rfl) rfl rfl hl.1 rfl (lv_room (Nat.le_of_ble_eq_true rfl)) dX3_saw_126 ⟨by decide, by decide⟩) hD hS hA (fun v10 sg12 H locs hp13 hP hD hS => ?_)
      obtain ⟨hk1, rfl, hq7⟩ := hp13
      have hk := hk.trans hk1
      refine W.eq (g2 := F0 m 129 ls []) rfl ?_
      refine lv_aload_n hx hb dX3_saw_129 rfl (lv_at hl 1 rfl) ?_
      refine gw_geti (C := RX3) (T := TX3) (N := 27) hx hb hts inwX3 hown hK hP 0 20 rfl rfl rfl (by decide) (hts _ a190) (fun _ h9 => h9) dX3_saw_130 ?_
      refine lv_topi (fun v16 hv16 => ?_)
      exact hret _ _ _ _ _ _ hP hS dX3_saw_133 (⟨hk, _, rfl⟩)
    · have hc2 : ¬ (N1 ≤ i) := fun q => hc2 ((nI_leI (a := N1) (b := i) (by omega) (by omega)).mpr q)
      refine lv_aload_n hx hb dX3_saw_76 rfl (lv_at hl 1 rfl) ?_
      refine gw_getr (C := RX3) (T := TX3) (N := 27) hx hb hts inwX3 hown hK hP 0 1 1 rfl rfl rfl (by decide) (hts _ a138) (fun _ h9 => h9) dX3_saw_77 ?_
      refine lv_aload_n hx hb dX3_saw_80 rfl (lv_at hl 1 rfl) ?_
      refine gw_getr (C := RX3) (T := TX3) (N := 27) hx hb hts inwX3 hown hK hP 0 4 3 rfl rfl rfl (by decide) (hts _ a155) (fun _ h9 => h9) dX3_saw_81 ?_
      refine lv_iload_n hx hb dX3_saw_84 rfl (lv_at hl 0 rfl) ?_
      refine gw_ald hx hb hK hP 3 0 (n := 6) rfl rfl (i := i) (by omega) (by decide) dX3_saw_85 ?_
      obtain ⟨cf17, hcf17, ecf17⟩ := hk.1.2.1 i (by omega)
      refine gw_top (y := (nI cf17)) (ecf17) ?_
      refine lv_dup2_11 hx hb dX3_saw_86 rfl rfl ?_
      refine gw_ald hx hb hK hP 1 0 (n := 4) rfl rfl (i := cf17) (by omega) (by decide) dX3_saw_87 ?_
      refine lv_topi (fun v18 hv18 => ?_)
      refine lv_aload_n hx hb dX3_saw_88 rfl (lv_at hl 1 rfl) ?_
      refine gw_getr (C := RX3) (T := TX3) (N := 27) hx hb hts inwX3 hown hK hP 0 19 10 rfl rfl rfl (by decide) (hts _ a184) (fun _ h9 => h9) dX3_saw_89 ?_
      refine lv_iload_n hx hb dX3_saw_92 rfl (lv_at hl 0 rfl) ?_
      refine gw_ald hx hb hK hP 10 0 (n := 6) rfl rfl (i := i) (by omega) (by decide) dX3_saw_93 ?_
      refine lv_topi (fun v19 hv19 => ?_)
      refine lv_isub hx hb dX3_saw_94 ?_
      refine lv_topi (fun v20 hv20 => ?_)
      refine gw_ast hx hb hK hP hD hS 1 0 (n := 4) rfl rfl (i := cf17) (by omega) (by decide) dX3_saw_95 (fun H locs hP hD hS => ?_)
      obtain ⟨sg21, esg21⟩ : ∃ z : Nat → Nat → Int32, z = gw_u sg 1 (upd (sg 1) cf17 v20) := ⟨_, rfl⟩
      rw [← esg21] at hP hD
      have hk : KM sg0 sg21 := by rw [esg21]; exact hk.wa 1 (by decide) (by decide) _
      refine lv_iinc (k := 0) (v := (nI (i + 1))) (lv' := [(1, .int (nI (i + 1))), (0, .ref (ad 0))]) hx hb dX3_saw_96 hl rfl (nI_1 _) (by decide) rfl (fun ls hl => ?_)
      refine lv_goto (tgt := 68) hx hb dX3_saw_99 (by decide) ?_
      exact ih _ (by omega) (i + 1) _ _ _ _ rfl (by omega) hk hP hD hS (lv_sub hl [0, 1] rfl)
  have c27 : ∀ (n9 : Nat) (i : Nat) (sg : Nat → Nat → Int32) (H : Heap) (locs : List Loc) (ls : Array Slot), 4 - i = n9 → i ≤ 4 → (KM sg0 sg) → va_P D vwCl (gw cI cJ ad sg SM) H → va_D A (gw cI cJ ad sg SM) → va_S A s.heap H locs → lv_has ls 3 [(1, .int (nI i)), (0, .ref (ad 0))] → W p l e rmX3_saw s m ([.ref (ad 0)] : List Value).toArray below meth c H locs 0 0 Q (F0 m 27 ls []) := by
    intro n9
    induction n9 using Nat.strongRecOn with
    | ind n9 ih =>
    intro i sg H locs ls hn h1 hk hP hD hS hl
    subst hn
    refine lv_iload_n hx hb dX3_saw_27 rfl (lv_at hl 0 rfl) ?_
    refine lv_iconst (v := (nI 4)) hx hb dX3_saw_28 (by decide) ?_
    refine lv_icmp_ge (tgt := 66) hx hb dX3_saw_29 (by decide) (fun hc22 => ?_) (fun hc22 => ?_)
    · have hc22 : 4 ≤ i := (nI_leI (a := 4) (b := i) (by omega) (by omega)).mp hc22
      refine lv_iconst (v := (nI 0)) hx hb dX3_saw_66 (by decide) ?_
      refine lv_istore_n (lv' := [(1, .int (nI 0)), (0, .ref (ad 0))]) hx hb dX3_saw_67 rfl hl (by decide) rfl (fun ls hl => ?_)
      exact c68 _ 0 _ _ _ _ rfl (by omega) hk hP hD hS (lv_sub hl [0, 1] rfl)
    · have hc22 : ¬ (4 ≤ i) := fun q => hc22 ((nI_leI (a := 4) (b := i) (by omega) (by omega)).mpr q)
      refine lv_aload_n hx hb dX3_saw_32 rfl (lv_at hl 1 rfl) ?_
      refine lv_aload_n hx hb dX3_saw_33 rfl (lv_at hl 1 rfl) ?_
      refine gw_getr (C := RX3) (T := TX3) (N := 27) hx hb hts inwX3 hown hK hP 0 19 10 rfl rfl rfl (by decide) (hts _ a184) (fun _ h9 => h9) dX3_saw_34 ?_
      refine lv_iload_n hx hb dX3_saw_37 rfl (lv_at hl 0 rfl) ?_
      refine gc_go0 (va_runV (As := [.ref (ad 10), .int (nI i)]) (rest := []) ⟨hx, hb, hml, hown, hts⟩ (m_X3_madeOf_plan l hl9 D cI cJ ad sg _ i (by omega) hk.1) (cwV 2 hts (gwV a166 a167 a168 a135 a169) rfl rfl rfl (by decide +kernel) ⟨by decide, by decide⟩) (gc_preV0 hK hP hD hS hA hE rfl rfl rfl) rfl rfl hl.1 rfl (lv_room (Nat.le_of_ble_eq_true rfl)) dX3_saw_38 ⟨by decide, by decide⟩) hD hS hA (fun v23 sg25 H locs hp26 hP hD hS => ?_)
      obtain ⟨hs9, r29, rfl⟩ := hp26
      rw [hs9] at hP hD
      refine W.eq (g2 := F0 m 41 ls [.int r29]) rfl ?_
      refine lv_istore_n (lv' := [(2, .int r29), (1, .int (nI i)), (0, .ref (ad 0))]) hx hb dX3_saw_41 rfl hl (by decide) rfl (fun ls hl => ?_)
      refine lv_aload_n hx hb dX3_saw_42 rfl (lv_at hl 2 rfl) ?_
      refine gw_getr (C := RX3) (T := TX3) (N := 27) hx hb hts inwX3 hown hK hP 0 10 9 rfl rfl rfl (by decide) (hts _ a157) (fun _ h9 => h9) dX3_saw_43 ?_
      refine lv_iload_n hx hb dX3_saw_46 rfl (lv_at hl 1 rfl) ?_
      refine lv_iload_n hx hb dX3_saw_47 rfl (lv_at hl 0 rfl) ?_
      refine lv_iload_n hx hb dX3_saw_48 rfl (lv_at hl 0 rfl) ?_
      refine lv_aload_n hx hb dX3_saw_49 rfl (lv_at hl 2 rfl) ?_
      refine gw_getr (C := RX3) (T := TX3) (N := 27) hx hb hts inwX3 hown hK hP 0 8 7 rfl rfl rfl (by decide) (hts _ a145) (fun _ h9 => h9) dX3_saw_50 ?_
      refine lv_iload_n hx hb dX3_saw_53 rfl (lv_at hl 1 rfl) ?_
      refine gw_ald hx hb hK hP 7 0 (n := 4) rfl rfl (i := i) (by omega) (by decide) dX3_saw_54 ?_
      refine lv_topi (fun v30 hv30 => ?_)
      refine gc_go (pl := []) (S2 := SE) (ad := ad) (sg := sg) (va_runS (As := [.int r29, .int v30]) (rest := [.int r29, .int (nI i), .ref (ad 9)]) ⟨hx, hb, hml, hown, hts⟩ (m_X3_lesser l hl9 D cI cJ (fun j => ad (gw_p [] j)) (fun j => sg (gw_p [] j)) _ r29 v30 ) (cwS 2 hts (gwS a170 a171 a135 a172) rfl rfl rfl (by decide +kernel) ⟨by decide, by decide⟩) (gc_preS hK hP hD hS hA hE rfl) rfl rfl hl.1 rfl (lv_room (Nat.le_of_ble_eq_true rfl)) dX3_saw_55 ⟨by decide, by decide⟩) hP hD hS hA rfl (fun v31 sp32 sg33 H locs hp34 ha35 hb36 hP hD hS => ?_)
      obtain ⟨r37, rfl⟩ := hp34
      rw [show sg33 = sg from funext (fun k => hb36 k (by simp))] at hP hD
      refine W.eq (g2 := F0 m 58 ls [.int r37, .int r29, .int (nI i), .ref (ad 9)]) rfl ?_
      refine lv_isub hx hb dX3_saw_58 ?_
      refine lv_topi (fun v38 hv38 => ?_)
      refine gw_ast hx hb hK hP hD hS 9 0 (n := 4) rfl rfl (i := i) (by omega) (by decide) dX3_saw_59 (fun H locs hP hD hS => ?_)
      obtain ⟨sg39, esg39⟩ : ∃ z : Nat → Nat → Int32, z = gw_u sg 9 (upd (sg 9) i v38) := ⟨_, rfl⟩
      rw [← esg39] at hP hD
      have hk : KM sg0 sg39 := by rw [esg39]; exact hk.wa 9 (by decide) (by decide) _
      refine lv_iinc (k := 1) (v := (nI (i + 1))) (lv' := [(1, .int (nI (i + 1))), (2, .int r29), (0, .ref (ad 0))]) hx hb dX3_saw_60 hl rfl (nI_1 _) (by decide) rfl (fun ls hl => ?_)
      refine lv_goto (tgt := 27) hx hb dX3_saw_63 (by decide) ?_
      exact ih _ (by omega) (i + 1) _ _ _ _ rfl (by omega) hk hP hD hS (lv_sub hl [0, 2] rfl)
  refine lv_aload_n hx hb dX3_saw_0 rfl (lv_at hl 0 rfl) ?_
  refine lv_aload_n hx hb dX3_saw_1 rfl (lv_at hl 0 rfl) ?_
  refine gw_geti (C := RX3) (T := TX3) (N := 27) hx hb hts inwX3 hown hK hP 0 16 rfl rfl rfl (by decide) (hts _ a132) (fun _ h9 => h9) dX3_saw_2 ?_
  refine lv_topi (fun v40 hv40 => ?_)
  refine lv_if_eq (tgt := 12) hx hb dX3_saw_5 (by decide) (fun hc41 => ?_) (fun hc41 => ?_)
  · refine lv_iconst (v := (nI 1)) hx hb dX3_saw_12 (by decide) ?_
    refine gw_put (C := RX3) (T := TX3) (N := 27) (ty := .int) hx hb hts inwX3 tyX3 tyX3_ok nmX3 hown hK hP hD hS 0 0 rfl rfl rfl (by decide) (hts _ a130) (fun _ h9 => h9) rfl (by decide +kernel) rfl rfl dX3_saw_13 (fun H locs hP hD hS => ?_)
    obtain ⟨sg42, esg42⟩ : ∃ z : Nat → Nat → Int32, z = gw_u sg0 0 (upd (sg0 0) 0 (nI 1)) := ⟨_, rfl⟩
    rw [← esg42] at hP hD
    have hk : KM sg0 sg42 := by rw [esg42]; exact hk.wf (by decide) (by decide) (by decide) _
    refine lv_aload_n hx hb dX3_saw_16 rfl (lv_at hl 0 rfl) ?_
    refine gw_geti (C := RX3) (T := TX3) (N := 27) hx hb hts inwX3 hown hK hP 0 0 rfl rfl rfl (by decide) (hts _ a130) (fun _ h9 => h9) dX3_saw_17 ?_
    refine gw_top (y := (nI 1)) (by simp [esg42, gw_u, upd]) ?_
    refine lv_if_le (tgt := 25) hx hb dX3_saw_20 (by decide) (fun hc43 => ?_) (fun hc43 => ?_)
    · exact absurd hc43 (by decide)
    · refine lv_iconst (v := (nI 0)) hx hb dX3_saw_23 (by decide) ?_
      exact hret _ _ _ _ _ _ hP hS dX3_saw_24 (⟨hk, _, rfl⟩)
  · refine lv_iconst (v := (nI 0)) hx hb dX3_saw_8 (by decide) ?_
    refine lv_goto (tgt := 13) hx hb dX3_saw_9 (by decide) ?_
    refine gw_put (C := RX3) (T := TX3) (N := 27) (ty := .int) hx hb hts inwX3 tyX3 tyX3_ok nmX3 hown hK hP hD hS 0 0 rfl rfl rfl (by decide) (hts _ a130) (fun _ h9 => h9) rfl (by decide +kernel) rfl rfl dX3_saw_13 (fun H locs hP hD hS => ?_)
    obtain ⟨sg44, esg44⟩ : ∃ z : Nat → Nat → Int32, z = gw_u sg0 0 (upd (sg0 0) 0 (nI 0)) := ⟨_, rfl⟩
    rw [← esg44] at hP hD
    have hk : KM sg0 sg44 := by rw [esg44]; exact hk.wf (by decide) (by decide) (by decide) _
    refine lv_aload_n hx hb dX3_saw_16 rfl (lv_at hl 0 rfl) ?_
    refine gw_geti (C := RX3) (T := TX3) (N := 27) hx hb hts inwX3 hown hK hP 0 0 rfl rfl rfl (by decide) (hts _ a130) (fun _ h9 => h9) dX3_saw_17 ?_
    refine gw_top (y := (nI 0)) (by simp [esg44, gw_u, upd]) ?_
    refine lv_if_le (tgt := 25) hx hb dX3_saw_20 (by decide) (fun hc45 => ?_) (fun hc45 => ?_)
    · refine lv_iconst (v := (nI 0)) hx hb dX3_saw_25 (by decide) ?_
      refine lv_istore_n (lv' := [(1, .int (nI 0)), (0, .ref (ad 0))]) hx hb dX3_saw_26 rfl hl (by decide) rfl (fun ls hl => ?_)
      exact c27 _ 0 _ _ _ _ rfl (by omega) hk hP hD hS (lv_sub hl [0, 1] rfl)
    · exact absurd hc45 (by decide)
abbrev rmX3_mill : Room := { frames := 1, cells := 0, slots := 0, locals := 22 }
set_option maxRecDepth 100000 in
set_option maxHeartbeats 4000000 in
theorem m_X3_mill (l : Launch) (hl9 : l.stackTraces = false) (D : va_G) (cI : ClassId) (cJ : ClassId × ClassId) (ad : Nat → Nat) (sg0 : Nat → Nat → Int32) (sz : Nat) (x1 : Int32) (hI : IvM sg0) : gc_M l yX3_mill wsX3_mill rmX3_mill D vwCl (tyS cI cJ) cI cJ gxT gxN SM [.ref (ad 0), .int x1] ad sg0 sz 0 0 (fun v sg2 => KM sg0 sg2 ∧ ∃ r : Int32, v = some (.int r)) := by
  refine gc_Mi_of (cc := cX3_mill) (maxL := 2) (by decide) rfl (Nat.le_of_ble_eq_true rfl) ?_
  intro p e s m below meth c A ls Q hin hE hret
  obtain ⟨⟨hx, hb, hml, hown, hts⟩, -, hlocks, -, hA, hP, hK, hD, hS, hl⟩ := hin
  have hts : ∀ w ∈ wsAll, w.before ([.ref (ad 0), .int x1] : List Value).toArray s = true := fun w h => hts w (List.mem_cons_of_mem _ h)
  have hl : lv_has ls 2 [(0, .ref (ad 0)), (1, .int x1)] := hl
  have hk := KM.refl hI
  refine lv_aload_n hx hb dX3_mill_0 rfl (lv_at hl 0 rfl) ?_
  refine lv_iload_n hx hb dX3_mill_1 rfl (lv_at hl 1 rfl) ?_
  refine lv_iconst (v := (nI 0)) hx hb dX3_mill_2 (by decide) ?_
  refine lv_iconst (v := (nI 5)) hx hb dX3_mill_3 (by decide) ?_
  refine gc_go (pl := []) (S2 := SE) (ad := ad) (sg := sg0) (va_runS (As := [.int x1, .int (nI 0), .int (nI 5)]) (rest := [.ref (ad 0)]) ⟨hx, hb, hml, hown, hts⟩ (m_X3_isIn l hl9 D cI cJ (fun j => ad (gw_p [] j)) (fun j => sg0 (gw_p [] j)) _ x1 (nI 0) (nI 5) ) (cwS 3 hts (gwS a133 a134 a135 a136) rfl rfl rfl (by decide +kernel) ⟨by decide, by decide⟩) (gc_preS hK hP hD hS hA hE rfl) rfl rfl hl.1 rfl (lv_room (Nat.le_of_ble_eq_true rfl)) dX3_mill_4 ⟨by decide, by decide⟩) hP hD hS hA rfl (fun v1 sp2 sg3 H locs hp4 ha5 hb6 hP hD hS => ?_)
  rw [show sg3 = sg0 from funext (fun k => hb6 k (by simp))] at hP hD
  rcases hp4 with ⟨rfl, hi1⟩ | ⟨rfl, hi1⟩
  · refine W.eq (g2 := F0 m 7 ls [.int (nI 1), .ref (ad 0)]) rfl ?_
    refine lv_if_eq (tgt := 14) hx hb dX3_mill_7 (by decide) (fun hc7 => ?_) (fun hc7 => ?_)
    · exact absurd hc7 (by decide)
    · refine lv_iconst (v := (nI 0)) hx hb dX3_mill_10 (by decide) ?_
      refine lv_goto (tgt := 15) hx hb dX3_mill_11 (by decide) ?_
      refine gw_put (C := RX3) (T := TX3) (N := 27) (ty := .int) hx hb hts inwX3 tyX3 tyX3_ok nmX3 hown hK hP hD hS 0 0 rfl rfl rfl (by decide) (hts _ a130) (fun _ h9 => h9) rfl (by decide +kernel) rfl rfl dX3_mill_15 (fun H locs hP hD hS => ?_)
      obtain ⟨sg8, esg8⟩ : ∃ z : Nat → Nat → Int32, z = gw_u sg0 0 (upd (sg0 0) 0 (nI 0)) := ⟨_, rfl⟩
      rw [← esg8] at hP hD
      have hk : KM sg0 sg8 := by rw [esg8]; exact hk.wf (by decide) (by decide) (by decide) _
      refine lv_aload_n hx hb dX3_mill_18 rfl (lv_at hl 0 rfl) ?_
      refine gw_geti (C := RX3) (T := TX3) (N := 27) hx hb hts inwX3 hown hK hP 0 0 rfl rfl rfl (by decide) (hts _ a130) (fun _ h9 => h9) dX3_mill_19 ?_
      refine gw_top (y := (nI 0)) (by simp [esg8, gw_u, upd]) ?_
      refine lv_if_le (tgt := 27) hx hb dX3_mill_22 (by decide) (fun hc9 => ?_) (fun hc9 => ?_)
      · obtain ⟨j1, hj1, rfl⟩ := inof5 hi1
        refine lv_iload_n hx hb dX3_mill_27 rfl (lv_at hl 1 rfl) ?_
        refine lv_if_ne (tgt := 38) hx hb dX3_mill_28 (by decide) (fun hz1 => ?_) (fun hz1 => ?_)
        · rw [← nI_0] at hz1
          have hz1 : ¬ (j1 = 0) := fun q => hz1 ((nI_eq (a := j1) (b := 0) (by omega) (by omega)).mpr q)
          refine lv_iload_n hx hb dX3_mill_38 rfl (lv_at hl 1 rfl) ?_
          refine lv_iconst (v := (nI 1)) hx hb dX3_mill_39 (by decide) ?_
          refine lv_icmp_ne (tgt := 50) hx hb dX3_mill_40 (by decide) (fun hz2 => ?_) (fun hz2 => ?_)
          · have hz2 : ¬ (j1 = 1) := fun q => hz2 ((nI_eq (a := j1) (b := 1) (by omega) (by omega)).mpr q)
            have hj2 : 2 ≤ j1 := by omega
            refine lv_aload_n hx hb dX3_mill_50 rfl (lv_at hl 0 rfl) ?_
            refine gw_getr (C := RX3) (T := TX3) (N := 27) hx hb hts inwX3 hown hK hP 0 10 9 rfl rfl rfl (by decide) (hts _ a157) (fun _ h9 => h9) dX3_mill_51 ?_
            refine lv_iload_n hx hb dX3_mill_54 rfl (lv_at hl 1 rfl) ?_
            refine lv_iconst (v := (nI 2)) hx hb dX3_mill_55 (by decide) ?_
            refine lv_isub hx hb dX3_mill_56 ?_
            refine gw_top (y := (nI (j1 - 2))) (nI_sub hj2) ?_
            refine gw_ald hx hb hK hP 9 0 (n := 4) rfl rfl (i := j1 - 2) (by omega) (by decide) dX3_mill_57 ?_
            refine lv_topi (fun v10 hv10 => ?_)
            exact hret _ _ _ _ _ _ hP hS dX3_mill_58 (⟨hk, _, rfl⟩)
          · have hz2 : j1 = 1 := (nI_eq (a := j1) (b := 1) (by omega) (by omega)).mp hz2
            refine lv_aload_n hx hb dX3_mill_43 rfl (lv_at hl 0 rfl) ?_
            refine gw_geti (C := RX3) (T := TX3) (N := 27) hx hb hts inwX3 hown hK hP 0 14 rfl rfl rfl (by decide) (hts _ a195) (fun _ h9 => h9) dX3_mill_44 ?_
            refine lv_topi (fun v11 hv11 => ?_)
            refine lv_goto (tgt := 58) hx hb dX3_mill_47 (by decide) ?_
            exact hret _ _ _ _ _ _ hP hS dX3_mill_58 (⟨hk, _, rfl⟩)
        · rw [← nI_0] at hz1
          have hz1 : j1 = 0 := (nI_eq (a := j1) (b := 0) (by omega) (by omega)).mp hz1
          refine lv_aload_n hx hb dX3_mill_31 rfl (lv_at hl 0 rfl) ?_
          refine gw_geti (C := RX3) (T := TX3) (N := 27) hx hb hts inwX3 hown hK hP 0 13 rfl rfl rfl (by decide) (hts _ a196) (fun _ h9 => h9) dX3_mill_32 ?_
          refine lv_topi (fun v12 hv12 => ?_)
          refine lv_goto (tgt := 58) hx hb dX3_mill_35 (by decide) ?_
          exact hret _ _ _ _ _ _ hP hS dX3_mill_58 (⟨hk, _, rfl⟩)
      · exact absurd hc9 (by decide)
  · refine W.eq (g2 := F0 m 7 ls [.int (nI 0), .ref (ad 0)]) rfl ?_
    refine lv_if_eq (tgt := 14) hx hb dX3_mill_7 (by decide) (fun hc13 => ?_) (fun hc13 => ?_)
    · refine lv_iconst (v := (nI 1)) hx hb dX3_mill_14 (by decide) ?_
      refine gw_put (C := RX3) (T := TX3) (N := 27) (ty := .int) hx hb hts inwX3 tyX3 tyX3_ok nmX3 hown hK hP hD hS 0 0 rfl rfl rfl (by decide) (hts _ a130) (fun _ h9 => h9) rfl (by decide +kernel) rfl rfl dX3_mill_15 (fun H locs hP hD hS => ?_)
      obtain ⟨sg14, esg14⟩ : ∃ z : Nat → Nat → Int32, z = gw_u sg0 0 (upd (sg0 0) 0 (nI 1)) := ⟨_, rfl⟩
      rw [← esg14] at hP hD
      have hk : KM sg0 sg14 := by rw [esg14]; exact hk.wf (by decide) (by decide) (by decide) _
      refine lv_aload_n hx hb dX3_mill_18 rfl (lv_at hl 0 rfl) ?_
      refine gw_geti (C := RX3) (T := TX3) (N := 27) hx hb hts inwX3 hown hK hP 0 0 rfl rfl rfl (by decide) (hts _ a130) (fun _ h9 => h9) dX3_mill_19 ?_
      refine gw_top (y := (nI 1)) (by simp [esg14, gw_u, upd]) ?_
      refine lv_if_le (tgt := 27) hx hb dX3_mill_22 (by decide) (fun hc15 => ?_) (fun hc15 => ?_)
      · exact absurd hc15 (by decide)
      · refine lv_iconst (v := (nI 0)) hx hb dX3_mill_25 (by decide) ?_
        exact hret _ _ _ _ _ _ hP hS dX3_mill_26 (⟨hk, _, rfl⟩)
    · exact absurd hc13 (by decide)
abbrev rmX3_cost : Room := { frames := 3, cells := 0, slots := 0, locals := 70 }
set_option maxRecDepth 100000 in
set_option maxHeartbeats 4000000 in
theorem m_X3_cost (l : Launch) (hl9 : l.stackTraces = false) (D : va_G) (cI : ClassId) (cJ : ClassId × ClassId) (ad : Nat → Nat) (sg0 : Nat → Nat → Int32) (sz : Nat) (x1 : Int32) (x2 : Int32) (hI : IvM sg0) : gc_M l yX3_cost wsX3_cost rmX3_cost D vwCl (tyS cI cJ) cI cJ gxT gxN SM [.ref (ad 0), .int x1, .int x2] ad sg0 sz 0 0 (fun v sg2 => KM sg0 sg2 ∧ ∃ r : Int32, v = some (.int r)) := by
  refine gc_Mi_of (cc := cX3_cost) (maxL := 8) (by decide) rfl (Nat.le_of_ble_eq_true rfl) ?_
  intro p e s m below meth c A ls Q hin hE hret
  obtain ⟨⟨hx, hb, hml, hown, hts⟩, -, hlocks, -, hA, hP, hK, hD, hS, hl⟩ := hin
  have hts : ∀ w ∈ wsAll, w.before ([.ref (ad 0), .int x1, .int x2] : List Value).toArray s = true := fun w h => hts w (List.mem_cons_of_mem _ h)
  have hl : lv_has ls 8 [(0, .ref (ad 0)), (1, .int x1), (2, .int x2)] := hl
  have hk := KM.refl hI
  refine lv_aload_n hx hb dX3_cost_0 rfl (lv_at hl 0 rfl) ?_
  refine lv_iload_n hx hb dX3_cost_1 rfl (lv_at hl 1 rfl) ?_
  refine lv_iconst (v := (nI 0)) hx hb dX3_cost_2 (by decide) ?_
  refine lv_iconst (v := (nI 3)) hx hb dX3_cost_3 (by decide) ?_
  refine gc_go (pl := []) (S2 := SE) (ad := ad) (sg := sg0) (va_runS (As := [.int x1, .int (nI 0), .int (nI 3)]) (rest := [.ref (ad 0)]) ⟨hx, hb, hml, hown, hts⟩ (m_X3_isIn l hl9 D cI cJ (fun j => ad (gw_p [] j)) (fun j => sg0 (gw_p [] j)) _ x1 (nI 0) (nI 3) ) (cwS 3 hts (gwS a133 a134 a135 a136) rfl rfl rfl (by decide +kernel) ⟨by decide, by decide⟩) (gc_preS hK hP hD hS hA hE rfl) rfl rfl hl.1 rfl (lv_room (Nat.le_of_ble_eq_true rfl)) dX3_cost_4 ⟨by decide, by decide⟩) hP hD hS hA rfl (fun v1 sp2 sg3 H locs hp4 ha5 hb6 hP hD hS => ?_)
  rw [show sg3 = sg0 from funext (fun k => hb6 k (by simp))] at hP hD
  rcases hp4 with ⟨rfl, hi1⟩ | ⟨rfl, hi1⟩
  · refine W.eq (g2 := F0 m 7 ls [.int (nI 1), .ref (ad 0)]) rfl ?_
    refine lv_if_ne (tgt := 14) hx hb dX3_cost_7 (by decide) (fun hc7 => ?_) (fun hc7 => ?_)
    · refine lv_iload_n hx hb dX3_cost_14 rfl (lv_at hl 2 rfl) ?_
      refine lv_iconst (v := (nI 0)) hx hb dX3_cost_15 (by decide) ?_
      refine lv_sipush (v := (nI 20000)) hx hb dX3_cost_16 (by decide) ?_
      refine gc_go (pl := []) (S2 := SE) (ad := ad) (sg := sg0) (va_runS (As := [.int x2, .int (nI 0), .int (nI 20000)]) (rest := [.ref (ad 0)]) ⟨hx, hb, hml, hown, hts⟩ (m_X3_isIn l hl9 D cI cJ (fun j => ad (gw_p [] j)) (fun j => sg0 (gw_p [] j)) _ x2 (nI 0) (nI 20000) ) (cwS 3 hts (gwS a133 a134 a135 a136) rfl rfl rfl (by decide +kernel) ⟨by decide, by decide⟩) (gc_preS hK hP hD hS hA hE rfl) rfl rfl hl.1 rfl (lv_room (Nat.le_of_ble_eq_true rfl)) dX3_cost_19 ⟨by decide, by decide⟩) hP hD hS hA rfl (fun v8 sp9 sg10 H locs hp11 ha12 hb13 hP hD hS => ?_)
      rw [show sg10 = sg0 from funext (fun k => hb13 k (by simp))] at hP hD
      rcases hp11 with ⟨rfl, hi2⟩ | ⟨rfl, hi2⟩
      · refine W.eq (g2 := F0 m 22 ls [.int (nI 1), .ref (ad 0)]) rfl ?_
        refine lv_if_ne (tgt := 29) hx hb dX3_cost_22 (by decide) (fun hc14 => ?_) (fun hc14 => ?_)
        · refine lv_iconst (v := (nI 0)) hx hb dX3_cost_29 (by decide) ?_
          refine gw_put (C := RX3) (T := TX3) (N := 27) (ty := .int) hx hb hts inwX3 tyX3 tyX3_ok nmX3 hown hK hP hD hS 0 0 rfl rfl rfl (by decide) (hts _ a130) (fun _ h9 => h9) rfl (by decide +kernel) rfl rfl dX3_cost_30 (fun H locs hP hD hS => ?_)
          obtain ⟨sg15, esg15⟩ : ∃ z : Nat → Nat → Int32, z = gw_u sg0 0 (upd (sg0 0) 0 (nI 0)) := ⟨_, rfl⟩
          rw [← esg15] at hP hD
          have hk : KM sg0 sg15 := by rw [esg15]; exact hk.wf (by decide) (by decide) (by decide) _
          refine lv_aload_n hx hb dX3_cost_33 rfl (lv_at hl 0 rfl) ?_
          refine gw_geti (C := RX3) (T := TX3) (N := 27) hx hb hts inwX3 hown hK hP 0 0 rfl rfl rfl (by decide) (hts _ a130) (fun _ h9 => h9) dX3_cost_34 ?_
          refine gw_top (y := (nI 0)) (by simp [esg15, gw_u, upd]) ?_
          refine lv_if_le (tgt := 42) hx hb dX3_cost_37 (by decide) (fun hc16 => ?_) (fun hc16 => ?_)
          · obtain ⟨j1, hj1, rfl⟩ := inof3 hi1
            obtain ⟨j2, hj2, rfl⟩ := inof20000 hi2
            refine lv_aload_n hx hb dX3_cost_42 rfl (lv_at hl 0 rfl) ?_
            refine lv_iload_n hx hb dX3_cost_43 rfl (lv_at hl 2 rfl) ?_
            obtain ⟨N17, hN17, eN17⟩ := hk.1.1
            refine gc_go0 (va_runV (As := [.int (nI j2)]) (rest := []) ⟨hx, hb, hml, hown, hts⟩ (m_X3_seek l hl9 D cI cJ ad sg15 _ j2 (by omega) hk.1 N17 hN17 eN17) (cwV 1 hts (gwV a185 a186 a187 a135 a188) rfl rfl rfl (by decide +kernel) ⟨by decide, by decide⟩) (gc_preV0 hK hP hD hS hA hE rfl rfl rfl) rfl rfl hl.1 rfl (lv_room (Nat.le_of_ble_eq_true rfl)) dX3_cost_44 ⟨by decide, by decide⟩) hD hS hA (fun v18 sg20 H locs hp21 hP hD hS => ?_)
            obtain ⟨hk1, rfl⟩ := hp21
            have hk := hk.trans hk1
            refine W.eq (g2 := F0 m 47 ls []) rfl ?_
            refine lv_aload_n hx hb dX3_cost_47 rfl (lv_at hl 0 rfl) ?_
            refine gw_geti (C := RX3) (T := TX3) (N := 27) hx hb hts inwX3 hown hK hP 0 23 rfl rfl rfl (by decide) (hts _ a164) (fun _ h9 => h9) dX3_cost_48 ?_
            refine lv_topi (fun v24 hv24 => ?_)
            refine lv_istore_n (lv' := [(3, .int v24), (0, .ref (ad 0)), (1, .int (nI j1)), (2, .int (nI j2))]) hx hb dX3_cost_51 rfl hl (by decide) rfl (fun ls hl => ?_)
            refine lv_aload_n hx hb dX3_cost_52 rfl (lv_at hl 1 rfl) ?_
            refine gw_geti (C := RX3) (T := TX3) (N := 27) hx hb hts inwX3 hown hK hP 0 26 rfl rfl rfl (by decide) (hts _ a165) (fun _ h9 => h9) dX3_cost_53 ?_
            refine lv_topi (fun v25 hv25 => ?_)
            refine lv_istore (lv' := [(4, .int v25), (3, .int v24), (0, .ref (ad 0)), (1, .int (nI j1)), (2, .int (nI j2))]) hx hb dX3_cost_56 hl (by decide) rfl (fun ls hl => ?_)
            refine lv_aload_n hx hb dX3_cost_58 rfl (lv_at hl 2 rfl) ?_
            refine gw_getr (C := RX3) (T := TX3) (N := 27) hx hb hts inwX3 hown hK hP 0 9 8 rfl rfl rfl (by decide) (hts _ a146) (fun _ h9 => h9) dX3_cost_59 ?_
            refine lv_iload_n hx hb dX3_cost_62 rfl (lv_at hl 3 rfl) ?_
            refine gw_ald hx hb hK hP 8 0 (n := 4) rfl rfl (i := j1) (by omega) (by decide) dX3_cost_63 ?_
            refine lv_topi (fun v26 hv26 => ?_)
            refine lv_istore (lv' := [(5, .int v26), (4, .int v25), (3, .int v24), (0, .ref (ad 0)), (1, .int (nI j1)), (2, .int (nI j2))]) hx hb dX3_cost_64 hl (by decide) rfl (fun ls hl => ?_)
            refine lv_aload_n hx hb dX3_cost_66 rfl (lv_at hl 3 rfl) ?_
            refine gw_getr (C := RX3) (T := TX3) (N := 27) hx hb hts inwX3 hown hK hP 0 7 6 rfl rfl rfl (by decide) (hts _ a144) (fun _ h9 => h9) dX3_cost_67 ?_
            refine lv_iload_n hx hb dX3_cost_70 rfl (lv_at hl 4 rfl) ?_
            refine gw_ald hx hb hK hP 6 0 (n := 4) rfl rfl (i := j1) (by omega) (by decide) dX3_cost_71 ?_
            refine lv_topi (fun v27 hv27 => ?_)
            refine lv_istore (lv' := [(6, .int v27), (5, .int v26), (4, .int v25), (3, .int v24), (0, .ref (ad 0)), (1, .int (nI j1)), (2, .int (nI j2))]) hx hb dX3_cost_72 hl (by decide) rfl (fun ls hl => ?_)
            refine lv_aload_n hx hb dX3_cost_74 rfl (lv_at hl 4 rfl) ?_
            refine gw_getr (C := RX3) (T := TX3) (N := 27) hx hb hts inwX3 hown hK hP 0 8 7 rfl rfl rfl (by decide) (hts _ a145) (fun _ h9 => h9) dX3_cost_75 ?_
            refine lv_iload_n hx hb dX3_cost_78 rfl (lv_at hl 5 rfl) ?_
            refine gw_ald hx hb hK hP 7 0 (n := 4) rfl rfl (i := j1) (by omega) (by decide) dX3_cost_79 ?_
            refine lv_topi (fun v28 hv28 => ?_)
            refine lv_istore (lv' := [(7, .int v28), (6, .int v27), (5, .int v26), (4, .int v25), (3, .int v24), (0, .ref (ad 0)), (1, .int (nI j1)), (2, .int (nI j2))]) hx hb dX3_cost_80 hl (by decide) rfl (fun ls hl => ?_)
            refine lv_aload_n hx hb dX3_cost_82 rfl (lv_at hl 5 rfl) ?_
            refine gw_getr (C := RX3) (T := TX3) (N := 27) hx hb hts inwX3 hown hK hP 0 9 8 rfl rfl rfl (by decide) (hts _ a146) (fun _ h9 => h9) dX3_cost_83 ?_
            refine lv_iload_n hx hb dX3_cost_86 rfl (lv_at hl 6 rfl) ?_
            refine lv_iconst (v := (nI 0)) hx hb dX3_cost_87 (by decide) ?_
            refine gw_ast hx hb hK hP hD hS 8 0 (n := 4) rfl rfl (i := j1) (by omega) (by decide) dX3_cost_88 (fun H locs hP hD hS => ?_)
            obtain ⟨sg29, esg29⟩ : ∃ z : Nat → Nat → Int32, z = gw_u sg20 8 (upd (sg20 8) j1 (nI 0)) := ⟨_, rfl⟩
            rw [← esg29] at hP hD
            have hk : KM sg0 sg29 := by rw [esg29]; exact hk.wa 8 (by decide) (by decide) _
            refine lv_aload_n hx hb dX3_cost_89 rfl (lv_at hl 5 rfl) ?_
            refine gw_getr (C := RX3) (T := TX3) (N := 27) hx hb hts inwX3 hown hK hP 0 7 6 rfl rfl rfl (by decide) (hts _ a144) (fun _ h9 => h9) dX3_cost_90 ?_
            refine lv_iload_n hx hb dX3_cost_93 rfl (lv_at hl 6 rfl) ?_
            refine lv_iconst (v := (nI 0)) hx hb dX3_cost_94 (by decide) ?_
            refine gw_ast hx hb hK hP hD hS 6 0 (n := 4) rfl rfl (i := j1) (by omega) (by decide) dX3_cost_95 (fun H locs hP hD hS => ?_)
            obtain ⟨sg30, esg30⟩ : ∃ z : Nat → Nat → Int32, z = gw_u sg29 6 (upd (sg29 6) j1 (nI 0)) := ⟨_, rfl⟩
            rw [← esg30] at hP hD
            have hk : KM sg0 sg30 := by rw [esg30]; exact hk.wa 6 (by decide) (by decide) _
            refine lv_aload_n hx hb dX3_cost_96 rfl (lv_at hl 5 rfl) ?_
            refine gw_getr (C := RX3) (T := TX3) (N := 27) hx hb hts inwX3 hown hK hP 0 8 7 rfl rfl rfl (by decide) (hts _ a145) (fun _ h9 => h9) dX3_cost_97 ?_
            refine lv_iload_n hx hb dX3_cost_100 rfl (lv_at hl 6 rfl) ?_
            refine lv_iconst (v := (nI 0)) hx hb dX3_cost_101 (by decide) ?_
            refine gw_ast hx hb hK hP hD hS 7 0 (n := 4) rfl rfl (i := j1) (by omega) (by decide) dX3_cost_102 (fun H locs hP hD hS => ?_)
            obtain ⟨sg31, esg31⟩ : ∃ z : Nat → Nat → Int32, z = gw_u sg30 7 (upd (sg30 7) j1 (nI 0)) := ⟨_, rfl⟩
            rw [← esg31] at hP hD
            have hk : KM sg0 sg31 := by rw [esg31]; exact hk.wa 7 (by decide) (by decide) _
            refine lv_aload_n hx hb dX3_cost_103 rfl (lv_at hl 5 rfl) ?_
            refine lv_iload_n hx hb dX3_cost_104 rfl (lv_at hl 7 rfl) ?_
            obtain ⟨N32, hN32, eN32⟩ := hk.1.1
            refine gc_go0 (va_runV (As := [.int (nI j2)]) (rest := []) ⟨hx, hb, hml, hown, hts⟩ (m_X3_seek l hl9 D cI cJ ad sg31 _ j2 (by omega) hk.1 N32 hN32 eN32) (cwV 1 hts (gwV a185 a186 a187 a135 a188) rfl rfl rfl (by decide +kernel) ⟨by decide, by decide⟩) (gc_preV0 hK hP hD hS hA hE rfl rfl rfl) rfl rfl hl.1 rfl (lv_room (Nat.le_of_ble_eq_true rfl)) dX3_cost_105 ⟨by decide, by decide⟩) hD hS hA (fun v33 sg35 H locs hp36 hP hD hS => ?_)
            obtain ⟨hk1, rfl⟩ := hp36
            have hk := hk.trans hk1
            refine W.eq (g2 := F0 m 108 ls []) rfl ?_
            refine lv_aload_n hx hb dX3_cost_108 rfl (lv_at hl 5 rfl) ?_
            refine gw_getr (C := RX3) (T := TX3) (N := 27) hx hb hts inwX3 hown hK hP 0 9 8 rfl rfl rfl (by decide) (hts _ a146) (fun _ h9 => h9) dX3_cost_109 ?_
            refine lv_iload_n hx hb dX3_cost_112 rfl (lv_at hl 6 rfl) ?_
            refine lv_iload hx hb dX3_cost_113 (lv_at hl 2 rfl) ?_
            refine gw_ast hx hb hK hP hD hS 8 0 (n := 4) rfl rfl (i := j1) (by omega) (by decide) dX3_cost_115 (fun H locs hP hD hS => ?_)
            obtain ⟨sg39, esg39⟩ : ∃ z : Nat → Nat → Int32, z = gw_u sg35 8 (upd (sg35 8) j1 v26) := ⟨_, rfl⟩
            rw [← esg39] at hP hD
            have hk : KM sg0 sg39 := by rw [esg39]; exact hk.wa 8 (by decide) (by decide) _
            refine lv_aload_n hx hb dX3_cost_116 rfl (lv_at hl 5 rfl) ?_
            refine gw_getr (C := RX3) (T := TX3) (N := 27) hx hb hts inwX3 hown hK hP 0 7 6 rfl rfl rfl (by decide) (hts _ a144) (fun _ h9 => h9) dX3_cost_117 ?_
            refine lv_iload_n hx hb dX3_cost_120 rfl (lv_at hl 6 rfl) ?_
            refine lv_iload hx hb dX3_cost_121 (lv_at hl 1 rfl) ?_
            refine gw_ast hx hb hK hP hD hS 6 0 (n := 4) rfl rfl (i := j1) (by omega) (by decide) dX3_cost_123 (fun H locs hP hD hS => ?_)
            obtain ⟨sg40, esg40⟩ : ∃ z : Nat → Nat → Int32, z = gw_u sg39 6 (upd (sg39 6) j1 v27) := ⟨_, rfl⟩
            rw [← esg40] at hP hD
            have hk : KM sg0 sg40 := by rw [esg40]; exact hk.wa 6 (by decide) (by decide) _
            refine lv_aload_n hx hb dX3_cost_124 rfl (lv_at hl 5 rfl) ?_
            refine gw_getr (C := RX3) (T := TX3) (N := 27) hx hb hts inwX3 hown hK hP 0 8 7 rfl rfl rfl (by decide) (hts _ a145) (fun _ h9 => h9) dX3_cost_125 ?_
            refine lv_iload_n hx hb dX3_cost_128 rfl (lv_at hl 6 rfl) ?_
            refine lv_iload hx hb dX3_cost_129 (lv_at hl 0 rfl) ?_
            refine gw_ast hx hb hK hP hD hS 7 0 (n := 4) rfl rfl (i := j1) (by omega) (by decide) dX3_cost_131 (fun H locs hP hD hS => ?_)
            obtain ⟨sg41, esg41⟩ : ∃ z : Nat → Nat → Int32, z = gw_u sg40 7 (upd (sg40 7) j1 v28) := ⟨_, rfl⟩
            rw [← esg41] at hP hD
            have hk : KM sg0 sg41 := by rw [esg41]; exact hk.wa 7 (by decide) (by decide) _
            refine lv_iload_n hx hb dX3_cost_132 rfl (lv_at hl 4 rfl) ?_
            refine lv_if_eq (tgt := 143) hx hb dX3_cost_133 (by decide) (fun hc42 => ?_) (fun hc42 => ?_)
            · refine lv_aload_n hx hb dX3_cost_143 rfl (lv_at hl 5 rfl) ?_
              refine lv_iconst (v := (nI 3)) hx hb dX3_cost_144 (by decide) ?_
              refine gw_put (C := RX3) (T := TX3) (N := 27) (ty := .int) hx hb hts inwX3 tyX3 tyX3_ok nmX3 hown hK hP hD hS 0 0 rfl rfl rfl (by decide) (hts _ a130) (fun _ h9 => h9) rfl (by decide +kernel) rfl rfl dX3_cost_145 (fun H locs hP hD hS => ?_)
              obtain ⟨sg43, esg43⟩ : ∃ z : Nat → Nat → Int32, z = gw_u sg41 0 (upd (sg41 0) 0 (nI 3)) := ⟨_, rfl⟩
              rw [← esg43] at hP hD
              have hk : KM sg0 sg43 := by rw [esg43]; exact hk.wf (by decide) (by decide) (by decide) _
              refine lv_iconst (v := (nI 0)) hx hb dX3_cost_148 (by decide) ?_
              exact hret _ _ _ _ _ _ hP hS dX3_cost_149 (⟨hk, _, rfl⟩)
            · refine lv_aload_n hx hb dX3_cost_136 rfl (lv_at hl 5 rfl) ?_
              refine gw_geti (C := RX3) (T := TX3) (N := 27) hx hb hts inwX3 hown hK hP 0 23 rfl rfl rfl (by decide) (hts _ a164) (fun _ h9 => h9) dX3_cost_137 ?_
              refine lv_topi (fun v44 hv44 => ?_)
              refine lv_if_ne (tgt := 150) hx hb dX3_cost_140 (by decide) (fun hc45 => ?_) (fun hc45 => ?_)
              · refine lv_iload hx hb dX3_cost_150 (lv_at hl 3 rfl) ?_
                refine lv_aload_n hx hb dX3_cost_152 rfl (lv_at hl 5 rfl) ?_
                refine gw_geti (C := RX3) (T := TX3) (N := 27) hx hb hts inwX3 hown hK hP 0 26 rfl rfl rfl (by decide) (hts _ a165) (fun _ h9 => h9) dX3_cost_153 ?_
                refine lv_topi (fun v46 hv46 => ?_)
                refine lv_isub hx hb dX3_cost_156 ?_
                refine lv_topi (fun v47 hv47 => ?_)
                exact hret _ _ _ _ _ _ hP hS dX3_cost_157 (⟨hk, _, rfl⟩)
              · refine lv_aload_n hx hb dX3_cost_143 rfl (lv_at hl 5 rfl) ?_
                refine lv_iconst (v := (nI 3)) hx hb dX3_cost_144 (by decide) ?_
                refine gw_put (C := RX3) (T := TX3) (N := 27) (ty := .int) hx hb hts inwX3 tyX3 tyX3_ok nmX3 hown hK hP hD hS 0 0 rfl rfl rfl (by decide) (hts _ a130) (fun _ h9 => h9) rfl (by decide +kernel) rfl rfl dX3_cost_145 (fun H locs hP hD hS => ?_)
                obtain ⟨sg48, esg48⟩ : ∃ z : Nat → Nat → Int32, z = gw_u sg41 0 (upd (sg41 0) 0 (nI 3)) := ⟨_, rfl⟩
                rw [← esg48] at hP hD
                have hk : KM sg0 sg48 := by rw [esg48]; exact hk.wf (by decide) (by decide) (by decide) _
                refine lv_iconst (v := (nI 0)) hx hb dX3_cost_148 (by decide) ?_
                exact hret _ _ _ _ _ _ hP hS dX3_cost_149 (⟨hk, _, rfl⟩)
          · exact absurd hc16 (by decide)
        · exact absurd hc14 (by decide)
      · refine W.eq (g2 := F0 m 22 ls [.int (nI 0), .ref (ad 0)]) rfl ?_
        refine lv_if_ne (tgt := 29) hx hb dX3_cost_22 (by decide) (fun hc49 => ?_) (fun hc49 => ?_)
        · exact absurd hc49 (by decide)
        · refine lv_iconst (v := (nI 2)) hx hb dX3_cost_25 (by decide) ?_
          refine lv_goto (tgt := 30) hx hb dX3_cost_26 (by decide) ?_
          refine gw_put (C := RX3) (T := TX3) (N := 27) (ty := .int) hx hb hts inwX3 tyX3 tyX3_ok nmX3 hown hK hP hD hS 0 0 rfl rfl rfl (by decide) (hts _ a130) (fun _ h9 => h9) rfl (by decide +kernel) rfl rfl dX3_cost_30 (fun H locs hP hD hS => ?_)
          obtain ⟨sg50, esg50⟩ : ∃ z : Nat → Nat → Int32, z = gw_u sg0 0 (upd (sg0 0) 0 (nI 2)) := ⟨_, rfl⟩
          rw [← esg50] at hP hD
          have hk : KM sg0 sg50 := by rw [esg50]; exact hk.wf (by decide) (by decide) (by decide) _
          refine lv_aload_n hx hb dX3_cost_33 rfl (lv_at hl 0 rfl) ?_
          refine gw_geti (C := RX3) (T := TX3) (N := 27) hx hb hts inwX3 hown hK hP 0 0 rfl rfl rfl (by decide) (hts _ a130) (fun _ h9 => h9) dX3_cost_34 ?_
          refine gw_top (y := (nI 2)) (by simp [esg50, gw_u, upd]) ?_
          refine lv_if_le (tgt := 42) hx hb dX3_cost_37 (by decide) (fun hc51 => ?_) (fun hc51 => ?_)
          · exact absurd hc51 (by decide)
          · refine lv_iconst (v := (nI 0)) hx hb dX3_cost_40 (by decide) ?_
            exact hret _ _ _ _ _ _ hP hS dX3_cost_41 (⟨hk, _, rfl⟩)
    · exact absurd hc7 (by decide)
  · refine W.eq (g2 := F0 m 7 ls [.int (nI 0), .ref (ad 0)]) rfl ?_
    refine lv_if_ne (tgt := 14) hx hb dX3_cost_7 (by decide) (fun hc52 => ?_) (fun hc52 => ?_)
    · exact absurd hc52 (by decide)
    · refine lv_iconst (v := (nI 1)) hx hb dX3_cost_10 (by decide) ?_
      refine lv_goto (tgt := 30) hx hb dX3_cost_11 (by decide) ?_
      refine gw_put (C := RX3) (T := TX3) (N := 27) (ty := .int) hx hb hts inwX3 tyX3 tyX3_ok nmX3 hown hK hP hD hS 0 0 rfl rfl rfl (by decide) (hts _ a130) (fun _ h9 => h9) rfl (by decide +kernel) rfl rfl dX3_cost_30 (fun H locs hP hD hS => ?_)
      obtain ⟨sg53, esg53⟩ : ∃ z : Nat → Nat → Int32, z = gw_u sg0 0 (upd (sg0 0) 0 (nI 1)) := ⟨_, rfl⟩
      rw [← esg53] at hP hD
      have hk : KM sg0 sg53 := by rw [esg53]; exact hk.wf (by decide) (by decide) (by decide) _
      refine lv_aload_n hx hb dX3_cost_33 rfl (lv_at hl 0 rfl) ?_
      refine gw_geti (C := RX3) (T := TX3) (N := 27) hx hb hts inwX3 hown hK hP 0 0 rfl rfl rfl (by decide) (hts _ a130) (fun _ h9 => h9) dX3_cost_34 ?_
      refine gw_top (y := (nI 1)) (by simp [esg53, gw_u, upd]) ?_
      refine lv_if_le (tgt := 42) hx hb dX3_cost_37 (by decide) (fun hc54 => ?_) (fun hc54 => ?_)
      · exact absurd hc54 (by decide)
      · refine lv_iconst (v := (nI 0)) hx hb dX3_cost_40 (by decide) ?_
        exact hret _ _ _ _ _ _ hP hS dX3_cost_41 (⟨hk, _, rfl⟩)
