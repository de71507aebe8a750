abbrev rmX3_lesser : Room := { frames := 0, cells := 0, slots := 0, locals := 0 }
set_option maxRecDepth 100000 in
set_option maxHeartbeats 4000000 in
theorem m_X3_lesser (l : Launch) (hl9 : l.stackTraces = false) (D : va_G) (cI : ClassId) (cJ : ClassId × ClassId) (ad : Nat → Nat) (sg0 : Nat → Nat → Int32) (sz : Nat) (x0 : Int32) (x1 : Int32) : gc_M l yX3_lesser wsX3_lesser rmX3_lesser D vwCl (tyS cI cJ) cI cJ gxT gxN SE [.int x0, .int x1] ad sg0 sz 0 0 (fun v sg2 => v = some (.int (if x0 < x1 then x0 else x1))) := by
  refine gc_Mi_of (cc := cX3_lesser) (maxL := 2) (by decide) rfl (Nat.le_of_ble_eq_true rfl) ?_
  intro p e s m below meth c A ls Q hin hE hret
  obtain ⟨⟨hx, hb, hml, hown, hts⟩, -, hlocks, -, hA, hP, hK, hD, hS, hl⟩ := hin
  have hts : ∀ w ∈ wsAll, w.before ([.int x0, .int x1] : List Value).toArray s = true := fun w h => hts w (List.mem_cons_of_mem _ h)
  have hl : lv_has ls 2 [(0, .int x0), (1, .int x1)] := hl
  refine lv_iload_n hx hb dX3_lesser_0 rfl (lv_at hl 0 rfl) ?_
  refine lv_iload_n hx hb dX3_lesser_1 rfl (lv_at hl 1 rfl) ?_
  refine lv_icmp_ge (tgt := 9) hx hb dX3_lesser_2 (by decide) (fun h1 => ?_) (fun h1 => ?_)
  · refine lv_iload_n hx hb dX3_lesser_9 rfl (lv_at hl 1 rfl) ?_
    exact hret _ _ _ _ _ _ hP hS dX3_lesser_10 (by rw [if_neg (fun q => absurd h1 (i_nle.mpr q))])
  · refine lv_iload_n hx hb dX3_lesser_5 rfl (lv_at hl 0 rfl) ?_
    refine lv_goto (tgt := 10) hx hb dX3_lesser_6 (by decide) ?_
    exact hret _ _ _ _ _ _ hP hS dX3_lesser_10 (by simp [h1])
abbrev rmX3_madeOf : Room := { frames := 0, cells := 0, slots := 0, locals := 0 }
set_option maxRecDepth 100000 in
set_option maxHeartbeats 4000000 in
theorem m_X3_madeOf (l : Launch) (hl9 : l.stackTraces = false) (D : va_G) (cI : ClassId) (cJ : ClassId × ClassId) (ad : Nat → Nat) (sg0 : Nat → Nat → Int32) (sz : Nat) (pr : Nat) (hpr : pr < 4) (hk : ZSM sg0) : gc_M l yX3_madeOf wsX3_madeOf rmX3_madeOf D vwCl (tyS cI cJ) cI cJ gxT gxN SM [.ref (ad 0), .ref (ad 11), .int (nI pr)] ad sg0 sz 0 0 (fun v sg2 => v = some (.int (nI 0)) ∧ sg2 = sg0) := by
  refine gc_Mi_of (cc := cX3_madeOf) (maxL := 5) (by decide) rfl (Nat.le_of_ble_eq_true rfl) ?_
  intro p e s m below meth c A ls Q hin hE hret
  obtain ⟨⟨hx, hb, hml, hown, hts⟩, -, hlocks, -, hA, hP, hK, hD, hS, hl⟩ := hin
  have hts : ∀ w ∈ wsAll, w.before ([.ref (ad 0), .ref (ad 11), .int (nI pr)] : List Value).toArray s = true := fun w h => hts w (List.mem_cons_of_mem _ h)
  have hl : lv_has ls 5 [(0, .ref (ad 0)), (1, .ref (ad 11)), (2, .int (nI pr))] := hl
  refine lv_aload_n hx hb dX3_madeOf_0 rfl (lv_at hl 0 rfl) ?_
  refine gw_getr (C := RX3) (T := TX3) (N := 27) hx hb hts inwX3 hown hK hP 0 10 9 rfl rfl rfl (by decide) (hts _ a108) (fun _ h9 => h9) dX3_madeOf_1 ?_
  refine lv_iload_n hx hb dX3_madeOf_4 rfl (lv_at hl 2 rfl) ?_
  refine gw_ald hx hb hK hP 9 0 (n := 4) rfl rfl (i := pr) (by omega) (by decide) dX3_madeOf_5 ?_
  refine gw_top (y := (nI 0)) (hk.1 9 (by decide) (by decide) _) ?_
  refine lv_istore_n (lv' := [(3, .int (nI 0)), (0, .ref (ad 0)), (1, .ref (ad 11)), (2, .int (nI pr))]) hx hb dX3_madeOf_6 rfl hl (by decide) rfl (fun ls hl => ?_)
  refine lv_iconst (v := (nI 0)) hx hb dX3_madeOf_7 (by decide) ?_
  refine lv_istore (lv' := [(4, .int (nI 0)), (3, .int (nI 0)), (0, .ref (ad 0)), (1, .ref (ad 11)), (2, .int (nI pr))]) hx hb dX3_madeOf_8 hl (by decide) rfl (fun ls hl => ?_)
  refine lv_iload hx hb dX3_madeOf_10 (lv_at hl 0 rfl) ?_
  refine lv_aload_n hx hb dX3_madeOf_12 rfl (lv_at hl 2 rfl) ?_
  refine gw_geti (C := RX3) (T := TX3) (N := 27) hx hb hts inwX3 hown hK hP 0 3 rfl rfl rfl (by decide) (hts _ a96) (fun _ h9 => h9) dX3_madeOf_13 ?_
  refine gw_top (y := (nI 0)) (hk.2) ?_
  refine lv_icmp_ge (tgt := 44) hx hb dX3_madeOf_16 (by decide) (fun hc1 => ?_) (fun hc1 => ?_)
  · refine lv_iload_n hx hb dX3_madeOf_44 rfl (lv_at hl 1 rfl) ?_
    exact hret _ _ _ _ _ _ hP hS dX3_madeOf_45 (⟨rfl, rfl⟩)
  · exact absurd hc1 (by decide)
abbrev rmX3_look : Room := { frames := 1, cells := 0, slots := 0, locals := 24 }
set_option maxRecDepth 100000 in
set_option maxHeartbeats 4000000 in
theorem m_X3_look (l : Launch) (hl9 : l.stackTraces = false) (D : va_G) (cI : ClassId) (cJ : ClassId × ClassId) (ad : Nat → Nat) (sg0 : Nat → Nat → Int32) (sz : Nat) (hk : ZSM sg0) (hf0 : sg0 0 23 = nI 0) : gc_M l yX3_look wsX3_look rmX3_look D vwCl (tyS cI cJ) cI cJ gxT gxN SM [.ref (ad 0)] ad sg0 sz 0 0 (fun v sg2 => v = none ∧ ZSM sg2 ∧ sg2 0 = upd (upd (sg0 0) 23 (nI 1)) 26 (nI 0)) := by
  refine gc_Mv_of (cc := cX3_look) (maxL := 4) (by decide) rfl (Nat.le_of_ble_eq_true rfl) ?_
  intro p e s m below meth c A ls Q hin hE hret
  obtain ⟨⟨hx, hb, hml, hown, hts⟩, -, hlocks, -, hA, hP, hK, hD, hS, hl⟩ := hin
  have hts : ∀ w ∈ wsAll, w.before ([.ref (ad 0)] : List Value).toArray s = true := fun w h => hts w (List.mem_cons_of_mem _ h)
  have hl : lv_has ls 4 [(0, .ref (ad 0))] := hl
  have c120 : ∀ (n9 : Nat) (i : Nat) (sg : Nat → Nat → Int32) (H : Heap) (locs : List Loc) (ls : Array Slot), 6 - i = n9 → i ≤ 6 → ZSM sg ∧ sg 0 = upd (upd (sg0 0) 23 (nI 1)) 26 (nI 0) → va_P D vwCl (gw cI cJ ad sg SM) H → va_D A (gw cI cJ ad sg SM) → va_S A s.heap H locs → lv_has ls 4 [(2, .int (nI i)), (0, .ref (ad 0))] → W p l e rmX3_look s m ([.ref (ad 0)] : List Value).toArray below meth c H locs 0 0 Q (F0 m 120 ls []) := by
    intro n9
    induction n9 using Nat.strongRecOn with
    | ind n9 ih =>
    intro i sg H locs ls hn h1 hk hP hD hS hl
    subst hn
    refine lv_iload_n hx hb dX3_look_120 rfl (lv_at hl 0 rfl) ?_
    refine lv_bipush (v := (nI 6)) hx hb dX3_look_121 (by decide) ?_
    refine lv_icmp_ge (tgt := 156) hx hb dX3_look_123 (by decide) (fun hc1 => ?_) (fun hc1 => ?_)
    · have hc1 : 6 ≤ i := (nI_leI (a := 6) (b := i) (by omega) (by omega)).mp hc1
      exact hret _ _ _ _ _ hP hS dX3_look_156 (⟨rfl, hk⟩)
    · have hc1 : ¬ (6 ≤ i) := fun q => hc1 ((nI_leI (a := 6) (b := i) (by omega) (by omega)).mpr q)
      refine lv_aload_n hx hb dX3_look_126 rfl (lv_at hl 1 rfl) ?_
      refine gw_getr (C := RX3) (T := TX3) (N := 27) hx hb hts inwX3 hown hK hP 0 22 12 rfl rfl rfl (by decide) (hts _ a111) (fun _ h9 => h9) dX3_look_127 ?_
      refine lv_iload_n hx hb dX3_look_130 rfl (lv_at hl 0 rfl) ?_
      refine lv_iload_n hx hb dX3_look_131 rfl (lv_at hl 0 rfl) ?_
      refine lv_aload_n hx hb dX3_look_132 rfl (lv_at hl 1 rfl) ?_
      refine gw_geti (C := RX3) (T := TX3) (N := 27) hx hb hts inwX3 hown hK hP 0 3 rfl rfl rfl (by decide) (hts _ a96) (fun _ h9 => h9) dX3_look_133 ?_
      refine gw_top (y := (nI 0)) (hk.1.2) ?_
      refine lv_icmp_ge (tgt := 148) hx hb dX3_look_136 (by decide) (fun hc2 => ?_) (fun hc2 => ?_)
      · have hc2 : 0 ≤ i := (nI_leI (a := 0) (b := i) (by omega) (by omega)).mp hc2
        refine lv_iconst (v := (nI 0)) hx hb dX3_look_148 (by decide) ?_
        refine gw_ast hx hb hK hP hD hS 12 0 (n := 6) rfl rfl (i := i) (by omega) (by decide) dX3_look_149 (fun H locs hP hD hS => ?_)
        obtain ⟨sg3, esg3⟩ : ∃ z : Nat → Nat → Int32, z = gw_u sg 12 (upd (sg 12) i (nI 0)) := ⟨_, rfl⟩
        rw [← esg3] at hP hD
        have hk : ZSM sg3 ∧ sg3 0 = upd (upd (sg0 0) 23 (nI 1)) 26 (nI 0) := ⟨by rw [esg3]; exact hk.1.wa 12 (by decide) _, by rw [esg3, gw_u_n _ _ (by decide)]; exact hk.2⟩
        refine lv_iinc (k := 0) (v := (nI (i + 1))) (lv' := [(2, .int (nI (i + 1))), (0, .ref (ad 0))]) hx hb dX3_look_150 hl rfl (nI_1 _) (by decide) rfl (fun ls hl => ?_)
        refine lv_goto (tgt := 120) hx hb dX3_look_153 (by decide) ?_
        exact ih _ (by omega) (i + 1) _ _ _ _ rfl (by omega) hk hP hD hS (lv_sub hl [0, 1] rfl)
      · have hc2 : ¬ (0 ≤ i) := fun q => hc2 ((nI_leI (a := 0) (b := i) (by omega) (by omega)).mpr q)
        refine lv_aload_n hx hb dX3_look_139 rfl (lv_at hl 1 rfl) ?_
        refine gw_getr (C := RX3) (T := TX3) (N := 27) hx hb hts inwX3 hown hK hP 0 21 11 rfl rfl rfl (by decide) (hts _ a112) (fun _ h9 => h9) dX3_look_140 ?_
        refine lv_iload_n hx hb dX3_look_143 rfl (lv_at hl 0 rfl) ?_
        refine gw_ald hx hb hK hP 11 0 (n := 6) rfl rfl (i := i) (by omega) (by decide) dX3_look_144 ?_
        refine gw_top (y := (nI 0)) (hk.1.1 11 (by decide) (by decide) _) ?_
        refine lv_goto (tgt := 149) hx hb dX3_look_145 (by decide) ?_
        refine gw_ast hx hb hK hP hD hS 12 0 (n := 6) rfl rfl (i := i) (by omega) (by decide) dX3_look_149 (fun H locs hP hD hS => ?_)
        obtain ⟨sg4, esg4⟩ : ∃ z : Nat → Nat → Int32, z = gw_u sg 12 (upd (sg 12) i (nI 0)) := ⟨_, rfl⟩
        rw [← esg4] at hP hD
        have hk : ZSM sg4 ∧ sg4 0 = upd (upd (sg0 0) 23 (nI 1)) 26 (nI 0) := ⟨by rw [esg4]; exact hk.1.wa 12 (by decide) _, by rw [esg4, gw_u_n _ _ (by decide)]; exact hk.2⟩
        refine lv_iinc (k := 0) (v := (nI (i + 1))) (lv' := [(2, .int (nI (i + 1))), (0, .ref (ad 0))]) hx hb dX3_look_150 hl rfl (nI_1 _) (by decide) rfl (fun ls hl => ?_)
        refine lv_goto (tgt := 120) hx hb dX3_look_153 (by decide) ?_
        exact ih _ (by omega) (i + 1) _ _ _ _ rfl (by omega) hk hP hD hS (lv_sub hl [0, 1] rfl)
  have c56 : ∀ (sg : Nat → Nat → Int32) (H : Heap) (locs : List Loc) (ls : Array Slot), ZSM sg ∧ sg = sg0 → va_P D vwCl (gw cI cJ ad sg SM) H → va_D A (gw cI cJ ad sg SM) → va_S A s.heap H locs → lv_has ls 4 [(1, .int (nI 0)), (0, .ref (ad 0))] → W p l e rmX3_look s m ([.ref (ad 0)] : List Value).toArray below meth c H locs 0 0 Q (F0 m 56 ls []) := by
    intro sg H locs ls hk hP hD hS hl
    have e56 := hk.2
    have hk := hk.1
    have hf0 : sg 0 23 = nI 0 := by rw [e56]; exact hf0
    refine lv_iconst (v := (nI 0)) hx hb dX3_look_56 (by decide) ?_
    refine lv_istore_n (lv' := [(2, .int (nI 0)), (1, .int (nI 0)), (0, .ref (ad 0))]) hx hb dX3_look_57 rfl hl (by decide) rfl (fun ls hl => ?_)
    refine lv_iload_n hx hb dX3_look_58 rfl (lv_at hl 0 rfl) ?_
    refine lv_aload_n hx hb dX3_look_59 rfl (lv_at hl 2 rfl) ?_
    refine gw_geti (C := RX3) (T := TX3) (N := 27) hx hb hts inwX3 hown hK hP 0 3 rfl rfl rfl (by decide) (hts _ a96) (fun _ h9 => h9) dX3_look_60 ?_
    refine gw_top (y := (nI 0)) (hk.2) ?_
    refine lv_icmp_ge (tgt := 93) hx hb dX3_look_63 (by decide) (fun hc5 => ?_) (fun hc5 => ?_)
    · refine lv_aload_n hx hb dX3_look_93 rfl (lv_at hl 2 rfl) ?_
      refine gw_geti (C := RX3) (T := TX3) (N := 27) hx hb hts inwX3 hown hK hP 0 23 rfl rfl rfl (by decide) (hts _ a113) (fun _ h9 => h9) dX3_look_94 ?_
      refine gw_top (y := (nI 0)) (hf0) ?_
      refine lv_if_eq (tgt := 108) hx hb dX3_look_97 (by decide) (fun hc6 => ?_) (fun hc6 => ?_)
      · refine lv_aload_n hx hb dX3_look_108 rfl (lv_at hl 2 rfl) ?_
        refine lv_iconst (v := (nI 1)) hx hb dX3_look_109 (by decide) ?_
        refine gw_put (C := RX3) (T := TX3) (N := 27) (ty := .boolean) hx hb hts inwX3 tyX3 tyX3_ok nmX3 hown hK hP hD hS 0 23 rfl rfl rfl (by decide) (hts _ a113) (fun _ h9 => h9) rfl (by decide +kernel) rfl rfl dX3_look_110 (fun H locs hP hD hS => ?_)
        obtain ⟨sg7, esg7⟩ : ∃ z : Nat → Nat → Int32, z = gw_u sg 0 (upd (sg 0) 23 (nI 1)) := ⟨_, rfl⟩
        rw [← esg7] at hP hD
        have hk : ZSM sg7 := by rw [esg7]; exact hk.wf (by decide) _
        refine lv_aload_n hx hb dX3_look_113 rfl (lv_at hl 2 rfl) ?_
        refine lv_iload_n hx hb dX3_look_114 rfl (lv_at hl 1 rfl) ?_
        refine gw_put (C := RX3) (T := TX3) (N := 27) (ty := .int) hx hb hts inwX3 tyX3 tyX3_ok nmX3 hown hK hP hD hS 0 26 rfl rfl rfl (by decide) (hts _ a114) (fun _ h9 => h9) rfl (by decide +kernel) rfl rfl dX3_look_115 (fun H locs hP hD hS => ?_)
        obtain ⟨sg8, esg8⟩ : ∃ z : Nat → Nat → Int32, z = gw_u sg7 0 (upd (sg7 0) 26 (nI 0)) := ⟨_, rfl⟩
        rw [← esg8] at hP hD
        have hk : ZSM sg8 := by rw [esg8]; exact hk.wf (by decide) _
        refine lv_iconst (v := (nI 0)) hx hb dX3_look_118 (by decide) ?_
        refine lv_istore_n (lv' := [(2, .int (nI 0)), (1, .int (nI 0)), (0, .ref (ad 0))]) hx hb dX3_look_119 rfl hl (by decide) rfl (fun ls hl => ?_)
        exact c120 _ 0 _ _ _ _ rfl (by omega) (⟨hk, by simp [esg8, esg7, gw_u, e56]⟩) hP hD hS (lv_sub hl [0, 2] rfl)
      · exact absurd hc6 (by decide)
    · exact absurd hc5 (by decide)
  have c4 : ∀ (n9 : Nat) (i : Nat) (sg : Nat → Nat → Int32) (H : Heap) (locs : List Loc) (ls : Array Slot), 4 - i = n9 → i ≤ 4 → ZSM sg ∧ sg = sg0 → va_P D vwCl (gw cI cJ ad sg SM) H → va_D A (gw cI cJ ad sg SM) → va_S A s.heap H locs → lv_has ls 4 [(2, .int (nI i)), (1, .int (nI 0)), (0, .ref (ad 0))] → W p l e rmX3_look s m ([.ref (ad 0)] : List Value).toArray below meth c H locs 0 0 Q (F0 m 4 ls []) := by
    intro n9
    induction n9 using Nat.strongRecOn with
    | ind n9 ih =>
    intro i sg H locs ls hn h1 hk hP hD hS hl
    subst hn
    refine lv_iload_n hx hb dX3_look_4 rfl (lv_at hl 0 rfl) ?_
    refine lv_iconst (v := (nI 4)) hx hb dX3_look_5 (by decide) ?_
    refine lv_icmp_ge (tgt := 56) hx hb dX3_look_6 (by decide) (fun hc9 => ?_) (fun hc9 => ?_)
    · have hc9 : 4 ≤ i := (nI_leI (a := 4) (b := i) (by omega) (by omega)).mp hc9
      exact c56  _ _ _ _  hk hP hD hS (lv_sub hl [1, 2] rfl)
    · have hc9 : ¬ (4 ≤ i) := fun q => hc9 ((nI_leI (a := 4) (b := i) (by omega) (by omega)).mpr q)
      refine lv_aload_n hx hb dX3_look_9 rfl (lv_at hl 2 rfl) ?_
      refine lv_aload_n hx hb dX3_look_10 rfl (lv_at hl 2 rfl) ?_
      refine gw_getr (C := RX3) (T := TX3) (N := 27) hx hb hts inwX3 hown hK hP 0 21 11 rfl rfl rfl (by decide) (hts _ a112) (fun _ h9 => h9) dX3_look_11 ?_
      refine lv_iload_n hx hb dX3_look_14 rfl (lv_at hl 0 rfl) ?_
      refine gc_go0 (va_runV (As := [.ref (ad 11), .int (nI i)]) (rest := []) ⟨hx, hb, hml, hown, hts⟩ (m_X3_madeOf l hl9 D cI cJ ad sg _ i (by omega) hk.1) (cwV 2 hts (gwV a115 a116 a117 a87 a118) rfl rfl rfl (by decide +kernel) ⟨by decide, by decide⟩) (gc_preV0 hK hP hD hS hA hE rfl rfl rfl) rfl rfl hl.1 rfl (lv_room (Nat.le_of_ble_eq_true rfl)) dX3_look_15 ⟨by decide, by decide⟩) hD hS hA (fun v10 sg12 H locs hp13 hP hD hS => ?_)
      obtain ⟨rfl, hs9⟩ := hp13
      rw [hs9] at hP hD
      refine W.eq (g2 := F0 m 18 ls [.int (nI 0)]) rfl ?_
      refine lv_istore_n (lv' := [(3, .int (nI 0)), (2, .int (nI i)), (1, .int (nI 0)), (0, .ref (ad 0))]) hx hb dX3_look_18 rfl hl (by decide) rfl (fun ls hl => ?_)
      refine lv_iload_n hx hb dX3_look_19 rfl (lv_at hl 0 rfl) ?_
      refine lv_aload_n hx hb dX3_look_20 rfl (lv_at hl 3 rfl) ?_
      refine gw_getr (C := RX3) (T := TX3) (N := 27) hx hb hts inwX3 hown hK hP 0 7 6 rfl rfl rfl (by decide) (hts _ a103) (fun _ h9 => h9) dX3_look_21 ?_
      refine lv_iload_n hx hb dX3_look_24 rfl (lv_at hl 1 rfl) ?_
      refine gw_ald hx hb hK hP 6 0 (n := 4) rfl rfl (i := i) (by omega) (by decide) dX3_look_25 ?_
      refine gw_top (y := (nI 0)) (hk.1.1 6 (by decide) (by decide) _) ?_
      refine lv_icmp_ge (tgt := 30) hx hb dX3_look_26 (by decide) (fun hc16 => ?_) (fun hc16 => ?_)
      · refine lv_iload_n hx hb dX3_look_30 rfl (lv_at hl 2 rfl) ?_
        refine lv_aload_n hx hb dX3_look_31 rfl (lv_at hl 3 rfl) ?_
        refine gw_getr (C := RX3) (T := TX3) (N := 27) hx hb hts inwX3 hown hK hP 0 9 8 rfl rfl rfl (by decide) (hts _ a105) (fun _ h9 => h9) dX3_look_32 ?_
        refine lv_iload_n hx hb dX3_look_35 rfl (lv_at hl 1 rfl) ?_
        refine gw_ald hx hb hK hP 8 0 (n := 4) rfl rfl (i := i) (by omega) (by decide) dX3_look_36 ?_
        refine gw_top (y := (nI 0)) (hk.1.1 8 (by decide) (by decide) _) ?_
        refine lv_iload_n hx hb dX3_look_37 rfl (lv_at hl 0 rfl) ?_
        refine lv_aload_n hx hb dX3_look_38 rfl (lv_at hl 3 rfl) ?_
        refine gw_getr (C := RX3) (T := TX3) (N := 27) hx hb hts inwX3 hown hK hP 0 8 7 rfl rfl rfl (by decide) (hts _ a104) (fun _ h9 => h9) dX3_look_39 ?_
        refine lv_iload_n hx hb dX3_look_42 rfl (lv_at hl 1 rfl) ?_
        refine gw_ald hx hb hK hP 7 0 (n := 4) rfl rfl (i := i) (by omega) (by decide) dX3_look_43 ?_
        refine gw_top (y := (nI 0)) (hk.1.1 7 (by decide) (by decide) _) ?_
        refine gc_go (pl := []) (S2 := SE) (ad := ad) (sg := sg) (va_runS (As := [.int (nI 0), .int (nI 0)]) (rest := [.int (nI 0), .int (nI 0)]) ⟨hx, hb, hml, hown, hts⟩ (m_X3_lesser l hl9 D cI cJ (fun j => ad (gw_p [] j)) (fun j => sg (gw_p [] j)) _ (nI 0) (nI 0) ) (cwS 2 hts (gwS a119 a120 a87 a121) rfl rfl rfl (by decide +kernel) ⟨by decide, by decide⟩) (gc_preS hK hP hD hS hA hE rfl) rfl rfl hl.1 rfl (lv_room (Nat.le_of_ble_eq_true rfl)) dX3_look_44 ⟨by decide, by decide⟩) hP hD hS hA rfl (fun v17 sp18 sg19 H locs hp20 ha21 hb22 hP hD hS => ?_)
        obtain rfl := hp20
        rw [show sg19 = sg from funext (fun k => hb22 k (by simp))] at hP hD
        refine W.eq (g2 := F0 m 47 ls [.int (nI 0), .int (nI 0), .int (nI 0)]) (by rw [show (if nI 0 < nI 0 then nI 0 else nI 0) = nI 0 by decide]; rfl) ?_
        refine lv_imul hx hb dX3_look_47 ?_
        refine gw_top (y := (nI 0)) (by decide) ?_
        refine lv_iadd hx hb dX3_look_48 ?_
        refine gw_top (y := (nI 0)) (by decide) ?_
        refine lv_istore_n (lv' := [(1, .int (nI 0)), (3, .int (nI 0)), (2, .int (nI i)), (0, .ref (ad 0))]) hx hb dX3_look_49 rfl hl (by decide) rfl (fun ls hl => ?_)
        refine lv_iinc (k := 2) (v := (nI (i + 1))) (lv' := [(2, .int (nI (i + 1))), (1, .int (nI 0)), (3, .int (nI 0)), (0, .ref (ad 0))]) hx hb dX3_look_50 hl rfl (nI_1 _) (by decide) rfl (fun ls hl => ?_)
        refine lv_goto (tgt := 4) hx hb dX3_look_53 (by decide) ?_
        exact ih _ (by omega) (i + 1) _ _ _ _ rfl (by omega) hk hP hD hS (lv_sub hl [0, 1, 3] rfl)
      · exact absurd hc16 (by decide)
  refine lv_iconst (v := (nI 0)) hx hb dX3_look_0 (by decide) ?_
  refine lv_istore_n (lv' := [(1, .int (nI 0)), (0, .ref (ad 0))]) hx hb dX3_look_1 rfl hl (by decide) rfl (fun ls hl => ?_)
  refine lv_iconst (v := (nI 0)) hx hb dX3_look_2 (by decide) ?_
  refine lv_istore_n (lv' := [(2, .int (nI 0)), (1, .int (nI 0)), (0, .ref (ad 0))]) hx hb dX3_look_3 rfl hl (by decide) rfl (fun ls hl => ?_)
  exact c4 _ 0 _ _ _ _ rfl (by omega) (⟨hk, rfl⟩) hP hD hS (lv_sub hl [0, 1, 2] rfl)
abbrev rmX3_seek : Room := { frames := 2, cells := 0, slots := 0, locals := 47 }
set_option maxRecDepth 100000 in
set_option maxHeartbeats 4000000 in
theorem m_X3_seek (l : Launch) (hl9 : l.stackTraces = false) (D : va_G) (cI : ClassId) (cJ : ClassId × ClassId) (ad : Nat → Nat) (sg0 : Nat → Nat → Int32) (sz : Nat) (x1 : Int32) (hk : ZSM sg0) : gc_M l yX3_seek wsX3_seek rmX3_seek D vwCl (tyS cI cJ) cI cJ gxT gxN SM [.ref (ad 0), .int x1] ad sg0 sz 0 0 (fun v sg2 => v = none ∧ ZSM sg2 ∧ sg2 0 23 = nI 1 ∧ sg2 0 26 = nI 0 ∧ sg2 0 24 = nI 0 ∧ sg2 0 0 = sg0 0 0) := by
  refine gc_Mv_of (cc := cX3_seek) (maxL := 3) (by decide) rfl (Nat.le_of_ble_eq_true rfl) ?_
  intro p e s m below meth c A ls Q hin hE hret
  obtain ⟨⟨hx, hb, hml, hown, hts⟩, -, hlocks, -, hA, hP, hK, hD, hS, hl⟩ := hin
  have hts : ∀ w ∈ wsAll, w.before ([.ref (ad 0), .int x1] : List Value).toArray s = true := fun w h => hts w (List.mem_cons_of_mem _ h)
  have hl : lv_has ls 3 [(0, .ref (ad 0)), (1, .int x1)] := hl
  refine lv_aload_n hx hb dX3_seek_0 rfl (lv_at hl 0 rfl) ?_
  refine lv_iconst (v := (nI 0)) hx hb dX3_seek_1 (by decide) ?_
  refine gw_put (C := RX3) (T := TX3) (N := 27) (ty := .boolean) hx hb hts inwX3 tyX3 tyX3_ok nmX3 hown hK hP hD hS 0 23 rfl rfl rfl (by decide) (hts _ a113) (fun _ h9 => h9) rfl (by decide +kernel) rfl rfl dX3_seek_2 (fun H locs hP hD hS => ?_)
  obtain ⟨sg1, esg1⟩ : ∃ z : Nat → Nat → Int32, z = gw_u sg0 0 (upd (sg0 0) 23 (nI 0)) := ⟨_, rfl⟩
  rw [← esg1] at hP hD
  have hk : ZSM sg1 := by rw [esg1]; exact hk.wf (by decide) _
  refine lv_aload_n hx hb dX3_seek_5 rfl (lv_at hl 0 rfl) ?_
  refine lv_iconst (v := (nI 0)) hx hb dX3_seek_6 (by decide) ?_
  refine gw_put (C := RX3) (T := TX3) (N := 27) (ty := .boolean) hx hb hts inwX3 tyX3 tyX3_ok nmX3 hown hK hP hD hS 0 24 rfl rfl rfl (by decide) (hts _ a122) (fun _ h9 => h9) rfl (by decide +kernel) rfl rfl dX3_seek_7 (fun H locs hP hD hS => ?_)
  obtain ⟨sg2, esg2⟩ : ∃ z : Nat → Nat → Int32, z = gw_u sg1 0 (upd (sg1 0) 24 (nI 0)) := ⟨_, rfl⟩
  rw [← esg2] at hP hD
  have hk : ZSM sg2 := by rw [esg2]; exact hk.wf (by decide) _
  refine lv_aload_n hx hb dX3_seek_10 rfl (lv_at hl 0 rfl) ?_
  refine lv_iconst (v := (nI 0)) hx hb dX3_seek_11 (by decide) ?_
  refine gw_put (C := RX3) (T := TX3) (N := 27) (ty := .int) hx hb hts inwX3 tyX3 tyX3_ok nmX3 hown hK hP hD hS 0 25 rfl rfl rfl (by decide) (hts _ a123) (fun _ h9 => h9) rfl (by decide +kernel) rfl rfl dX3_seek_12 (fun H locs hP hD hS => ?_)
  obtain ⟨sg3, esg3⟩ : ∃ z : Nat → Nat → Int32, z = gw_u sg2 0 (upd (sg2 0) 25 (nI 0)) := ⟨_, rfl⟩
  rw [← esg3] at hP hD
  have hk : ZSM sg3 := by rw [esg3]; exact hk.wf (by decide) _
  refine lv_aload_n hx hb dX3_seek_15 rfl (lv_at hl 0 rfl) ?_
  refine gw_geti (C := RX3) (T := TX3) (N := 27) hx hb hts inwX3 hown hK hP 0 3 rfl rfl rfl (by decide) (hts _ a96) (fun _ h9 => h9) dX3_seek_16 ?_
  refine gw_top (y := (nI 0)) (hk.2) ?_
  refine lv_if_ne (tgt := 27) hx hb dX3_seek_19 (by decide) (fun hc4 => ?_) (fun hc4 => ?_)
  · exact absurd hc4 (by decide)
  · refine lv_aload_n hx hb dX3_seek_22 rfl (lv_at hl 0 rfl) ?_
    refine gc_go0 (va_runV (As := []) (rest := []) ⟨hx, hb, hml, hown, hts⟩ (m_X3_look l hl9 D cI cJ ad sg3 _  hk (by simp [esg3, esg2, esg1, gw_u, upd])) (cwV 0 hts (gwV a124 a125 a126 a87 a127) rfl rfl rfl (by decide +kernel) ⟨by decide, by decide⟩) (gc_preV0 hK hP hD hS hA hE rfl rfl rfl) rfl rfl hl.1 rfl (lv_room (Nat.le_of_ble_eq_true rfl)) dX3_seek_23 ⟨by decide, by decide⟩) hD hS hA (fun v5 sg7 H locs hp8 hP hD hS => ?_)
    obtain ⟨rfl, hq9⟩ := hp8
    refine W.eq (g2 := F0 m 26 ls []) rfl ?_
    exact hret _ _ _ _ _ hP hS dX3_seek_26 (⟨rfl, hq9.1, by rw [hq9.2]; simp [esg3, esg2, esg1, gw_u, upd], by rw [hq9.2]; simp [esg3, esg2, esg1, gw_u, upd], by rw [hq9.2]; simp [esg3, esg2, esg1, gw_u, upd], by rw [hq9.2]; simp [esg3, esg2, esg1, gw_u, upd]⟩)
abbrev rmX3_run : Room := { frames := 3, cells := 0, slots := 0, locals := 69 }
set_option maxRecDepth 100000 in
set_option maxHeartbeats 4000000 in
theorem m_X3_run (l : Launch) (hl9 : l.stackTraces = false) (D : va_G) (cI : ClassId) (cJ : ClassId × ClassId) (ad : Nat → Nat) (sg0 : Nat → Nat → Int32) (sz : Nat) (x1 : Int32) (hF : ∀ k j : Nat, k < 13 → sg0 k j = fm k j) : gc_M l yX3_run wsX3_run rmX3_run D vwCl (tyS cI cJ) cI cJ gxT gxN SM [.ref (ad 0), .int x1] ad sg0 sz 0 0 (fun v sg2 => v = some (.int (nI 0)) ∧ sg2 0 0 = kRun x1) := by
  refine gc_Mi_of (cc := cX3_run) (maxL := 3) (by decide) rfl (Nat.le_of_ble_eq_true rfl) ?_
  intro p e s m below meth c A ls Q hin hE hret
  obtain ⟨⟨hx, hb, hml, hown, hts⟩, -, hlocks, -, hA, hP, hK, hD, hS, hl⟩ := hin
  have hts : ∀ w ∈ wsAll, w.before ([.ref (ad 0), .int x1] : List Value).toArray s = true := fun w h => hts w (List.mem_cons_of_mem _ h)
  have hl : lv_has ls 3 [(0, .ref (ad 0)), (1, .int x1)] := hl
  have hk := zm_fresh hF
  have c73 : ∀ (n9 : Nat) (i : Nat) (sg : Nat → Nat → Int32) (H : Heap) (locs : List Loc) (ls : Array Slot), 6 - i = n9 → i ≤ 6 → inR x1 (nI 0) (nI 20000) → ZSM sg ∧ sg 0 17 = nI 0 ∧ sg 0 16 = nI 1 ∧ sg 0 0 = nI 0 → va_P D vwCl (gw cI cJ ad sg SM) H → va_D A (gw cI cJ ad sg SM) → va_S A s.heap H locs → lv_has ls 3 [(2, .int (nI i)), (0, .ref (ad 0)), (1, .int x1)] → W p l e rmX3_run s m ([.ref (ad 0), .int x1] : List Value).toArray below meth c H locs 0 0 Q (F0 m 73 ls []) := by
    intro n9
    induction n9 using Nat.strongRecOn with
    | ind n9 ih =>
    intro i sg H locs ls hn h1 h2 hk hP hD hS hl
    subst hn
    have hi1 := h2
    refine lv_iload_n hx hb dX3_run_73 rfl (lv_at hl 0 rfl) ?_
    refine lv_bipush (v := (nI 6)) hx hb dX3_run_74 (by decide) ?_
    refine lv_icmp_ge (tgt := 97) hx hb dX3_run_76 (by decide) (fun hc1 => ?_) (fun hc1 => ?_)
    · have hc1 : 6 ≤ i := (nI_leI (a := 6) (b := i) (by omega) (by omega)).mp hc1
      refine lv_aload_n hx hb dX3_run_97 rfl (lv_at hl 1 rfl) ?_
      refine gw_geti (C := RX3) (T := TX3) (N := 27) hx hb hts inwX3 hown hK hP 0 17 rfl rfl rfl (by decide) (hts _ a128) (fun _ h9 => h9) dX3_run_98 ?_
      refine gw_top (y := (nI 0)) (hk.2.1) ?_
      refine lv_if_eq (tgt := 108) hx hb dX3_run_101 (by decide) (fun hc2 => ?_) (fun hc2 => ?_)
      · refine lv_aload_n hx hb dX3_run_108 rfl (lv_at hl 1 rfl) ?_
        refine gw_geti (C := RX3) (T := TX3) (N := 27) hx hb hts inwX3 hown hK hP 0 16 rfl rfl rfl (by decide) (hts _ a84) (fun _ h9 => h9) dX3_run_109 ?_
        refine gw_top (y := (nI 1)) (hk.2.2.1) ?_
        refine lv_if_eq (tgt := 119) hx hb dX3_run_112 (by decide) (fun hc3 => ?_) (fun hc3 => ?_)
        · exact absurd hc3 (by decide)
        · refine lv_iconst (v := (nI 0)) hx hb dX3_run_115 (by decide) ?_
          refine lv_goto (tgt := 120) hx hb dX3_run_116 (by decide) ?_
          exact hret _ _ _ _ _ _ hP hS dX3_run_120 (⟨rfl, hk.2.2.2.trans (show nI 0 = kRun x1 by simp [kRun, kif, hi1])⟩)
      · exact absurd hc2 (by decide)
    · have hc1 : ¬ (6 ≤ i) := fun q => hc1 ((nI_leI (a := 6) (b := i) (by omega) (by omega)).mpr q)
      refine lv_aload_n hx hb dX3_run_79 rfl (lv_at hl 1 rfl) ?_
      refine gw_getr (C := RX3) (T := TX3) (N := 27) hx hb hts inwX3 hown hK hP 0 19 10 rfl rfl rfl (by decide) (hts _ a129) (fun _ h9 => h9) dX3_run_80 ?_
      refine lv_iload_n hx hb dX3_run_83 rfl (lv_at hl 0 rfl) ?_
      refine lv_aload_n hx hb dX3_run_84 rfl (lv_at hl 1 rfl) ?_
      refine gw_getr (C := RX3) (T := TX3) (N := 27) hx hb hts inwX3 hown hK hP 0 22 12 rfl rfl rfl (by decide) (hts _ a111) (fun _ h9 => h9) dX3_run_85 ?_
      refine lv_iload_n hx hb dX3_run_88 rfl (lv_at hl 0 rfl) ?_
      refine gw_ald hx hb hK hP 12 0 (n := 6) rfl rfl (i := i) (by omega) (by decide) dX3_run_89 ?_
      refine gw_top (y := (nI 0)) (hk.1.1 12 (by decide) (by decide) _) ?_
      refine gw_ast hx hb hK hP hD hS 10 0 (n := 6) rfl rfl (i := i) (by omega) (by decide) dX3_run_90 (fun H locs hP hD hS => ?_)
      obtain ⟨sg4, esg4⟩ : ∃ z : Nat → Nat → Int32, z = gw_u sg 10 (upd (sg 10) i (nI 0)) := ⟨_, rfl⟩
      rw [← esg4] at hP hD
      have hk : ZSM sg4 ∧ sg4 0 17 = nI 0 ∧ sg4 0 16 = nI 1 ∧ sg4 0 0 = nI 0 := ⟨by rw [esg4]; exact hk.1.wa 10 (by decide) _, by rw [esg4, gw_u_n _ _ (by decide)]; exact hk.2.1, by rw [esg4, gw_u_n _ _ (by decide)]; exact hk.2.2.1, by rw [esg4, gw_u_n _ _ (by decide)]; exact hk.2.2.2⟩
      refine lv_iinc (k := 0) (v := (nI (i + 1))) (lv' := [(2, .int (nI (i + 1))), (0, .ref (ad 0)), (1, .int x1)]) hx hb dX3_run_91 hl rfl (nI_1 _) (by decide) rfl (fun ls hl => ?_)
      refine lv_goto (tgt := 73) hx hb dX3_run_94 (by decide) ?_
      exact ih _ (by omega) (i + 1) _ _ _ _ rfl (by omega) hi1 hk hP hD hS (lv_sub hl [0, 1, 2] rfl)
  refine lv_aload_n hx hb dX3_run_0 rfl (lv_at hl 0 rfl) ?_
  refine lv_iload_n hx hb dX3_run_1 rfl (lv_at hl 1 rfl) ?_
  refine lv_iconst (v := (nI 0)) hx hb dX3_run_2 (by decide) ?_
  refine lv_sipush (v := (nI 20000)) hx hb dX3_run_3 (by decide) ?_
  refine gc_go (pl := []) (S2 := SE) (ad := ad) (sg := sg0) (va_runS (As := [.int x1, .int (nI 0), .int (nI 20000)]) (rest := [.ref (ad 0)]) ⟨hx, hb, hml, hown, hts⟩ (m_X3_isIn l hl9 D cI cJ (fun j => ad (gw_p [] j)) (fun j => sg0 (gw_p [] j)) _ x1 (nI 0) (nI 20000) ) (cwS 3 hts (gwS a85 a86 a87 a88) rfl rfl rfl (by decide +kernel) ⟨by decide, by decide⟩) (gc_preS hK hP hD hS hA hE rfl) rfl rfl hl.1 rfl (lv_room (Nat.le_of_ble_eq_true rfl)) dX3_run_6 ⟨by decide, by decide⟩) hP hD hS hA rfl (fun v5 sp6 sg7 H locs hp8 ha9 hb10 hP hD hS => ?_)
  rw [show sg7 = sg0 from funext (fun k => hb10 k (by simp))] at hP hD
  rcases hp8 with ⟨rfl, hi1⟩ | ⟨rfl, hi1⟩
  · refine W.eq (g2 := F0 m 9 ls [.int (nI 1), .ref (ad 0)]) rfl ?_
    refine lv_if_eq (tgt := 16) hx hb dX3_run_9 (by decide) (fun hc11 => ?_) (fun hc11 => ?_)
    · exact absurd hc11 (by decide)
    · refine lv_iconst (v := (nI 0)) hx hb dX3_run_12 (by decide) ?_
      refine lv_goto (tgt := 17) hx hb dX3_run_13 (by decide) ?_
      refine gw_put (C := RX3) (T := TX3) (N := 27) (ty := .int) hx hb hts inwX3 tyX3 tyX3_ok nmX3 hown hK hP hD hS 0 0 rfl rfl rfl (by decide) (hts _ a82) (fun _ h9 => h9) rfl (by decide +kernel) rfl rfl dX3_run_17 (fun H locs hP hD hS => ?_)
      obtain ⟨sg12, esg12⟩ : ∃ z : Nat → Nat → Int32, z = gw_u sg0 0 (upd (sg0 0) 0 (nI 0)) := ⟨_, rfl⟩
      rw [← esg12] at hP hD
      have hk : ZSM sg12 := by rw [esg12]; exact hk.wf (by decide) _
      refine lv_aload_n hx hb dX3_run_20 rfl (lv_at hl 0 rfl) ?_
      refine gw_geti (C := RX3) (T := TX3) (N := 27) hx hb hts inwX3 hown hK hP 0 0 rfl rfl rfl (by decide) (hts _ a82) (fun _ h9 => h9) dX3_run_21 ?_
      refine gw_top (y := (nI 0)) (by simp [esg12, gw_u, upd]) ?_
      refine lv_if_le (tgt := 29) hx hb dX3_run_24 (by decide) (fun hc13 => ?_) (fun hc13 => ?_)
      · refine lv_aload_n hx hb dX3_run_29 rfl (lv_at hl 0 rfl) ?_
        refine lv_iload_n hx hb dX3_run_30 rfl (lv_at hl 1 rfl) ?_
        refine gc_go0 (va_runV (As := [.int x1]) (rest := []) ⟨hx, hb, hml, hown, hts⟩ (m_X3_seek l hl9 D cI cJ ad sg12 _ x1 hk) (cwV 1 hts (gwV a130 a131 a132 a87 a133) rfl rfl rfl (by decide +kernel) ⟨by decide, by decide⟩) (gc_preV0 hK hP hD hS hA hE rfl rfl rfl) rfl rfl hl.1 rfl (lv_room (Nat.le_of_ble_eq_true rfl)) dX3_run_31 ⟨by decide, by decide⟩) hD hS hA (fun v14 sg16 H locs hp17 hP hD hS => ?_)
        obtain ⟨rfl, hk, hs20, hs21, hs22, hs23⟩ := hp17
        refine W.eq (g2 := F0 m 34 ls []) rfl ?_
        refine lv_aload_n hx hb dX3_run_34 rfl (lv_at hl 0 rfl) ?_
        refine lv_iconst (v := (nI 1)) hx hb dX3_run_35 (by decide) ?_
        refine gw_put (C := RX3) (T := TX3) (N := 27) (ty := .boolean) hx hb hts inwX3 tyX3 tyX3_ok nmX3 hown hK hP hD hS 0 15 rfl rfl rfl (by decide) (hts _ a83) (fun _ h9 => h9) rfl (by decide +kernel) rfl rfl dX3_run_36 (fun H locs hP hD hS => ?_)
        obtain ⟨sg24, esg24⟩ : ∃ z : Nat → Nat → Int32, z = gw_u sg16 0 (upd (sg16 0) 15 (nI 1)) := ⟨_, rfl⟩
        rw [← esg24] at hP hD
        have hk : ZSM sg24 := by rw [esg24]; exact hk.wf (by decide) _
        refine lv_aload_n hx hb dX3_run_39 rfl (lv_at hl 0 rfl) ?_
        refine lv_aload_n hx hb dX3_run_40 rfl (lv_at hl 0 rfl) ?_
        refine gw_geti (C := RX3) (T := TX3) (N := 27) hx hb hts inwX3 hown hK hP 0 23 rfl rfl rfl (by decide) (hts _ a113) (fun _ h9 => h9) dX3_run_41 ?_
        refine gw_top (y := (nI 1)) (by simp [esg24, hs23, hs22, hs21, hs20, esg12, gw_u, upd]) ?_
        refine gw_put (C := RX3) (T := TX3) (N := 27) (ty := .boolean) hx hb hts inwX3 tyX3 tyX3_ok nmX3 hown hK hP hD hS 0 16 rfl rfl rfl (by decide) (hts _ a84) (fun _ h9 => h9) rfl (by decide +kernel) rfl rfl dX3_run_44 (fun H locs hP hD hS => ?_)
        obtain ⟨sg25, esg25⟩ : ∃ z : Nat → Nat → Int32, z = gw_u sg24 0 (upd (sg24 0) 16 (nI 1)) := ⟨_, rfl⟩
        rw [← esg25] at hP hD
        have hk : ZSM sg25 := by rw [esg25]; exact hk.wf (by decide) _
        refine lv_aload_n hx hb dX3_run_47 rfl (lv_at hl 0 rfl) ?_
        refine lv_aload_n hx hb dX3_run_48 rfl (lv_at hl 0 rfl) ?_
        refine gw_geti (C := RX3) (T := TX3) (N := 27) hx hb hts inwX3 hown hK hP 0 24 rfl rfl rfl (by decide) (hts _ a122) (fun _ h9 => h9) dX3_run_49 ?_
        refine gw_top (y := (nI 0)) (by simp [esg25, esg24, hs23, hs22, hs21, hs20, esg12, gw_u, upd]) ?_
        refine gw_put (C := RX3) (T := TX3) (N := 27) (ty := .boolean) hx hb hts inwX3 tyX3 tyX3_ok nmX3 hown hK hP hD hS 0 17 rfl rfl rfl (by decide) (hts _ a128) (fun _ h9 => h9) rfl (by decide +kernel) rfl rfl dX3_run_52 (fun H locs hP hD hS => ?_)
        obtain ⟨sg26, esg26⟩ : ∃ z : Nat → Nat → Int32, z = gw_u sg25 0 (upd (sg25 0) 17 (nI 0)) := ⟨_, rfl⟩
        rw [← esg26] at hP hD
        have hk : ZSM sg26 := by rw [esg26]; exact hk.wf (by decide) _
        refine lv_aload_n hx hb dX3_run_55 rfl (lv_at hl 0 rfl) ?_
        refine lv_aload_n hx hb dX3_run_56 rfl (lv_at hl 0 rfl) ?_
        refine gw_geti (C := RX3) (T := TX3) (N := 27) hx hb hts inwX3 hown hK hP 0 25 rfl rfl rfl (by decide) (hts _ a123) (fun _ h9 => h9) dX3_run_57 ?_
        refine lv_topi (fun v27 hv27 => ?_)
        refine gw_put (C := RX3) (T := TX3) (N := 27) (ty := .int) hx hb hts inwX3 tyX3 tyX3_ok nmX3 hown hK hP hD hS 0 18 rfl rfl rfl (by decide) (hts _ a134) (fun _ h9 => h9) rfl (by decide +kernel) rfl rfl dX3_run_60 (fun H locs hP hD hS => ?_)
        obtain ⟨sg28, esg28⟩ : ∃ z : Nat → Nat → Int32, z = gw_u sg26 0 (upd (sg26 0) 18 v27) := ⟨_, rfl⟩
        rw [← esg28] at hP hD
        have hk : ZSM sg28 := by rw [esg28]; exact hk.wf (by decide) _
        refine lv_aload_n hx hb dX3_run_63 rfl (lv_at hl 0 rfl) ?_
        refine lv_aload_n hx hb dX3_run_64 rfl (lv_at hl 0 rfl) ?_
        refine gw_geti (C := RX3) (T := TX3) (N := 27) hx hb hts inwX3 hown hK hP 0 26 rfl rfl rfl (by decide) (hts _ a114) (fun _ h9 => h9) dX3_run_65 ?_
        refine gw_top (y := (nI 0)) (by simp [esg28, esg26, esg25, esg24, hs23, hs22, hs21, hs20, esg12, gw_u, upd]) ?_
        refine gw_put (C := RX3) (T := TX3) (N := 27) (ty := .int) hx hb hts inwX3 tyX3 tyX3_ok nmX3 hown hK hP hD hS 0 20 rfl rfl rfl (by decide) (hts _ a135) (fun _ h9 => h9) rfl (by decide +kernel) rfl rfl dX3_run_68 (fun H locs hP hD hS => ?_)
        obtain ⟨sg29, esg29⟩ : ∃ z : Nat → Nat → Int32, z = gw_u sg28 0 (upd (sg28 0) 20 (nI 0)) := ⟨_, rfl⟩
        rw [← esg29] at hP hD
        have hk : ZSM sg29 := by rw [esg29]; exact hk.wf (by decide) _
        refine lv_iconst (v := (nI 0)) hx hb dX3_run_71 (by decide) ?_
        refine lv_istore_n (lv' := [(2, .int (nI 0)), (0, .ref (ad 0)), (1, .int x1)]) hx hb dX3_run_72 rfl hl (by decide) rfl (fun ls hl => ?_)
        exact c73 _ 0 _ _ _ _ rfl (by omega) hi1 (⟨hk, by simp [esg29, esg28, esg26, esg25, esg24, hs23, hs22, hs21, hs20, esg12, gw_u, upd], by simp [esg29, esg28, esg26, esg25, esg24, hs23, hs22, hs21, hs20, esg12, gw_u, upd], by simp [esg29, esg28, esg26, esg25, esg24, hs23, hs22, hs21, hs20, esg12, gw_u, upd]⟩) hP hD hS (lv_sub hl [0, 1, 2] rfl)
      · exact absurd hc13 (by decide)
  · refine W.eq (g2 := F0 m 9 ls [.int (nI 0), .ref (ad 0)]) rfl ?_
    refine lv_if_eq (tgt := 16) hx hb dX3_run_9 (by decide) (fun hc30 => ?_) (fun hc30 => ?_)
    · refine lv_iconst (v := (nI 1)) hx hb dX3_run_16 (by decide) ?_
      refine gw_put (C := RX3) (T := TX3) (N := 27) (ty := .int) hx hb hts inwX3 tyX3 tyX3_ok nmX3 hown hK hP hD hS 0 0 rfl rfl rfl (by decide) (hts _ a82) (fun _ h9 => h9) rfl (by decide +kernel) rfl rfl dX3_run_17 (fun H locs hP hD hS => ?_)
      obtain ⟨sg31, esg31⟩ : ∃ z : Nat → Nat → Int32, z = gw_u sg0 0 (upd (sg0 0) 0 (nI 1)) := ⟨_, rfl⟩
      rw [← esg31] at hP hD
      have hk : ZSM sg31 := by rw [esg31]; exact hk.wf (by decide) _
      refine lv_aload_n hx hb dX3_run_20 rfl (lv_at hl 0 rfl) ?_
      refine gw_geti (C := RX3) (T := TX3) (N := 27) hx hb hts inwX3 hown hK hP 0 0 rfl rfl rfl (by decide) (hts _ a82) (fun _ h9 => h9) dX3_run_21 ?_
      refine gw_top (y := (nI 1)) (by simp [esg31, gw_u, upd]) ?_
      refine lv_if_le (tgt := 29) hx hb dX3_run_24 (by decide) (fun hc32 => ?_) (fun hc32 => ?_)
      · exact absurd hc32 (by decide)
      · refine lv_iconst (v := (nI 0)) hx hb dX3_run_27 (by decide) ?_
        exact hret _ _ _ _ _ _ hP hS dX3_run_28 (⟨rfl, (show _ = (nI 1) from by simp [esg31, gw_u, upd]).trans (show _ = kRun x1 by simp [kRun, kif, hi1])⟩)
    · exact absurd hc30 (by decide)
abbrev rmX3_cost : Room := { frames := 3, cells := 0, slots := 0, locals := 69 }
set_option maxRecDepth 100000 in
set_option maxHeartbeats 4000000 in
theorem m_X3_cost (l : Launch) (hl9 : l.stackTraces = false) (D : va_G) (cI : ClassId) (cJ : ClassId × ClassId) (ad : Nat → Nat) (sg0 : Nat → Nat → Int32) (sz : Nat) (x1 : Int32) (x2 : Int32) (hF : ∀ k j : Nat, k < 13 → sg0 k j = fm k j) : gc_M l yX3_cost wsX3_cost rmX3_cost D vwCl (tyS cI cJ) cI cJ gxT gxN SM [.ref (ad 0), .int x1, .int x2] ad sg0 sz 0 0 (fun v sg2 => v = some (.int (nI 0)) ∧ sg2 0 0 = kCost x1 x2) := by
  refine gc_Mi_of (cc := cX3_cost) (maxL := 8) (by decide) rfl (Nat.le_of_ble_eq_true rfl) ?_
  intro p e s m below meth c A ls Q hin hE hret
  obtain ⟨⟨hx, hb, hml, hown, hts⟩, -, hlocks, -, hA, hP, hK, hD, hS, hl⟩ := hin
  have hts : ∀ w ∈ wsAll, w.before ([.ref (ad 0), .int x1, .int x2] : List Value).toArray s = true := fun w h => hts w (List.mem_cons_of_mem _ h)
  have hl : lv_has ls 8 [(0, .ref (ad 0)), (1, .int x1), (2, .int x2)] := hl
  have hk := zm_fresh hF
  refine lv_aload_n hx hb dX3_cost_0 rfl (lv_at hl 0 rfl) ?_
  refine lv_iload_n hx hb dX3_cost_1 rfl (lv_at hl 1 rfl) ?_
  refine lv_iconst (v := (nI 0)) hx hb dX3_cost_2 (by decide) ?_
  refine lv_iconst (v := (nI 3)) hx hb dX3_cost_3 (by decide) ?_
  refine gc_go (pl := []) (S2 := SE) (ad := ad) (sg := sg0) (va_runS (As := [.int x1, .int (nI 0), .int (nI 3)]) (rest := [.ref (ad 0)]) ⟨hx, hb, hml, hown, hts⟩ (m_X3_isIn l hl9 D cI cJ (fun j => ad (gw_p [] j)) (fun j => sg0 (gw_p [] j)) _ x1 (nI 0) (nI 3) ) (cwS 3 hts (gwS a85 a86 a87 a88) rfl rfl rfl (by decide +kernel) ⟨by decide, by decide⟩) (gc_preS hK hP hD hS hA hE rfl) rfl rfl hl.1 rfl (lv_room (Nat.le_of_ble_eq_true rfl)) dX3_cost_4 ⟨by decide, by decide⟩) hP hD hS hA rfl (fun v1 sp2 sg3 H locs hp4 ha5 hb6 hP hD hS => ?_)
  rw [show sg3 = sg0 from funext (fun k => hb6 k (by simp))] at hP hD
  rcases hp4 with ⟨rfl, hi1⟩ | ⟨rfl, hi1⟩
  · refine W.eq (g2 := F0 m 7 ls [.int (nI 1), .ref (ad 0)]) rfl ?_
    refine lv_if_ne (tgt := 14) hx hb dX3_cost_7 (by decide) (fun hc7 => ?_) (fun hc7 => ?_)
    · refine lv_iload_n hx hb dX3_cost_14 rfl (lv_at hl 2 rfl) ?_
      refine lv_iconst (v := (nI 0)) hx hb dX3_cost_15 (by decide) ?_
      refine lv_sipush (v := (nI 20000)) hx hb dX3_cost_16 (by decide) ?_
      refine gc_go (pl := []) (S2 := SE) (ad := ad) (sg := sg0) (va_runS (As := [.int x2, .int (nI 0), .int (nI 20000)]) (rest := [.ref (ad 0)]) ⟨hx, hb, hml, hown, hts⟩ (m_X3_isIn l hl9 D cI cJ (fun j => ad (gw_p [] j)) (fun j => sg0 (gw_p [] j)) _ x2 (nI 0) (nI 20000) ) (cwS 3 hts (gwS a85 a86 a87 a88) rfl rfl rfl (by decide +kernel) ⟨by decide, by decide⟩) (gc_preS hK hP hD hS hA hE rfl) rfl rfl hl.1 rfl (lv_room (Nat.le_of_ble_eq_true rfl)) dX3_cost_19 ⟨by decide, by decide⟩) hP hD hS hA rfl (fun v8 sp9 sg10 H locs hp11 ha12 hb13 hP hD hS => ?_)
      rw [show sg10 = sg0 from funext (fun k => hb13 k (by simp))] at hP hD
      rcases hp11 with ⟨rfl, hi2⟩ | ⟨rfl, hi2⟩
      · refine W.eq (g2 := F0 m 22 ls [.int (nI 1), .ref (ad 0)]) rfl ?_
        refine lv_if_ne (tgt := 29) hx hb dX3_cost_22 (by decide) (fun hc14 => ?_) (fun hc14 => ?_)
        · refine lv_iconst (v := (nI 0)) hx hb dX3_cost_29 (by decide) ?_
          refine gw_put (C := RX3) (T := TX3) (N := 27) (ty := .int) hx hb hts inwX3 tyX3 tyX3_ok nmX3 hown hK hP hD hS 0 0 rfl rfl rfl (by decide) (hts _ a82) (fun _ h9 => h9) rfl (by decide +kernel) rfl rfl dX3_cost_30 (fun H locs hP hD hS => ?_)
          obtain ⟨sg15, esg15⟩ : ∃ z : Nat → Nat → Int32, z = gw_u sg0 0 (upd (sg0 0) 0 (nI 0)) := ⟨_, rfl⟩
          rw [← esg15] at hP hD
          have hk : ZSM sg15 := by rw [esg15]; exact hk.wf (by decide) _
          refine lv_aload_n hx hb dX3_cost_33 rfl (lv_at hl 0 rfl) ?_
          refine gw_geti (C := RX3) (T := TX3) (N := 27) hx hb hts inwX3 hown hK hP 0 0 rfl rfl rfl (by decide) (hts _ a82) (fun _ h9 => h9) dX3_cost_34 ?_
          refine gw_top (y := (nI 0)) (by simp [esg15, gw_u, upd]) ?_
          refine lv_if_le (tgt := 42) hx hb dX3_cost_37 (by decide) (fun hc16 => ?_) (fun hc16 => ?_)
          · have hk9 : kCost x1 x2 = nI 0 := by simp [kCost, kif, hi1, hi2]
            obtain ⟨j1, hj1, rfl⟩ := inof3 hi1
            refine lv_aload_n hx hb dX3_cost_42 rfl (lv_at hl 0 rfl) ?_
            refine lv_iload_n hx hb dX3_cost_43 rfl (lv_at hl 2 rfl) ?_
            refine gc_go0 (va_runV (As := [.int x2]) (rest := []) ⟨hx, hb, hml, hown, hts⟩ (m_X3_seek l hl9 D cI cJ ad sg15 _ x2 hk) (cwV 1 hts (gwV a130 a131 a132 a87 a133) rfl rfl rfl (by decide +kernel) ⟨by decide, by decide⟩) (gc_preV0 hK hP hD hS hA hE rfl rfl rfl) rfl rfl hl.1 rfl (lv_room (Nat.le_of_ble_eq_true rfl)) dX3_cost_44 ⟨by decide, by decide⟩) hD hS hA (fun v17 sg19 H locs hp20 hP hD hS => ?_)
            obtain ⟨rfl, hk, hs23, hs24, hs25, hs26⟩ := hp20
            refine W.eq (g2 := F0 m 47 ls []) rfl ?_
            refine lv_aload_n hx hb dX3_cost_47 rfl (lv_at hl 0 rfl) ?_
            refine gw_geti (C := RX3) (T := TX3) (N := 27) hx hb hts inwX3 hown hK hP 0 23 rfl rfl rfl (by decide) (hts _ a113) (fun _ h9 => h9) dX3_cost_48 ?_
            refine gw_top (y := (nI 1)) (by simp [hs26, hs25, hs24, hs23, esg15, gw_u, upd]) ?_
            refine lv_istore_n (lv' := [(3, .int (nI 1)), (0, .ref (ad 0)), (1, .int (nI j1)), (2, .int x2)]) hx hb dX3_cost_51 rfl hl (by decide) rfl (fun ls hl => ?_)
            refine lv_aload_n hx hb dX3_cost_52 rfl (lv_at hl 1 rfl) ?_
            refine gw_geti (C := RX3) (T := TX3) (N := 27) hx hb hts inwX3 hown hK hP 0 26 rfl rfl rfl (by decide) (hts _ a114) (fun _ h9 => h9) dX3_cost_53 ?_
            refine gw_top (y := (nI 0)) (by simp [hs26, hs25, hs24, hs23, esg15, gw_u, upd]) ?_
            refine lv_istore (lv' := [(4, .int (nI 0)), (3, .int (nI 1)), (0, .ref (ad 0)), (1, .int (nI j1)), (2, .int x2)]) hx hb dX3_cost_56 hl (by decide) rfl (fun ls hl => ?_)
            refine lv_aload_n hx hb dX3_cost_58 rfl (lv_at hl 2 rfl) ?_
            refine gw_getr (C := RX3) (T := TX3) (N := 27) hx hb hts inwX3 hown hK hP 0 9 8 rfl rfl rfl (by decide) (hts _ a105) (fun _ h9 => h9) dX3_cost_59 ?_
            refine lv_iload_n hx hb dX3_cost_62 rfl (lv_at hl 3 rfl) ?_
            refine gw_ald hx hb hK hP 8 0 (n := 4) rfl rfl (i := j1) (by omega) (by decide) dX3_cost_63 ?_
            refine gw_top (y := (nI 0)) (hk.1 8 (by decide) (by decide) _) ?_
            refine lv_istore (lv' := [(5, .int (nI 0)), (4, .int (nI 0)), (3, .int (nI 1)), (0, .ref (ad 0)), (1, .int (nI j1)), (2, .int x2)]) hx hb dX3_cost_64 hl (by decide) rfl (fun ls hl => ?_)
            refine lv_aload_n hx hb dX3_cost_66 rfl (lv_at hl 3 rfl) ?_
            refine gw_getr (C := RX3) (T := TX3) (N := 27) hx hb hts inwX3 hown hK hP 0 7 6 rfl rfl rfl (by decide) (hts _ a103) (fun _ h9 => h9) dX3_cost_67 ?_
            refine lv_iload_n hx hb dX3_cost_70 rfl (lv_at hl 4 rfl) ?_
            refine gw_ald hx hb hK hP 6 0 (n := 4) rfl rfl (i := j1) (by omega) (by decide) dX3_cost_71 ?_
            refine gw_top (y := (nI 0)) (hk.1 6 (by decide) (by decide) _) ?_
            refine lv_istore (lv' := [(6, .int (nI 0)), (5, .int (nI 0)), (4, .int (nI 0)), (3, .int (nI 1)), (0, .ref (ad 0)), (1, .int (nI j1)), (2, .int x2)]) hx hb dX3_cost_72 hl (by decide) rfl (fun ls hl => ?_)
            refine lv_aload_n hx hb dX3_cost_74 rfl (lv_at hl 4 rfl) ?_
            refine gw_getr (C := RX3) (T := TX3) (N := 27) hx hb hts inwX3 hown hK hP 0 8 7 rfl rfl rfl (by decide) (hts _ a104) (fun _ h9 => h9) dX3_cost_75 ?_
            refine lv_iload_n hx hb dX3_cost_78 rfl (lv_at hl 5 rfl) ?_
            refine gw_ald hx hb hK hP 7 0 (n := 4) rfl rfl (i := j1) (by omega) (by decide) dX3_cost_79 ?_
            refine gw_top (y := (nI 0)) (hk.1 7 (by decide) (by decide) _) ?_
            refine lv_istore (lv' := [(7, .int (nI 0)), (6, .int (nI 0)), (5, .int (nI 0)), (4, .int (nI 0)), (3, .int (nI 1)), (0, .ref (ad 0)), (1, .int (nI j1)), (2, .int x2)]) hx hb dX3_cost_80 hl (by decide) rfl (fun ls hl => ?_)
            refine lv_aload_n hx hb dX3_cost_82 rfl (lv_at hl 5 rfl) ?_
            refine gw_getr (C := RX3) (T := TX3) (N := 27) hx hb hts inwX3 hown hK hP 0 9 8 rfl rfl rfl (by decide) (hts _ a105) (fun _ h9 => h9) dX3_cost_83 ?_
            refine lv_iload_n hx hb dX3_cost_86 rfl (lv_at hl 6 rfl) ?_
            refine lv_iconst (v := (nI 0)) hx hb dX3_cost_87 (by decide) ?_
            refine gw_ast hx hb hK hP hD hS 8 0 (n := 4) rfl rfl (i := j1) (by omega) (by decide) dX3_cost_88 (fun H locs hP hD hS => ?_)
            obtain ⟨sg27, esg27⟩ : ∃ z : Nat → Nat → Int32, z = gw_u sg19 8 (upd (sg19 8) j1 (nI 0)) := ⟨_, rfl⟩
            rw [← esg27] at hP hD
            have hk : ZSM sg27 := by rw [esg27]; exact hk.wa 8 (by decide) _
            refine lv_aload_n hx hb dX3_cost_89 rfl (lv_at hl 5 rfl) ?_
            refine gw_getr (C := RX3) (T := TX3) (N := 27) hx hb hts inwX3 hown hK hP 0 7 6 rfl rfl rfl (by decide) (hts _ a103) (fun _ h9 => h9) dX3_cost_90 ?_
            refine lv_iload_n hx hb dX3_cost_93 rfl (lv_at hl 6 rfl) ?_
            refine lv_iconst (v := (nI 0)) hx hb dX3_cost_94 (by decide) ?_
            refine gw_ast hx hb hK hP hD hS 6 0 (n := 4) rfl rfl (i := j1) (by omega) (by decide) dX3_cost_95 (fun H locs hP hD hS => ?_)
            obtain ⟨sg28, esg28⟩ : ∃ z : Nat → Nat → Int32, z = gw_u sg27 6 (upd (sg27 6) j1 (nI 0)) := ⟨_, rfl⟩
            rw [← esg28] at hP hD
            have hk : ZSM sg28 := by rw [esg28]; exact hk.wa 6 (by decide) _
            refine lv_aload_n hx hb dX3_cost_96 rfl (lv_at hl 5 rfl) ?_
            refine gw_getr (C := RX3) (T := TX3) (N := 27) hx hb hts inwX3 hown hK hP 0 8 7 rfl rfl rfl (by decide) (hts _ a104) (fun _ h9 => h9) dX3_cost_97 ?_
            refine lv_iload_n hx hb dX3_cost_100 rfl (lv_at hl 6 rfl) ?_
            refine lv_iconst (v := (nI 0)) hx hb dX3_cost_101 (by decide) ?_
            refine gw_ast hx hb hK hP hD hS 7 0 (n := 4) rfl rfl (i := j1) (by omega) (by decide) dX3_cost_102 (fun H locs hP hD hS => ?_)
            obtain ⟨sg29, esg29⟩ : ∃ z : Nat → Nat → Int32, z = gw_u sg28 7 (upd (sg28 7) j1 (nI 0)) := ⟨_, rfl⟩
            rw [← esg29] at hP hD
            have hk : ZSM sg29 := by rw [esg29]; exact hk.wa 7 (by decide) _
            refine lv_aload_n hx hb dX3_cost_103 rfl (lv_at hl 5 rfl) ?_
            refine lv_iload_n hx hb dX3_cost_104 rfl (lv_at hl 7 rfl) ?_
            refine gc_go0 (va_runV (As := [.int x2]) (rest := []) ⟨hx, hb, hml, hown, hts⟩ (m_X3_seek l hl9 D cI cJ ad sg29 _ x2 hk) (cwV 1 hts (gwV a130 a131 a132 a87 a133) rfl rfl rfl (by decide +kernel) ⟨by decide, by decide⟩) (gc_preV0 hK hP hD hS hA hE rfl rfl rfl) rfl rfl hl.1 rfl (lv_room (Nat.le_of_ble_eq_true rfl)) dX3_cost_105 ⟨by decide, by decide⟩) hD hS hA (fun v30 sg32 H locs hp33 hP hD hS => ?_)
            obtain ⟨rfl, hk, hs36, hs37, hs38, hs39⟩ := hp33
            refine W.eq (g2 := F0 m 108 ls []) rfl ?_
            refine lv_aload_n hx hb dX3_cost_108 rfl (lv_at hl 5 rfl) ?_
            refine gw_getr (C := RX3) (T := TX3) (N := 27) hx hb hts inwX3 hown hK hP 0 9 8 rfl rfl rfl (by decide) (hts _ a105) (fun _ h9 => h9) dX3_cost_109 ?_
            refine lv_iload_n hx hb dX3_cost_112 rfl (lv_at hl 6 rfl) ?_
            refine lv_iload hx hb dX3_cost_113 (lv_at hl 2 rfl) ?_
            refine gw_ast hx hb hK hP hD hS 8 0 (n := 4) rfl rfl (i := j1) (by omega) (by decide) dX3_cost_115 (fun H locs hP hD hS => ?_)
            obtain ⟨sg40, esg40⟩ : ∃ z : Nat → Nat → Int32, z = gw_u sg32 8 (upd (sg32 8) j1 (nI 0)) := ⟨_, rfl⟩
            rw [← esg40] at hP hD
            have hk : ZSM sg40 := by rw [esg40]; exact hk.wa 8 (by decide) _
            refine lv_aload_n hx hb dX3_cost_116 rfl (lv_at hl 5 rfl) ?_
            refine gw_getr (C := RX3) (T := TX3) (N := 27) hx hb hts inwX3 hown hK hP 0 7 6 rfl rfl rfl (by decide) (hts _ a103) (fun _ h9 => h9) dX3_cost_117 ?_
            refine lv_iload_n hx hb dX3_cost_120 rfl (lv_at hl 6 rfl) ?_
            refine lv_iload hx hb dX3_cost_121 (lv_at hl 1 rfl) ?_
            refine gw_ast hx hb hK hP hD hS 6 0 (n := 4) rfl rfl (i := j1) (by omega) (by decide) dX3_cost_123 (fun H locs hP hD hS => ?_)
            obtain ⟨sg41, esg41⟩ : ∃ z : Nat → Nat → Int32, z = gw_u sg40 6 (upd (sg40 6) j1 (nI 0)) := ⟨_, rfl⟩
            rw [← esg41] at hP hD
            have hk : ZSM sg41 := by rw [esg41]; exact hk.wa 6 (by decide) _
            refine lv_aload_n hx hb dX3_cost_124 rfl (lv_at hl 5 rfl) ?_
            refine gw_getr (C := RX3) (T := TX3) (N := 27) hx hb hts inwX3 hown hK hP 0 8 7 rfl rfl rfl (by decide) (hts _ a104) (fun _ h9 => h9) dX3_cost_125 ?_
            refine lv_iload_n hx hb dX3_cost_128 rfl (lv_at hl 6 rfl) ?_
            refine lv_iload hx hb dX3_cost_129 (lv_at hl 0 rfl) ?_
            refine gw_ast hx hb hK hP hD hS 7 0 (n := 4) rfl rfl (i := j1) (by omega) (by decide) dX3_cost_131 (fun H locs hP hD hS => ?_)
            obtain ⟨sg42, esg42⟩ : ∃ z : Nat → Nat → Int32, z = gw_u sg41 7 (upd (sg41 7) j1 (nI 0)) := ⟨_, rfl⟩
            rw [← esg42] at hP hD
            have hk : ZSM sg42 := by rw [esg42]; exact hk.wa 7 (by decide) _
            refine lv_iload_n hx hb dX3_cost_132 rfl (lv_at hl 4 rfl) ?_
            refine lv_if_eq (tgt := 143) hx hb dX3_cost_133 (by decide) (fun hc43 => ?_) (fun hc43 => ?_)
            · exact absurd hc43 (by decide)
            · refine lv_aload_n hx hb dX3_cost_136 rfl (lv_at hl 5 rfl) ?_
              refine gw_geti (C := RX3) (T := TX3) (N := 27) hx hb hts inwX3 hown hK hP 0 23 rfl rfl rfl (by decide) (hts _ a113) (fun _ h9 => h9) dX3_cost_137 ?_
              refine gw_top (y := (nI 1)) (by simp [esg42, esg41, esg40, hs39, hs38, hs37, hs36, esg29, esg28, esg27, hs26, hs25, hs24, hs23, esg15, gw_u, upd]) ?_
              refine lv_if_ne (tgt := 150) hx hb dX3_cost_140 (by decide) (fun hc44 => ?_) (fun hc44 => ?_)
              · refine lv_iload hx hb dX3_cost_150 (lv_at hl 3 rfl) ?_
                refine lv_aload_n hx hb dX3_cost_152 rfl (lv_at hl 5 rfl) ?_
                refine gw_geti (C := RX3) (T := TX3) (N := 27) hx hb hts inwX3 hown hK hP 0 26 rfl rfl rfl (by decide) (hts _ a114) (fun _ h9 => h9) dX3_cost_153 ?_
                refine gw_top (y := (nI 0)) (by simp [esg42, esg41, esg40, hs39, hs38, hs37, hs36, esg29, esg28, esg27, hs26, hs25, hs24, hs23, esg15, gw_u, upd]) ?_
                refine lv_isub hx hb dX3_cost_156 ?_
                refine gw_top (y := (nI 0)) (by decide) ?_
                exact hret _ _ _ _ _ _ hP hS dX3_cost_157 (⟨rfl, (show _ = (nI 0) from by simp [esg42, esg41, esg40, hs39, hs38, hs37, hs36, esg29, esg28, esg27, hs26, hs25, hs24, hs23, esg15, gw_u, upd]).trans hk9.symm⟩)
              · exact absurd hc44 (by decide)
          · exact absurd hc16 (by decide)
        · exact absurd hc14 (by decide)
      · refine W.eq (g2 := F0 m 22 ls [.int (nI 0), .ref (ad 0)]) rfl ?_
        refine lv_if_ne (tgt := 29) hx hb dX3_cost_22 (by decide) (fun hc45 => ?_) (fun hc45 => ?_)
        · exact absurd hc45 (by decide)
        · refine lv_iconst (v := (nI 2)) hx hb dX3_cost_25 (by decide) ?_
          refine lv_goto (tgt := 30) hx hb dX3_cost_26 (by decide) ?_
          refine gw_put (C := RX3) (T := TX3) (N := 27) (ty := .int) hx hb hts inwX3 tyX3 tyX3_ok nmX3 hown hK hP hD hS 0 0 rfl rfl rfl (by decide) (hts _ a82) (fun _ h9 => h9) rfl (by decide +kernel) rfl rfl dX3_cost_30 (fun H locs hP hD hS => ?_)
          obtain ⟨sg46, esg46⟩ : ∃ z : Nat → Nat → Int32, z = gw_u sg0 0 (upd (sg0 0) 0 (nI 2)) := ⟨_, rfl⟩
          rw [← esg46] at hP hD
          have hk : ZSM sg46 := by rw [esg46]; exact hk.wf (by decide) _
          refine lv_aload_n hx hb dX3_cost_33 rfl (lv_at hl 0 rfl) ?_
          refine gw_geti (C := RX3) (T := TX3) (N := 27) hx hb hts inwX3 hown hK hP 0 0 rfl rfl rfl (by decide) (hts _ a82) (fun _ h9 => h9) dX3_cost_34 ?_
          refine gw_top (y := (nI 2)) (by simp [esg46, gw_u, upd]) ?_
          refine lv_if_le (tgt := 42) hx hb dX3_cost_37 (by decide) (fun hc47 => ?_) (fun hc47 => ?_)
          · exact absurd hc47 (by decide)
          · refine lv_iconst (v := (nI 0)) hx hb dX3_cost_40 (by decide) ?_
            exact hret _ _ _ _ _ _ hP hS dX3_cost_41 (⟨rfl, (show _ = (nI 2) from by simp [esg46, gw_u, upd]).trans (show _ = kCost x1 x2 by simp [kCost, kif, hi1, hi2])⟩)
    · exact absurd hc7 (by decide)
  · refine W.eq (g2 := F0 m 7 ls [.int (nI 0), .ref (ad 0)]) rfl ?_
    refine lv_if_ne (tgt := 14) hx hb dX3_cost_7 (by decide) (fun hc48 => ?_) (fun hc48 => ?_)
    · exact absurd hc48 (by decide)
    · refine lv_iconst (v := (nI 1)) hx hb dX3_cost_10 (by decide) ?_
      refine lv_goto (tgt := 30) hx hb dX3_cost_11 (by decide) ?_
      refine gw_put (C := RX3) (T := TX3) (N := 27) (ty := .int) hx hb hts inwX3 tyX3 tyX3_ok nmX3 hown hK hP hD hS 0 0 rfl rfl rfl (by decide) (hts _ a82) (fun _ h9 => h9) rfl (by decide +kernel) rfl rfl dX3_cost_30 (fun H locs hP hD hS => ?_)
      obtain ⟨sg49, esg49⟩ : ∃ z : Nat → Nat → Int32, z = gw_u sg0 0 (upd (sg0 0) 0 (nI 1)) := ⟨_, rfl⟩
      rw [← esg49] at hP hD
      have hk : ZSM sg49 := by rw [esg49]; exact hk.wf (by decide) _
      refine lv_aload_n hx hb dX3_cost_33 rfl (lv_at hl 0 rfl) ?_
      refine gw_geti (C := RX3) (T := TX3) (N := 27) hx hb hts inwX3 hown hK hP 0 0 rfl rfl rfl (by decide) (hts _ a82) (fun _ h9 => h9) dX3_cost_34 ?_
      refine gw_top (y := (nI 1)) (by simp [esg49, gw_u, upd]) ?_
      refine lv_if_le (tgt := 42) hx hb dX3_cost_37 (by decide) (fun hc50 => ?_) (fun hc50 => ?_)
      · exact absurd hc50 (by decide)
      · refine lv_iconst (v := (nI 0)) hx hb dX3_cost_40 (by decide) ?_
        exact hret _ _ _ _ _ _ hP hS dX3_cost_41 (⟨rfl, (show _ = (nI 1) from by simp [esg49, gw_u, upd]).trans (show _ = kCost x1 x2 by simp [kCost, kif, hi1])⟩)
