abbrev rmX2_needIndex : Room := { frames := 6, cells := 1, slots := 6, locals := 82 }
set_option maxRecDepth 100000 in
set_option maxHeartbeats 4000000 in
theorem m_X2_needIndex (l : Launch) (hl9 : l.stackTraces = false) (D : va_G) (cI : ClassId) (cJ : ClassId × ClassId) (ad : Nat → Nat) (sg0 : Nat → Nat → Int32) (sz : Nat) (x0 : Int32) (x1 : Int32) : gc_B l yX2_needIndex wsX2_needIndex rmX2_needIndex D vwCl (tyS cI cJ) cI cJ gxT gxN SE [.int x0, .int x1] ad sg0 sz 1 6 (fun v sg2 => v = none ∧ inX x0 x1) (fun E sg2 => E = "java/lang/IndexOutOfBoundsException" ∧ ¬ inX x0 x1) := by
  refine gc_Bv_of (cc := cX2_needIndex) (maxL := 2) (by decide) rfl (Nat.le_of_ble_eq_true rfl) ?_
  intro p e s m below meth c A ls Q hin hE hret kt kx
  obtain ⟨⟨hx, hb, hml, hown, hts⟩, -, hlocks, -, hA, hP, hK, hD, hS, hl⟩ := hin
  have hts : ∀ w ∈ wsAll, w.before ([.int x0, .int x1] : List Value).toArray s = true := fun w h => hts w (List.mem_cons_of_mem _ h)
  have hl : lv_has ls 2 [(0, .int x0), (1, .int x1)] := hl
  refine lv_iload_n hx hb dX2_needIndex_0 rfl (lv_at hl 0 rfl) ?_
  refine lv_if_lt (tgt := 9) hx hb dX2_needIndex_1 (by decide) (fun h1 => ?_) (fun h1 => ?_)
  · obtain ⟨sa9, hstr⟩ := hE.2.2.1 (RX2, 145, "there is no such number") (by decide)
    exact kx "java/lang/IndexOutOfBoundsException" "there is no such number" ["java/lang/RuntimeException", "java/lang/Exception"] 143 145 147 sa9 _ _ _ _ _ 9 ls hl9 (by decide) (by decide) (hts _ a0) (hts _ a1) hstr (vx_hat (B := .castable "java/lang/IndexOutOfBoundsException" "java/lang/IndexOutOfBoundsException" :: vxD) (fun w hw => hts w (vxg_147 w hw)) vxb_147 (vx_c (hE.nest _ (.castable "java/lang/IndexOutOfBoundsException" "java/lang/IndexOutOfBoundsException") (by decide) rfl) (fun w hw => hE.nest _ w (vxDN w hw) (vxDT w hw)))) (by decide +kernel) (hl.1.trans hml.symm) dX2_needIndex_9 dX2_needIndex_12 dX2_needIndex_13 dX2_needIndex_15 dX2_needIndex_18 (by decide) (by decide) (by decide) (by decide) (by decide) (by decide) (show _ = _ ∧ _ from ⟨rfl, by first | exact fun q => q.1 h1 | exact fun q => h6 q.2⟩) hP hS
  · refine lv_iload_n hx hb dX2_needIndex_4 rfl (lv_at hl 0 rfl) ?_
    refine lv_iload_n hx hb dX2_needIndex_5 rfl (lv_at hl 1 rfl) ?_
    refine lv_icmp_lt (tgt := 19) hx hb dX2_needIndex_6 (by decide) (fun h6 => ?_) (fun h6 => ?_)
    · refine W.widen (k := 1) (n := 6) (by decide) (by decide) ?_
      exact hret _ _ _ _ _ hP hS dX2_needIndex_19 (⟨rfl, h1, h6⟩)
    · obtain ⟨sa9, hstr⟩ := hE.2.2.1 (RX2, 145, "there is no such number") (by decide)
      exact kx "java/lang/IndexOutOfBoundsException" "there is no such number" ["java/lang/RuntimeException", "java/lang/Exception"] 143 145 147 sa9 _ _ _ _ _ 9 ls hl9 (by decide) (by decide) (hts _ a0) (hts _ a1) hstr (vx_hat (B := .castable "java/lang/IndexOutOfBoundsException" "java/lang/IndexOutOfBoundsException" :: vxD) (fun w hw => hts w (vxg_147 w hw)) vxb_147 (vx_c (hE.nest _ (.castable "java/lang/IndexOutOfBoundsException" "java/lang/IndexOutOfBoundsException") (by decide) rfl) (fun w hw => hE.nest _ w (vxDN w hw) (vxDT w hw)))) (by decide +kernel) (hl.1.trans hml.symm) dX2_needIndex_9 dX2_needIndex_12 dX2_needIndex_13 dX2_needIndex_15 dX2_needIndex_18 (by decide) (by decide) (by decide) (by decide) (by decide) (by decide) (show _ = _ ∧ _ from ⟨rfl, by first | exact fun q => q.1 h1 | exact fun q => h6 q.2⟩) hP hS
abbrev rmX2_needRange : Room := { frames := 6, cells := 1, slots := 6, locals := 82 }
set_option maxRecDepth 100000 in
set_option maxHeartbeats 4000000 in
theorem m_X2_needRange (l : Launch) (hl9 : l.stackTraces = false) (D : va_G) (cI : ClassId) (cJ : ClassId × ClassId) (ad : Nat → Nat) (sg0 : Nat → Nat → Int32) (sz : Nat) (x0 : Int32) (x1 : Int32) (x2 : Int32) : gc_B l yX2_needRange wsX2_needRange rmX2_needRange D vwCl (tyS cI cJ) cI cJ gxT gxN SE [.int x0, .int x1, .int x2] ad sg0 sz 1 6 (fun v sg2 => v = none ∧ inR x0 x1 x2) (fun E sg2 => E = "java/lang/IllegalArgumentException" ∧ ¬ inR x0 x1 x2) := by
  refine gc_Bv_of (cc := cX2_needRange) (maxL := 3) (by decide) rfl (Nat.le_of_ble_eq_true rfl) ?_
  intro p e s m below meth c A ls Q hin hE hret kt kx
  obtain ⟨⟨hx, hb, hml, hown, hts⟩, -, hlocks, -, hA, hP, hK, hD, hS, hl⟩ := hin
  have hts : ∀ w ∈ wsAll, w.before ([.int x0, .int x1, .int x2] : List Value).toArray s = true := fun w h => hts w (List.mem_cons_of_mem _ h)
  have hl : lv_has ls 3 [(0, .int x0), (1, .int x1), (2, .int x2)] := hl
  refine lv_iload_n hx hb dX2_needRange_0 rfl (lv_at hl 0 rfl) ?_
  refine lv_iload_n hx hb dX2_needRange_1 rfl (lv_at hl 1 rfl) ?_
  refine lv_icmp_lt (tgt := 10) hx hb dX2_needRange_2 (by decide) (fun h1 => ?_) (fun h1 => ?_)
  · obtain ⟨sa9, hstr⟩ := hE.2.2.1 (RX2, 150, "a number is out of its range") (by decide)
    exact kx "java/lang/IllegalArgumentException" "a number is out of its range" ["java/lang/RuntimeException", "java/lang/Exception"] 148 150 152 sa9 _ _ _ _ _ 10 ls hl9 (by decide) (by decide) (hts _ a2) (hts _ a3) hstr (vx_hat (B := .castable "java/lang/IllegalArgumentException" "java/lang/IllegalArgumentException" :: vxD) (fun w hw => hts w (vxg_152 w hw)) vxb_152 (vx_c (hE.nest _ (.castable "java/lang/IllegalArgumentException" "java/lang/IllegalArgumentException") (by decide) rfl) (fun w hw => hE.nest _ w (vxDN w hw) (vxDT w hw)))) (by decide +kernel) (hl.1.trans hml.symm) dX2_needRange_10 dX2_needRange_13 dX2_needRange_14 dX2_needRange_16 dX2_needRange_19 (by decide) (by decide) (by decide) (by decide) (by decide) (by decide) (show _ = _ ∧ _ from ⟨rfl, by first | exact fun q => q.1 h1 | exact fun q => h6 (i_nlt.mp q.2)⟩) hP hS
  · refine lv_iload_n hx hb dX2_needRange_5 rfl (lv_at hl 0 rfl) ?_
    refine lv_iload_n hx hb dX2_needRange_6 rfl (lv_at hl 2 rfl) ?_
    refine lv_icmp_le (tgt := 20) hx hb dX2_needRange_7 (by decide) (fun h6 => ?_) (fun h6 => ?_)
    · refine W.widen (k := 1) (n := 6) (by decide) (by decide) ?_
      exact hret _ _ _ _ _ hP hS dX2_needRange_20 (⟨rfl, h1, i_nlt.mpr h6⟩)
    · obtain ⟨sa9, hstr⟩ := hE.2.2.1 (RX2, 150, "a number is out of its range") (by decide)
      exact kx "java/lang/IllegalArgumentException" "a number is out of its range" ["java/lang/RuntimeException", "java/lang/Exception"] 148 150 152 sa9 _ _ _ _ _ 10 ls hl9 (by decide) (by decide) (hts _ a2) (hts _ a3) hstr (vx_hat (B := .castable "java/lang/IllegalArgumentException" "java/lang/IllegalArgumentException" :: vxD) (fun w hw => hts w (vxg_152 w hw)) vxb_152 (vx_c (hE.nest _ (.castable "java/lang/IllegalArgumentException" "java/lang/IllegalArgumentException") (by decide) rfl) (fun w hw => hE.nest _ w (vxDN w hw) (vxDT w hw)))) (by decide +kernel) (hl.1.trans hml.symm) dX2_needRange_10 dX2_needRange_13 dX2_needRange_14 dX2_needRange_16 dX2_needRange_19 (by decide) (by decide) (by decide) (by decide) (by decide) (by decide) (show _ = _ ∧ _ from ⟨rfl, by first | exact fun q => q.1 h1 | exact fun q => h6 (i_nlt.mp q.2)⟩) hP hS
abbrev rmX2_needBest : Room := { frames := 6, cells := 1, slots := 6, locals := 82 }
set_option maxRecDepth 100000 in
set_option maxHeartbeats 4000000 in
theorem m_X2_needBest (l : Launch) (hl9 : l.stackTraces = false) (D : va_G) (cI : ClassId) (cJ : ClassId × ClassId) (ad : Nat → Nat) (sg0 : Nat → Nat → Int32) (sz : Nat) : gc_B l yX2_needBest wsX2_needBest rmX2_needBest D vwCl (tyS cI cJ) cI cJ gxT gxN SS [.ref (ad 0)] ad sg0 sz 1 6 (fun v sg2 => v = none ∧ sg2 = sg0 ∧ ¬ sg0 0 12 = 0) (fun E sg2 => E = "java/lang/IllegalStateException" ∧ sg2 = sg0 ∧ sg0 0 12 = 0) := by
  refine gc_Bv_of (cc := cX2_needBest) (maxL := 1) (by decide) rfl (Nat.le_of_ble_eq_true rfl) ?_
  intro p e s m below meth c A ls Q hin hE hret kt kx
  obtain ⟨⟨hx, hb, hml, hown, hts⟩, -, hlocks, -, hA, hP, hK, hD, hS, hl⟩ := hin
  have hts : ∀ w ∈ wsAll, w.before ([.ref (ad 0)] : List Value).toArray s = true := fun w h => hts w (List.mem_cons_of_mem _ h)
  have hl : lv_has ls 1 [(0, .ref (ad 0))] := hl
  refine lv_aload_n hx hb dX2_needBest_0 rfl (lv_at hl 0 rfl) ?_
  refine gw_getiN (C := RX0) (T := TX0) (N := 15) hx hb hts inwX0 hown hK hP 0 12 rfl rfl rfl (by decide) (hE.nest _ (.fieldLinkNest RX2 93 RX0 "found" "Z" RX2) (by decide +kernel) rfl) (fun _ h9 => h9) dX2_needBest_1 ?_
  refine lv_topi (fun v1 hv1 => ?_)
  refine lv_if_ne (tgt := 17) hx hb dX2_needBest_4 (by decide) (fun h1 => ?_) (fun h1 => ?_)
  · refine W.widen (k := 1) (n := 6) (by decide) (by decide) ?_
    exact hret _ _ _ _ _ hP hS dX2_needBest_17 (⟨rfl, rfl, by rw [← hv1]; exact h1⟩)
  · obtain ⟨sa9, hstr⟩ := hE.2.2.1 (RX2, 153, "there is no best plan") (by decide)
    exact kx "java/lang/IllegalStateException" "there is no best plan" ["java/lang/RuntimeException", "java/lang/Exception"] 51 153 55 sa9 _ _ _ _ _ 7 ls hl9 (by decide) (by decide) (hts _ a4) (hts _ a5) hstr (vx_hat (B := .castable "java/lang/IllegalStateException" "java/lang/IllegalStateException" :: vxD) (fun w hw => hts w (vxg_55 w hw)) vxb_55 (vx_c (hE.nest _ (.castable "java/lang/IllegalStateException" "java/lang/IllegalStateException") (by decide) rfl) (fun w hw => hE.nest _ w (vxDN w hw) (vxDT w hw)))) (by decide +kernel) (hl.1.trans hml.symm) dX2_needBest_7 dX2_needBest_10 dX2_needBest_11 dX2_needBest_13 dX2_needBest_16 (by decide) (by decide) (by decide) (by decide) (by decide) (by decide) (show _ = _ ∧ _ from ⟨rfl, rfl, by rw [← hv1]; exact h1⟩) hP hS
