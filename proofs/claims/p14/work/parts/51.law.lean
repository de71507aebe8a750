set_option maxRecDepth 100000 in
set_option maxHeartbeats 4000000 in
theorem law_out {p : Program} {e : Env} {s : State} {m : MethodId} {below : List Frame} {meth : Method} {c : Code} (l : Launch) (hl9 : l.stackTraces = false) {b L : Nat} {xs : Nat → Int32} (C0 : lw_At p s m meth c b L xs) (D : va_G) (cI : ClassId) (cJ : ClassId × ClassId) (ad : Nat → Nat) (hK : va_K D vwCl (tyS cI cJ) s) (hE : gc_ex gxT gxN (fun q : Nat => s.heap.size ≤ q) s s.heap) {H : Heap} {locs : List Loc} {pc : Nat} {ls : Array Slot} {k n : Nat} (hk : k ≤ 674287) (hn : n ≤ 7073243) (hS : va_S (fun q : Nat => s.heap.size ≤ q) s.heap H locs) (hd0 : decode code pc = .ok (.iconst 1, 1)) (hd1 : decode code (pc + 1) = .ok (.ireturn, 1)) : W p l e room_1 s m #[Value.ref b] below meth c H locs k n (lw_Z below #[Value.ref b] s) (F0 m pc ls []) := by
  obtain ⟨hx, hb, hr, hml, hown, hts, hX, hbl, hlocks, hgv⟩ := id C0
  refine va_forget (fun q hq => hS.2.2 q hq) ?_
  refine W.widen (k := 674287) (n := 7073243) hk hn ?_
  refine lv_iconst (v := 1) hx hb hd0 (by decide) ?_
  exact lw_ret hx hb hr hlocks hd1
set_option maxRecDepth 100000 in
set_option maxHeartbeats 4000000 in
theorem law_logs {p : Program} {e : Env} {s : State} {m : MethodId} {below : List Frame} {meth : Method} {c : Code} (l : Launch) (hl9 : l.stackTraces = false) {b L : Nat} {xs : Nat → Int32} (C0 : lw_At p s m meth c b L xs) (D : va_G) (cI : ClassId) (cJ : ClassId × ClassId) (ad : Nat → Nat) (hK : va_K D vwCl (tyS cI cJ) s) (hE : gc_ex gxT gxN (fun q : Nat => s.heap.size ≤ q) s s.heap) {Q : State → Prop} {i k n : Nat} (hi : i + 5 ≤ L) (hL : L ≤ 2560) (hk8 : k ≤ 4143) (hn8 : n ≤ 24864) {sg : Nat → Nat → Int32} {H : Heap} {locs : List Loc} {ls : Array Slot} (hJ : LI sg) (hP : va_P D vwCl (gw cI cJ ad sg SL) H) (hD : va_D (fun q : Nat => s.heap.size ≤ q) (gw cI cJ ad sg SL)) (hS : va_S (fun q : Nat => s.heap.size ≤ q) s.heap H locs) (hl : lv_has ls 7 [(0, .ref b), (1, .ref (ad 0)), (2, .ref (ad 34)), (3, .ref (ad 33)), (4, .int (nI i))]) (hnext : ∀ (sg2 : Nat → Nat → Int32) (H2 : Heap) (locs2 : List Loc) (ls2 : Array Slot), LI sg2 → va_P D vwCl (gw cI cJ ad sg2 SL) H2 → va_D (fun q : Nat => s.heap.size ≤ q) (gw cI cJ ad sg2 SL) → va_S (fun q : Nat => s.heap.size ≤ q) s.heap H2 locs2 → lv_has ls2 7 [(0, .ref b), (1, .ref (ad 0)), (2, .ref (ad 34)), (3, .ref (ad 33)), (4, .int (nI i))] → W p l e room_1 s m #[Value.ref b] below meth c H2 locs2 (k + 8) (n + 48) Q (F0 m 592 ls2 [])) : W p l e room_1 s m #[Value.ref b] below meth c H locs k n Q (F0 m 104 ls []) := by
  obtain ⟨hx, hb, hr, hml, hown, hts, hX, hbl, hlocks, hgv⟩ := id C0
  have hown : s.vm.findClass RL = some m.cls := hown
  have hts : ∀ w ∈ wsAll, w.before #[Value.ref b] s = true := fun w h => hts w (List.mem_filter.mp h).1
  have hA : ∀ q : Nat, s.heap.size ≤ q → (fun q : Nat => s.heap.size ≤ q) q := fun _ h => h
  have hbA : ¬ (fun q : Nat => s.heap.size ≤ q) b := Nat.not_le.mpr hbl
  have hrc : 4243 ≤ room_1.cells := by decide
  have hrs : 25864 ≤ room_1.slots := by decide
  obtain ⟨T, hT, hC, hM⟩ := hJ
  refine lv_aload_n hx hb dL_law_104 rfl (lv_at hl 1 rfl) ?_
  refine lv_aload_n hx hb dL_law_105 rfl (lv_at hl 0 rfl) ?_
  refine lv_iload hx hb dL_law_106 (lv_at hl 4 rfl) ?_
  refine lv_iconst (v := (nI 1)) hx hb dL_law_108 (by decide) ?_
  refine lv_iadd hx hb dL_law_109 ?_
  refine gw_top (y := (nI (i + 1))) (nI_add _ _) ?_
  refine va_sld hx hb hX hbl hbA hS (vp_in_nI (n := i + 1) (N := L) (by omega) (by omega)) dL_law_110 ?_
  refine gw_top (y := xs (i + 1)) (by rw [nI_clamp (by omega)]) ?_
  refine lv_aload_n hx hb dL_law_111 rfl (lv_at hl 0 rfl) ?_
  refine lv_iload hx hb dL_law_112 (lv_at hl 4 rfl) ?_
  refine lv_iconst (v := (nI 2)) hx hb dL_law_114 (by decide) ?_
  refine lv_iadd hx hb dL_law_115 ?_
  refine gw_top (y := (nI (i + 2))) (nI_add _ _) ?_
  refine va_sld hx hb hX hbl hbA hS (vp_in_nI (n := i + 2) (N := L) (by omega) (by omega)) dL_law_116 ?_
  refine gw_top (y := xs (i + 2)) (by rw [nI_clamp (by omega)]) ?_
  refine lv_aload_n hx hb dL_law_117 rfl (lv_at hl 0 rfl) ?_
  refine lv_iload hx hb dL_law_118 (lv_at hl 4 rfl) ?_
  refine lv_iconst (v := (nI 3)) hx hb dL_law_120 (by decide) ?_
  refine lv_iadd hx hb dL_law_121 ?_
  refine gw_top (y := (nI (i + 3))) (nI_add _ _) ?_
  refine va_sld hx hb hX hbl hbA hS (vp_in_nI (n := i + 3) (N := L) (by omega) (by omega)) dL_law_122 ?_
  refine gw_top (y := xs (i + 3)) (by rw [nI_clamp (by omega)]) ?_
  refine gc_go (pl := [0, 1, 2, 3, 4, 5, 6, 7, 8, 9, 10, 11, 12, 13, 14, 15, 16, 17, 18, 19, 20, 21, 22, 23, 24, 25, 26, 27, 28, 29, 30, 31, 32, 33]) (S2 := SW) (ad := ad) (sg := sg) (vx_runSW (As := [.ref (ad 0), .int (xs (i + 1)), .int (xs (i + 2)), .int (xs (i + 3))]) (rest := []) ⟨hx, hb, hml, hown, hts⟩ (m_f_L_logs l hl9 D cI cJ (fun j => ad (gw_p [0, 1, 2, 3, 4, 5, 6, 7, 8, 9, 10, 11, 12, 13, 14, 15, 16, 17, 18, 19, 20, 21, 22, 23, 24, 25, 26, 27, 28, 29, 30, 31, 32, 33] j)) (fun j => sg (gw_p [0, 1, 2, 3, 4, 5, 6, 7, 8, 9, 10, 11, 12, 13, 14, 15, 16, 17, 18, 19, 20, 21, 22, 23, 24, 25, 26, 27, 28, 29, 30, 31, 32, 33] j)) _ (xs (i + 1)) (xs (i + 2)) (xs (i + 3)) T hT (wr_in hC)) (vx_cwSW 4 hts (gwSW a271 a272 a273 a274) rfl rfl rfl (by decide +kernel) ⟨by decide, by decide⟩) (gc_preS hK hP hD hS hA hE rfl) rfl rfl hl.1 rfl (lv_room (Nat.le_of_ble_eq_true rfl)) dL_law_123 ⟨by omega, by omega⟩) hP hD hS hA rfl (fun v1 sp2 sg3 H locs hp4 ha5 hb6 hP hD hS => ?_)
  obtain ⟨hk1, rfl⟩ := hp4
  have hC2 : EC (uT (kLogs (xs (i + 1)) (xs (i + 2)) (xs (i + 3))) (tLogs T (xs (i + 1)) (xs (i + 2)) (xs (i + 3))) T) sg3 := wr_out hk1 ha5 rfl
  have hM2 : EM T (fun j => sg3 (gw_p [34, 35, 36, 37, 38, 39, 40, 41, 42, 43, 44, 45, 46] j)) := mod_keep hM hb6
  refine W.eq (g2 := F0 m 126 ls [.int (kLogs (xs (i + 1)) (xs (i + 2)) (xs (i + 3)))]) rfl ?_
  refine lv_istore (lv' := [(5, .int (kLogs (xs (i + 1)) (xs (i + 2)) (xs (i + 3)))), (0, .ref b), (1, .ref (ad 0)), (2, .ref (ad 34)), (3, .ref (ad 33)), (4, .int (nI i))]) hx hb dL_law_126 hl (by decide) rfl (fun ls hl => ?_)
  refine lv_aload_n hx hb dL_law_128 rfl (lv_at hl 3 rfl) ?_
  refine lv_aload_n hx hb dL_law_129 rfl (lv_at hl 1 rfl) ?_
  refine lv_iload hx hb dL_law_130 (lv_at hl 5 rfl) ?_
  refine lv_iconst (v := (nI 1)) hx hb dL_law_132 (by decide) ?_
  refine lv_iadd hx hb dL_law_133 ?_
  refine gw_top (y := (nI (i + 1))) (nI_add _ _) ?_
  refine va_sld hx hb hX hbl hbA hS (vp_in_nI (n := i + 1) (N := L) (by omega) (by omega)) dL_law_134 ?_
  refine gw_top (y := xs (i + 1)) (by rw [nI_clamp (by omega)]) ?_
  refine lv_aload_n hx hb dL_law_135 rfl (lv_at hl 1 rfl) ?_
  refine lv_iload hx hb dL_law_136 (lv_at hl 5 rfl) ?_
  refine lv_iconst (v := (nI 2)) hx hb dL_law_138 (by decide) ?_
  refine lv_iadd hx hb dL_law_139 ?_
  refine gw_top (y := (nI (i + 2))) (nI_add _ _) ?_
  refine va_sld hx hb hX hbl hbA hS (vp_in_nI (n := i + 2) (N := L) (by omega) (by omega)) dL_law_140 ?_
  refine gw_top (y := xs (i + 2)) (by rw [nI_clamp (by omega)]) ?_
  refine lv_aload_n hx hb dL_law_141 rfl (lv_at hl 1 rfl) ?_
  refine lv_iload hx hb dL_law_142 (lv_at hl 5 rfl) ?_
  refine lv_iconst (v := (nI 3)) hx hb dL_law_144 (by decide) ?_
  refine lv_iadd hx hb dL_law_145 ?_
  refine gw_top (y := (nI (i + 3))) (nI_add _ _) ?_
  refine va_sld hx hb hX hbl hbA hS (vp_in_nI (n := i + 3) (N := L) (by omega) (by omega)) dL_law_146 ?_
  refine gw_top (y := xs (i + 3)) (by rw [nI_clamp (by omega)]) ?_
  refine gc_go (pl := [34, 35, 36, 37, 38, 39, 40, 41, 42, 43, 44, 45, 46]) (S2 := SM) (ad := ad) (sg := sg3) (va_runV (As := [.int (xs (i + 1)), .int (xs (i + 2)), .int (xs (i + 3))]) (rest := []) ⟨hx, hb, hml, hown, hts⟩ (m_f_X3_logs l hl9 D cI cJ (fun j => ad (gw_p [34, 35, 36, 37, 38, 39, 40, 41, 42, 43, 44, 45, 46] j)) (fun j => sg3 (gw_p [34, 35, 36, 37, 38, 39, 40, 41, 42, 43, 44, 45, 46] j)) _ (xs (i + 1)) (xs (i + 2)) (xs (i + 3)) T hT hM2) (cwV 3 hts (gwV a275 a276 a277 a135 a278) rfl rfl rfl (by decide +kernel) ⟨by decide, by decide⟩) (gc_preV hK hP hD hS hA hE rfl rfl rfl rfl) rfl rfl hl.1 rfl (lv_room (Nat.le_of_ble_eq_true rfl)) dL_law_147 ⟨by omega, by omega⟩) hP hD hS hA rfl (fun v8 sp9 sg10 H locs hp11 ha12 hb13 hP hD hS => ?_)
  obtain ⟨hm1, hc9, rfl⟩ := hp11
  have hM3 : EM (uT (kLogs (xs (i + 1)) (xs (i + 2)) (xs (i + 3))) (tLogs T (xs (i + 1)) (xs (i + 2)) (xs (i + 3))) T) (fun j => sg10 (gw_p [34, 35, 36, 37, 38, 39, 40, 41, 42, 43, 44, 45, 46] j)) := mod_out hm1 ha12 rfl
  have hC3 : EC (uT (kLogs (xs (i + 1)) (xs (i + 2)) (xs (i + 3))) (tLogs T (xs (i + 1)) (xs (i + 2)) (xs (i + 3))) T) sg10 := cls_keep hC2 hb13
  have hc8 : sg10 34 0 = (kLogs (xs (i + 1)) (xs (i + 2)) (xs (i + 3))) := (congrFun (ha12 0 (by decide)) _).trans hc9
  refine W.eq (g2 := F0 m 150 ls []) rfl ?_
  refine lv_goto (tgt := 592) hx hb dL_law_150 (by decide) ?_
  refine W.widen (k := k + 8) (n := n + 48) (by omega) (by omega) ?_
  exact hnext _ _ _ _ ⟨_, TOk_u (TOk_f _) hT, hC3, hM3⟩ hP hD hS (lv_sub hl [1, 2, 3, 4, 5] rfl)
set_option maxRecDepth 100000 in
set_option maxHeartbeats 4000000 in
theorem law_pattern {p : Program} {e : Env} {s : State} {m : MethodId} {below : List Frame} {meth : Method} {c : Code} (l : Launch) (hl9 : l.stackTraces = false) {b L : Nat} {xs : Nat → Int32} (C0 : lw_At p s m meth c b L xs) (D : va_G) (cI : ClassId) (cJ : ClassId × ClassId) (ad : Nat → Nat) (hK : va_K D vwCl (tyS cI cJ) s) (hE : gc_ex gxT gxN (fun q : Nat => s.heap.size ≤ q) s s.heap) {Q : State → Prop} {i k n : Nat} (hi : i + 5 ≤ L) (hL : L ≤ 2560) (hk8 : k ≤ 4143) (hn8 : n ≤ 24864) {sg : Nat → Nat → Int32} {H : Heap} {locs : List Loc} {ls : Array Slot} (hJ : LI sg) (hP : va_P D vwCl (gw cI cJ ad sg SL) H) (hD : va_D (fun q : Nat => s.heap.size ≤ q) (gw cI cJ ad sg SL)) (hS : va_S (fun q : Nat => s.heap.size ≤ q) s.heap H locs) (hl : lv_has ls 7 [(0, .ref b), (1, .ref (ad 0)), (2, .ref (ad 34)), (3, .ref (ad 33)), (4, .int (nI i))]) (hnext : ∀ (sg2 : Nat → Nat → Int32) (H2 : Heap) (locs2 : List Loc) (ls2 : Array Slot), LI sg2 → va_P D vwCl (gw cI cJ ad sg2 SL) H2 → va_D (fun q : Nat => s.heap.size ≤ q) (gw cI cJ ad sg2 SL) → va_S (fun q : Nat => s.heap.size ≤ q) s.heap H2 locs2 → lv_has ls2 7 [(0, .ref b), (1, .ref (ad 0)), (2, .ref (ad 34)), (3, .ref (ad 33)), (4, .int (nI i))] → W p l e room_1 s m #[Value.ref b] below meth c H2 locs2 (k + 8) (n + 48) Q (F0 m 592 ls2 [])) : W p l e room_1 s m #[Value.ref b] below meth c H locs k n Q (F0 m 153 ls []) := by
  obtain ⟨hx, hb, hr, hml, hown, hts, hX, hbl, hlocks, hgv⟩ := id C0
  have hown : s.vm.findClass RL = some m.cls := hown
  have hts : ∀ w ∈ wsAll, w.before #[Value.ref b] s = true := fun w h => hts w (List.mem_filter.mp h).1
  have hA : ∀ q : Nat, s.heap.size ≤ q → (fun q : Nat => s.heap.size ≤ q) q := fun _ h => h
  have hbA : ¬ (fun q : Nat => s.heap.size ≤ q) b := Nat.not_le.mpr hbl
  have hrc : 4243 ≤ room_1.cells := by decide
  have hrs : 25864 ≤ room_1.slots := by decide
  obtain ⟨T, hT, hC, hM⟩ := hJ
  refine lv_aload_n hx hb dL_law_153 rfl (lv_at hl 1 rfl) ?_
  refine lv_aload_n hx hb dL_law_154 rfl (lv_at hl 0 rfl) ?_
  refine lv_iload hx hb dL_law_155 (lv_at hl 4 rfl) ?_
  refine lv_iconst (v := (nI 1)) hx hb dL_law_157 (by decide) ?_
  refine lv_iadd hx hb dL_law_158 ?_
  refine gw_top (y := (nI (i + 1))) (nI_add _ _) ?_
  refine va_sld hx hb hX hbl hbA hS (vp_in_nI (n := i + 1) (N := L) (by omega) (by omega)) dL_law_159 ?_
  refine gw_top (y := xs (i + 1)) (by rw [nI_clamp (by omega)]) ?_
  refine lv_aload_n hx hb dL_law_160 rfl (lv_at hl 0 rfl) ?_
  refine lv_iload hx hb dL_law_161 (lv_at hl 4 rfl) ?_
  refine lv_iconst (v := (nI 2)) hx hb dL_law_163 (by decide) ?_
  refine lv_iadd hx hb dL_law_164 ?_
  refine gw_top (y := (nI (i + 2))) (nI_add _ _) ?_
  refine va_sld hx hb hX hbl hbA hS (vp_in_nI (n := i + 2) (N := L) (by omega) (by omega)) dL_law_165 ?_
  refine gw_top (y := xs (i + 2)) (by rw [nI_clamp (by omega)]) ?_
  refine lv_aload_n hx hb dL_law_166 rfl (lv_at hl 3 rfl) ?_
  refine gc_go (pl := [0, 1, 2, 3, 4, 5, 6, 7, 8, 9, 10, 11, 12, 13, 14, 15, 16, 17, 18, 19, 20, 21, 22, 23, 24, 25, 26, 27, 28, 29, 30, 31, 32, 33]) (S2 := SW) (ad := ad) (sg := sg) (vx_runSW (As := [.ref (ad 0), .int (xs (i + 1)), .int (xs (i + 2)), .ref (ad 33)]) (rest := []) ⟨hx, hb, hml, hown, hts⟩ (m_f_L_pattern l hl9 D cI cJ (fun j => ad (gw_p [0, 1, 2, 3, 4, 5, 6, 7, 8, 9, 10, 11, 12, 13, 14, 15, 16, 17, 18, 19, 20, 21, 22, 23, 24, 25, 26, 27, 28, 29, 30, 31, 32, 33] j)) (fun j => sg (gw_p [0, 1, 2, 3, 4, 5, 6, 7, 8, 9, 10, 11, 12, 13, 14, 15, 16, 17, 18, 19, 20, 21, 22, 23, 24, 25, 26, 27, 28, 29, 30, 31, 32, 33] j)) _ (xs (i + 1)) (xs (i + 2)) T hT (wr_in hC)) (vx_cwSW 4 hts (gwSW a279 a280 a273 a281) rfl rfl rfl (by decide +kernel) ⟨by decide, by decide⟩) (gc_preS hK hP hD hS hA hE rfl) rfl rfl hl.1 rfl (lv_room (Nat.le_of_ble_eq_true rfl)) dL_law_167 ⟨by omega, by omega⟩) hP hD hS hA rfl (fun v1 sp2 sg3 H locs hp4 ha5 hb6 hP hD hS => ?_)
  obtain ⟨hk1, rfl, ho1⟩ := hp4
  have hC2 : EC (uT (kPattern (nI (yN T.1)) (xs (i + 1)) (xs (i + 2))) (tPattern T (xs (i + 1)) (xs (i + 2))) T) sg3 := wr_out hk1 ha5 rfl
  have hM2 : EM T (fun j => sg3 (gw_p [34, 35, 36, 37, 38, 39, 40, 41, 42, 43, 44, 45, 46] j)) := mod_keep hM hb6
  have ho2 : (kPattern (nI (yN T.1)) (xs (i + 1)) (xs (i + 2))) = nI 0 → sg3 33 0 = (nI (yN T.1)) := fun h9 => (congrFun (ha5 33 (by decide)) _).trans (ho1 h9)
  refine W.eq (g2 := F0 m 170 ls [.int (kPattern (nI (yN T.1)) (xs (i + 1)) (xs (i + 2)))]) rfl ?_
  refine lv_istore (lv' := [(5, .int (kPattern (nI (yN T.1)) (xs (i + 1)) (xs (i + 2)))), (0, .ref b), (1, .ref (ad 0)), (2, .ref (ad 34)), (3, .ref (ad 33)), (4, .int (nI i))]) hx hb dL_law_170 hl (by decide) rfl (fun ls hl => ?_)
  refine lv_aload_n hx hb dL_law_172 rfl (lv_at hl 3 rfl) ?_
  refine lv_aload_n hx hb dL_law_173 rfl (lv_at hl 1 rfl) ?_
  refine lv_iload hx hb dL_law_174 (lv_at hl 5 rfl) ?_
  refine lv_iconst (v := (nI 1)) hx hb dL_law_176 (by decide) ?_
  refine lv_iadd hx hb dL_law_177 ?_
  refine gw_top (y := (nI (i + 1))) (nI_add _ _) ?_
  refine va_sld hx hb hX hbl hbA hS (vp_in_nI (n := i + 1) (N := L) (by omega) (by omega)) dL_law_178 ?_
  refine gw_top (y := xs (i + 1)) (by rw [nI_clamp (by omega)]) ?_
  refine lv_aload_n hx hb dL_law_179 rfl (lv_at hl 1 rfl) ?_
  refine lv_iload hx hb dL_law_180 (lv_at hl 5 rfl) ?_
  refine lv_iconst (v := (nI 2)) hx hb dL_law_182 (by decide) ?_
  refine lv_iadd hx hb dL_law_183 ?_
  refine gw_top (y := (nI (i + 2))) (nI_add _ _) ?_
  refine va_sld hx hb hX hbl hbA hS (vp_in_nI (n := i + 2) (N := L) (by omega) (by omega)) dL_law_184 ?_
  refine gw_top (y := xs (i + 2)) (by rw [nI_clamp (by omega)]) ?_
  refine gc_go (pl := [34, 35, 36, 37, 38, 39, 40, 41, 42, 43, 44, 45, 46]) (S2 := SM) (ad := ad) (sg := sg3) (va_runV (As := [.int (xs (i + 1)), .int (xs (i + 2))]) (rest := []) ⟨hx, hb, hml, hown, hts⟩ (m_f_X3_pattern l hl9 D cI cJ (fun j => ad (gw_p [34, 35, 36, 37, 38, 39, 40, 41, 42, 43, 44, 45, 46] j)) (fun j => sg3 (gw_p [34, 35, 36, 37, 38, 39, 40, 41, 42, 43, 44, 45, 46] j)) _ (xs (i + 1)) (xs (i + 2)) T hT hM2) (cwV 2 hts (gwV a282 a283 a284 a135 a285) rfl rfl rfl (by decide +kernel) ⟨by decide, by decide⟩) (gc_preV hK hP hD hS hA hE rfl rfl rfl rfl) rfl rfl hl.1 rfl (lv_room (Nat.le_of_ble_eq_true rfl)) dL_law_185 ⟨by omega, by omega⟩) hP hD hS hA rfl (fun v8 sp9 sg10 H locs hp11 ha12 hb13 hP hD hS => ?_)
  obtain ⟨hm1, hc9, hv9, r14, rfl⟩ := hp11
  have hM3 : EM (uT (kPattern (nI (yN T.1)) (xs (i + 1)) (xs (i + 2))) (tPattern T (xs (i + 1)) (xs (i + 2))) T) (fun j => sg10 (gw_p [34, 35, 36, 37, 38, 39, 40, 41, 42, 43, 44, 45, 46] j)) := mod_out hm1 ha12 rfl
  have hC3 : EC (uT (kPattern (nI (yN T.1)) (xs (i + 1)) (xs (i + 2))) (tPattern T (xs (i + 1)) (xs (i + 2))) T) sg10 := cls_keep hC2 hb13
  have hc8 : sg10 34 0 = (kPattern (nI (yN T.1)) (xs (i + 1)) (xs (i + 2))) := (congrFun (ha12 0 (by decide)) _).trans hc9
  have hv : (kPattern (nI (yN T.1)) (xs (i + 1)) (xs (i + 2))) = nI 0 → r14 = (nI (yN T.1)) ∧ sg10 33 0 = (nI (yN T.1)) := fun h9 => ⟨Value.int.inj (Option.some.inj (hv9 h9)), (congrFun (hb13 33 (by decide)) _).trans (ho2 h9)⟩
  refine W.eq (g2 := F0 m 188 ls [.int r14]) rfl ?_
  refine lv_istore (lv' := [(6, .int r14), (5, .int (kPattern (nI (yN T.1)) (xs (i + 1)) (xs (i + 2)))), (0, .ref b), (1, .ref (ad 0)), (2, .ref (ad 34)), (3, .ref (ad 33)), (4, .int (nI i))]) hx hb dL_law_188 hl (by decide) rfl (fun ls hl => ?_)
  refine lv_goto (tgt := 592) hx hb dL_law_190 (by decide) ?_
  refine W.widen (k := k + 8) (n := n + 48) (by omega) (by omega) ?_
  exact hnext _ _ _ _ ⟨_, TOk_u (TOk_f _) hT, hC3, hM3⟩ hP hD hS (lv_sub hl [2, 3, 4, 5, 6] rfl)
set_option maxRecDepth 100000 in
set_option maxHeartbeats 4000000 in
theorem law_gives {p : Program} {e : Env} {s : State} {m : MethodId} {below : List Frame} {meth : Method} {c : Code} (l : Launch) (hl9 : l.stackTraces = false) {b L : Nat} {xs : Nat → Int32} (C0 : lw_At p s m meth c b L xs) (D : va_G) (cI : ClassId) (cJ : ClassId × ClassId) (ad : Nat → Nat) (hK : va_K D vwCl (tyS cI cJ) s) (hE : gc_ex gxT gxN (fun q : Nat => s.heap.size ≤ q) s s.heap) {Q : State → Prop} {i k n : Nat} (hi : i + 5 ≤ L) (hL : L ≤ 2560) (hk8 : k ≤ 4143) (hn8 : n ≤ 24864) {sg : Nat → Nat → Int32} {H : Heap} {locs : List Loc} {ls : Array Slot} (hJ : LI sg) (hP : va_P D vwCl (gw cI cJ ad sg SL) H) (hD : va_D (fun q : Nat => s.heap.size ≤ q) (gw cI cJ ad sg SL)) (hS : va_S (fun q : Nat => s.heap.size ≤ q) s.heap H locs) (hl : lv_has ls 7 [(0, .ref b), (1, .ref (ad 0)), (2, .ref (ad 34)), (3, .ref (ad 33)), (4, .int (nI i))]) (hnext : ∀ (sg2 : Nat → Nat → Int32) (H2 : Heap) (locs2 : List Loc) (ls2 : Array Slot), LI sg2 → va_P D vwCl (gw cI cJ ad sg2 SL) H2 → va_D (fun q : Nat => s.heap.size ≤ q) (gw cI cJ ad sg2 SL) → va_S (fun q : Nat => s.heap.size ≤ q) s.heap H2 locs2 → lv_has ls2 7 [(0, .ref b), (1, .ref (ad 0)), (2, .ref (ad 34)), (3, .ref (ad 33)), (4, .int (nI i))] → W p l e room_1 s m #[Value.ref b] below meth c H2 locs2 (k + 8) (n + 48) Q (F0 m 592 ls2 [])) : W p l e room_1 s m #[Value.ref b] below meth c H locs k n Q (F0 m 193 ls []) := by
  obtain ⟨hx, hb, hr, hml, hown, hts, hX, hbl, hlocks, hgv⟩ := id C0
  have hown : s.vm.findClass RL = some m.cls := hown
  have hts : ∀ w ∈ wsAll, w.before #[Value.ref b] s = true := fun w h => hts w (List.mem_filter.mp h).1
  have hA : ∀ q : Nat, s.heap.size ≤ q → (fun q : Nat => s.heap.size ≤ q) q := fun _ h => h
  have hbA : ¬ (fun q : Nat => s.heap.size ≤ q) b := Nat.not_le.mpr hbl
  have hrc : 4243 ≤ room_1.cells := by decide
  have hrs : 25864 ≤ room_1.slots := by decide
  obtain ⟨T, hT, hC, hM⟩ := hJ
  refine lv_aload_n hx hb dL_law_193 rfl (lv_at hl 1 rfl) ?_
  refine lv_aload_n hx hb dL_law_194 rfl (lv_at hl 0 rfl) ?_
  refine lv_iload hx hb dL_law_195 (lv_at hl 4 rfl) ?_
  refine lv_iconst (v := (nI 1)) hx hb dL_law_197 (by decide) ?_
  refine lv_iadd hx hb dL_law_198 ?_
  refine gw_top (y := (nI (i + 1))) (nI_add _ _) ?_
  refine va_sld hx hb hX hbl hbA hS (vp_in_nI (n := i + 1) (N := L) (by omega) (by omega)) dL_law_199 ?_
  refine gw_top (y := xs (i + 1)) (by rw [nI_clamp (by omega)]) ?_
  refine lv_aload_n hx hb dL_law_200 rfl (lv_at hl 0 rfl) ?_
  refine lv_iload hx hb dL_law_201 (lv_at hl 4 rfl) ?_
  refine lv_iconst (v := (nI 2)) hx hb dL_law_203 (by decide) ?_
  refine lv_iadd hx hb dL_law_204 ?_
  refine gw_top (y := (nI (i + 2))) (nI_add _ _) ?_
  refine va_sld hx hb hX hbl hbA hS (vp_in_nI (n := i + 2) (N := L) (by omega) (by omega)) dL_law_205 ?_
  refine gw_top (y := xs (i + 2)) (by rw [nI_clamp (by omega)]) ?_
  refine lv_aload_n hx hb dL_law_206 rfl (lv_at hl 0 rfl) ?_
  refine lv_iload hx hb dL_law_207 (lv_at hl 4 rfl) ?_
  refine lv_iconst (v := (nI 3)) hx hb dL_law_209 (by decide) ?_
  refine lv_iadd hx hb dL_law_210 ?_
  refine gw_top (y := (nI (i + 3))) (nI_add _ _) ?_
  refine va_sld hx hb hX hbl hbA hS (vp_in_nI (n := i + 3) (N := L) (by omega) (by omega)) dL_law_211 ?_
  refine gw_top (y := xs (i + 3)) (by rw [nI_clamp (by omega)]) ?_
  refine gc_go (pl := [0, 1, 2, 3, 4, 5, 6, 7, 8, 9, 10, 11, 12, 13, 14, 15, 16, 17, 18, 19, 20, 21, 22, 23, 24, 25, 26, 27, 28, 29, 30, 31, 32, 33]) (S2 := SW) (ad := ad) (sg := sg) (vx_runSW (As := [.ref (ad 0), .int (xs (i + 1)), .int (xs (i + 2)), .int (xs (i + 3))]) (rest := []) ⟨hx, hb, hml, hown, hts⟩ (m_f_L_gives l hl9 D cI cJ (fun j => ad (gw_p [0, 1, 2, 3, 4, 5, 6, 7, 8, 9, 10, 11, 12, 13, 14, 15, 16, 17, 18, 19, 20, 21, 22, 23, 24, 25, 26, 27, 28, 29, 30, 31, 32, 33] j)) (fun j => sg (gw_p [0, 1, 2, 3, 4, 5, 6, 7, 8, 9, 10, 11, 12, 13, 14, 15, 16, 17, 18, 19, 20, 21, 22, 23, 24, 25, 26, 27, 28, 29, 30, 31, 32, 33] j)) _ (xs (i + 1)) (xs (i + 2)) (xs (i + 3)) T hT (wr_in hC)) (vx_cwSW 4 hts (gwSW a286 a287 a273 a288) rfl rfl rfl (by decide +kernel) ⟨by decide, by decide⟩) (gc_preS hK hP hD hS hA hE rfl) rfl rfl hl.1 rfl (lv_room (Nat.le_of_ble_eq_true rfl)) dL_law_212 ⟨by omega, by omega⟩) hP hD hS hA rfl (fun v1 sp2 sg3 H locs hp4 ha5 hb6 hP hD hS => ?_)
  obtain ⟨hk1, rfl⟩ := hp4
  have hC2 : EC (uT (kGives (nI (yN T.1)) (xs (i + 1)) (xs (i + 2)) (xs (i + 3))) (tGives T (xs (i + 1)) (xs (i + 2)) (xs (i + 3))) T) sg3 := wr_out hk1 ha5 rfl
  have hM2 : EM T (fun j => sg3 (gw_p [34, 35, 36, 37, 38, 39, 40, 41, 42, 43, 44, 45, 46] j)) := mod_keep hM hb6
  refine W.eq (g2 := F0 m 215 ls [.int (kGives (nI (yN T.1)) (xs (i + 1)) (xs (i + 2)) (xs (i + 3)))]) rfl ?_
  refine lv_istore (lv' := [(5, .int (kGives (nI (yN T.1)) (xs (i + 1)) (xs (i + 2)) (xs (i + 3)))), (0, .ref b), (1, .ref (ad 0)), (2, .ref (ad 34)), (3, .ref (ad 33)), (4, .int (nI i))]) hx hb dL_law_215 hl (by decide) rfl (fun ls hl => ?_)
  refine lv_aload_n hx hb dL_law_217 rfl (lv_at hl 3 rfl) ?_
  refine lv_aload_n hx hb dL_law_218 rfl (lv_at hl 1 rfl) ?_
  refine lv_iload hx hb dL_law_219 (lv_at hl 5 rfl) ?_
  refine lv_iconst (v := (nI 1)) hx hb dL_law_221 (by decide) ?_
  refine lv_iadd hx hb dL_law_222 ?_
  refine gw_top (y := (nI (i + 1))) (nI_add _ _) ?_
  refine va_sld hx hb hX hbl hbA hS (vp_in_nI (n := i + 1) (N := L) (by omega) (by omega)) dL_law_223 ?_
  refine gw_top (y := xs (i + 1)) (by rw [nI_clamp (by omega)]) ?_
  refine lv_aload_n hx hb dL_law_224 rfl (lv_at hl 1 rfl) ?_
  refine lv_iload hx hb dL_law_225 (lv_at hl 5 rfl) ?_
  refine lv_iconst (v := (nI 2)) hx hb dL_law_227 (by decide) ?_
  refine lv_iadd hx hb dL_law_228 ?_
  refine gw_top (y := (nI (i + 2))) (nI_add _ _) ?_
  refine va_sld hx hb hX hbl hbA hS (vp_in_nI (n := i + 2) (N := L) (by omega) (by omega)) dL_law_229 ?_
  refine gw_top (y := xs (i + 2)) (by rw [nI_clamp (by omega)]) ?_
  refine lv_aload_n hx hb dL_law_230 rfl (lv_at hl 1 rfl) ?_
  refine lv_iload hx hb dL_law_231 (lv_at hl 5 rfl) ?_
  refine lv_iconst (v := (nI 3)) hx hb dL_law_233 (by decide) ?_
  refine lv_iadd hx hb dL_law_234 ?_
  refine gw_top (y := (nI (i + 3))) (nI_add _ _) ?_
  refine va_sld hx hb hX hbl hbA hS (vp_in_nI (n := i + 3) (N := L) (by omega) (by omega)) dL_law_235 ?_
  refine gw_top (y := xs (i + 3)) (by rw [nI_clamp (by omega)]) ?_
  refine gc_go (pl := [34, 35, 36, 37, 38, 39, 40, 41, 42, 43, 44, 45, 46]) (S2 := SM) (ad := ad) (sg := sg3) (va_runV (As := [.int (xs (i + 1)), .int (xs (i + 2)), .int (xs (i + 3))]) (rest := []) ⟨hx, hb, hml, hown, hts⟩ (m_f_X3_gives l hl9 D cI cJ (fun j => ad (gw_p [34, 35, 36, 37, 38, 39, 40, 41, 42, 43, 44, 45, 46] j)) (fun j => sg3 (gw_p [34, 35, 36, 37, 38, 39, 40, 41, 42, 43, 44, 45, 46] j)) _ (xs (i + 1)) (xs (i + 2)) (xs (i + 3)) T hT hM2) (cwV 3 hts (gwV a289 a290 a291 a135 a292) rfl rfl rfl (by decide +kernel) ⟨by decide, by decide⟩) (gc_preV hK hP hD hS hA hE rfl rfl rfl rfl) rfl rfl hl.1 rfl (lv_room (Nat.le_of_ble_eq_true rfl)) dL_law_236 ⟨by omega, by omega⟩) hP hD hS hA rfl (fun v8 sp9 sg10 H locs hp11 ha12 hb13 hP hD hS => ?_)
  obtain ⟨hm1, hc9, rfl⟩ := hp11
  have hM3 : EM (uT (kGives (nI (yN T.1)) (xs (i + 1)) (xs (i + 2)) (xs (i + 3))) (tGives T (xs (i + 1)) (xs (i + 2)) (xs (i + 3))) T) (fun j => sg10 (gw_p [34, 35, 36, 37, 38, 39, 40, 41, 42, 43, 44, 45, 46] j)) := mod_out hm1 ha12 rfl
  have hC3 : EC (uT (kGives (nI (yN T.1)) (xs (i + 1)) (xs (i + 2)) (xs (i + 3))) (tGives T (xs (i + 1)) (xs (i + 2)) (xs (i + 3))) T) sg10 := cls_keep hC2 hb13
  have hc8 : sg10 34 0 = (kGives (nI (yN T.1)) (xs (i + 1)) (xs (i + 2)) (xs (i + 3))) := (congrFun (ha12 0 (by decide)) _).trans hc9
  refine W.eq (g2 := F0 m 239 ls []) rfl ?_
  refine lv_goto (tgt := 592) hx hb dL_law_239 (by decide) ?_
  refine W.widen (k := k + 8) (n := n + 48) (by omega) (by omega) ?_
  exact hnext _ _ _ _ ⟨_, TOk_u (TOk_f _) hT, hC3, hM3⟩ hP hD hS (lv_sub hl [1, 2, 3, 4, 5] rfl)
set_option maxRecDepth 100000 in
set_option maxHeartbeats 4000000 in
theorem law_order {p : Program} {e : Env} {s : State} {m : MethodId} {below : List Frame} {meth : Method} {c : Code} (l : Launch) (hl9 : l.stackTraces = false) {b L : Nat} {xs : Nat → Int32} (C0 : lw_At p s m meth c b L xs) (D : va_G) (cI : ClassId) (cJ : ClassId × ClassId) (ad : Nat → Nat) (hK : va_K D vwCl (tyS cI cJ) s) (hE : gc_ex gxT gxN (fun q : Nat => s.heap.size ≤ q) s s.heap) {Q : State → Prop} {i k n : Nat} (hi : i + 5 ≤ L) (hL : L ≤ 2560) (hk8 : k ≤ 4143) (hn8 : n ≤ 24864) {sg : Nat → Nat → Int32} {H : Heap} {locs : List Loc} {ls : Array Slot} (hJ : LI sg) (hP : va_P D vwCl (gw cI cJ ad sg SL) H) (hD : va_D (fun q : Nat => s.heap.size ≤ q) (gw cI cJ ad sg SL)) (hS : va_S (fun q : Nat => s.heap.size ≤ q) s.heap H locs) (hl : lv_has ls 7 [(0, .ref b), (1, .ref (ad 0)), (2, .ref (ad 34)), (3, .ref (ad 33)), (4, .int (nI i))]) (hnext : ∀ (sg2 : Nat → Nat → Int32) (H2 : Heap) (locs2 : List Loc) (ls2 : Array Slot), LI sg2 → va_P D vwCl (gw cI cJ ad sg2 SL) H2 → va_D (fun q : Nat => s.heap.size ≤ q) (gw cI cJ ad sg2 SL) → va_S (fun q : Nat => s.heap.size ≤ q) s.heap H2 locs2 → lv_has ls2 7 [(0, .ref b), (1, .ref (ad 0)), (2, .ref (ad 34)), (3, .ref (ad 33)), (4, .int (nI i))] → W p l e room_1 s m #[Value.ref b] below meth c H2 locs2 (k + 8) (n + 48) Q (F0 m 592 ls2 [])) : W p l e room_1 s m #[Value.ref b] below meth c H locs k n Q (F0 m 242 ls []) := by
  obtain ⟨hx, hb, hr, hml, hown, hts, hX, hbl, hlocks, hgv⟩ := id C0
  have hown : s.vm.findClass RL = some m.cls := hown
  have hts : ∀ w ∈ wsAll, w.before #[Value.ref b] s = true := fun w h => hts w (List.mem_filter.mp h).1
  have hA : ∀ q : Nat, s.heap.size ≤ q → (fun q : Nat => s.heap.size ≤ q) q := fun _ h => h
  have hbA : ¬ (fun q : Nat => s.heap.size ≤ q) b := Nat.not_le.mpr hbl
  have hrc : 4243 ≤ room_1.cells := by decide
  have hrs : 25864 ≤ room_1.slots := by decide
  obtain ⟨T, hT, hC, hM⟩ := hJ
  refine lv_aload_n hx hb dL_law_242 rfl (lv_at hl 1 rfl) ?_
  refine lv_aload_n hx hb dL_law_243 rfl (lv_at hl 0 rfl) ?_
  refine lv_iload hx hb dL_law_244 (lv_at hl 4 rfl) ?_
  refine lv_iconst (v := (nI 1)) hx hb dL_law_246 (by decide) ?_
  refine lv_iadd hx hb dL_law_247 ?_
  refine gw_top (y := (nI (i + 1))) (nI_add _ _) ?_
  refine va_sld hx hb hX hbl hbA hS (vp_in_nI (n := i + 1) (N := L) (by omega) (by omega)) dL_law_248 ?_
  refine gw_top (y := xs (i + 1)) (by rw [nI_clamp (by omega)]) ?_
  refine lv_aload_n hx hb dL_law_249 rfl (lv_at hl 0 rfl) ?_
  refine lv_iload hx hb dL_law_250 (lv_at hl 4 rfl) ?_
  refine lv_iconst (v := (nI 2)) hx hb dL_law_252 (by decide) ?_
  refine lv_iadd hx hb dL_law_253 ?_
  refine gw_top (y := (nI (i + 2))) (nI_add _ _) ?_
  refine va_sld hx hb hX hbl hbA hS (vp_in_nI (n := i + 2) (N := L) (by omega) (by omega)) dL_law_254 ?_
  refine gw_top (y := xs (i + 2)) (by rw [nI_clamp (by omega)]) ?_
  refine lv_aload_n hx hb dL_law_255 rfl (lv_at hl 0 rfl) ?_
  refine lv_iload hx hb dL_law_256 (lv_at hl 4 rfl) ?_
  refine lv_iconst (v := (nI 3)) hx hb dL_law_258 (by decide) ?_
  refine lv_iadd hx hb dL_law_259 ?_
  refine gw_top (y := (nI (i + 3))) (nI_add _ _) ?_
  refine va_sld hx hb hX hbl hbA hS (vp_in_nI (n := i + 3) (N := L) (by omega) (by omega)) dL_law_260 ?_
  refine gw_top (y := xs (i + 3)) (by rw [nI_clamp (by omega)]) ?_
  refine lv_aload_n hx hb dL_law_261 rfl (lv_at hl 0 rfl) ?_
  refine lv_iload hx hb dL_law_262 (lv_at hl 4 rfl) ?_
  refine lv_iconst (v := (nI 4)) hx hb dL_law_264 (by decide) ?_
  refine lv_iadd hx hb dL_law_265 ?_
  refine gw_top (y := (nI (i + 4))) (nI_add _ _) ?_
  refine va_sld hx hb hX hbl hbA hS (vp_in_nI (n := i + 4) (N := L) (by omega) (by omega)) dL_law_266 ?_
  refine gw_top (y := xs (i + 4)) (by rw [nI_clamp (by omega)]) ?_
  refine gc_go (pl := [0, 1, 2, 3, 4, 5, 6, 7, 8, 9, 10, 11, 12, 13, 14, 15, 16, 17, 18, 19, 20, 21, 22, 23, 24, 25, 26, 27, 28, 29, 30, 31, 32, 33]) (S2 := SW) (ad := ad) (sg := sg) (vx_runSW (As := [.ref (ad 0), .int (xs (i + 1)), .int (xs (i + 2)), .int (xs (i + 3)), .int (xs (i + 4))]) (rest := []) ⟨hx, hb, hml, hown, hts⟩ (m_f_L_order l hl9 D cI cJ (fun j => ad (gw_p [0, 1, 2, 3, 4, 5, 6, 7, 8, 9, 10, 11, 12, 13, 14, 15, 16, 17, 18, 19, 20, 21, 22, 23, 24, 25, 26, 27, 28, 29, 30, 31, 32, 33] j)) (fun j => sg (gw_p [0, 1, 2, 3, 4, 5, 6, 7, 8, 9, 10, 11, 12, 13, 14, 15, 16, 17, 18, 19, 20, 21, 22, 23, 24, 25, 26, 27, 28, 29, 30, 31, 32, 33] j)) _ (xs (i + 1)) (xs (i + 2)) (xs (i + 3)) (xs (i + 4)) T hT (wr_in hC)) (vx_cwSW 5 hts (gwSW a293 a294 a273 a295) rfl rfl rfl (by decide +kernel) ⟨by decide, by decide⟩) (gc_preS hK hP hD hS hA hE rfl) rfl rfl hl.1 rfl (lv_room (Nat.le_of_ble_eq_true rfl)) dL_law_267 ⟨by omega, by omega⟩) hP hD hS hA rfl (fun v1 sp2 sg3 H locs hp4 ha5 hb6 hP hD hS => ?_)
  obtain ⟨hk1, rfl⟩ := hp4
  have hC2 : EC (uT (kOrder (xs (i + 1)) (xs (i + 2)) (xs (i + 3)) (xs (i + 4))) (tOrder T (xs (i + 1)) (xs (i + 2)) (xs (i + 3)) (xs (i + 4))) T) sg3 := wr_out hk1 ha5 rfl
  have hM2 : EM T (fun j => sg3 (gw_p [34, 35, 36, 37, 38, 39, 40, 41, 42, 43, 44, 45, 46] j)) := mod_keep hM hb6
  refine W.eq (g2 := F0 m 270 ls [.int (kOrder (xs (i + 1)) (xs (i + 2)) (xs (i + 3)) (xs (i + 4)))]) rfl ?_
  refine lv_istore (lv' := [(5, .int (kOrder (xs (i + 1)) (xs (i + 2)) (xs (i + 3)) (xs (i + 4)))), (0, .ref b), (1, .ref (ad 0)), (2, .ref (ad 34)), (3, .ref (ad 33)), (4, .int (nI i))]) hx hb dL_law_270 hl (by decide) rfl (fun ls hl => ?_)
  refine lv_aload_n hx hb dL_law_272 rfl (lv_at hl 3 rfl) ?_
  refine lv_aload_n hx hb dL_law_273 rfl (lv_at hl 1 rfl) ?_
  refine lv_iload hx hb dL_law_274 (lv_at hl 5 rfl) ?_
  refine lv_iconst (v := (nI 1)) hx hb dL_law_276 (by decide) ?_
  refine lv_iadd hx hb dL_law_277 ?_
  refine gw_top (y := (nI (i + 1))) (nI_add _ _) ?_
  refine va_sld hx hb hX hbl hbA hS (vp_in_nI (n := i + 1) (N := L) (by omega) (by omega)) dL_law_278 ?_
  refine gw_top (y := xs (i + 1)) (by rw [nI_clamp (by omega)]) ?_
  refine lv_aload_n hx hb dL_law_279 rfl (lv_at hl 1 rfl) ?_
  refine lv_iload hx hb dL_law_280 (lv_at hl 5 rfl) ?_
  refine lv_iconst (v := (nI 2)) hx hb dL_law_282 (by decide) ?_
  refine lv_iadd hx hb dL_law_283 ?_
  refine gw_top (y := (nI (i + 2))) (nI_add _ _) ?_
  refine va_sld hx hb hX hbl hbA hS (vp_in_nI (n := i + 2) (N := L) (by omega) (by omega)) dL_law_284 ?_
  refine gw_top (y := xs (i + 2)) (by rw [nI_clamp (by omega)]) ?_
  refine lv_aload_n hx hb dL_law_285 rfl (lv_at hl 1 rfl) ?_
  refine lv_iload hx hb dL_law_286 (lv_at hl 5 rfl) ?_
  refine lv_iconst (v := (nI 3)) hx hb dL_law_288 (by decide) ?_
  refine lv_iadd hx hb dL_law_289 ?_
  refine gw_top (y := (nI (i + 3))) (nI_add _ _) ?_
  refine va_sld hx hb hX hbl hbA hS (vp_in_nI (n := i + 3) (N := L) (by omega) (by omega)) dL_law_290 ?_
  refine gw_top (y := xs (i + 3)) (by rw [nI_clamp (by omega)]) ?_
  refine lv_aload_n hx hb dL_law_291 rfl (lv_at hl 1 rfl) ?_
  refine lv_iload hx hb dL_law_292 (lv_at hl 5 rfl) ?_
  refine lv_iconst (v := (nI 4)) hx hb dL_law_294 (by decide) ?_
  refine lv_iadd hx hb dL_law_295 ?_
  refine gw_top (y := (nI (i + 4))) (nI_add _ _) ?_
  refine va_sld hx hb hX hbl hbA hS (vp_in_nI (n := i + 4) (N := L) (by omega) (by omega)) dL_law_296 ?_
  refine gw_top (y := xs (i + 4)) (by rw [nI_clamp (by omega)]) ?_
  refine gc_go (pl := [34, 35, 36, 37, 38, 39, 40, 41, 42, 43, 44, 45, 46]) (S2 := SM) (ad := ad) (sg := sg3) (va_runV (As := [.int (xs (i + 1)), .int (xs (i + 2)), .int (xs (i + 3)), .int (xs (i + 4))]) (rest := []) ⟨hx, hb, hml, hown, hts⟩ (m_f_X3_order l hl9 D cI cJ (fun j => ad (gw_p [34, 35, 36, 37, 38, 39, 40, 41, 42, 43, 44, 45, 46] j)) (fun j => sg3 (gw_p [34, 35, 36, 37, 38, 39, 40, 41, 42, 43, 44, 45, 46] j)) _ (xs (i + 1)) (xs (i + 2)) (xs (i + 3)) (xs (i + 4)) T hT hM2) (cwV 4 hts (gwV a296 a297 a298 a135 a299) rfl rfl rfl (by decide +kernel) ⟨by decide, by decide⟩) (gc_preV hK hP hD hS hA hE rfl rfl rfl rfl) rfl rfl hl.1 rfl (lv_room (Nat.le_of_ble_eq_true rfl)) dL_law_297 ⟨by omega, by omega⟩) hP hD hS hA rfl (fun v8 sp9 sg10 H locs hp11 ha12 hb13 hP hD hS => ?_)
  obtain ⟨hm1, hc9, rfl⟩ := hp11
  have hM3 : EM (uT (kOrder (xs (i + 1)) (xs (i + 2)) (xs (i + 3)) (xs (i + 4))) (tOrder T (xs (i + 1)) (xs (i + 2)) (xs (i + 3)) (xs (i + 4))) T) (fun j => sg10 (gw_p [34, 35, 36, 37, 38, 39, 40, 41, 42, 43, 44, 45, 46] j)) := mod_out hm1 ha12 rfl
  have hC3 : EC (uT (kOrder (xs (i + 1)) (xs (i + 2)) (xs (i + 3)) (xs (i + 4))) (tOrder T (xs (i + 1)) (xs (i + 2)) (xs (i + 3)) (xs (i + 4))) T) sg10 := cls_keep hC2 hb13
  have hc8 : sg10 34 0 = (kOrder (xs (i + 1)) (xs (i + 2)) (xs (i + 3)) (xs (i + 4))) := (congrFun (ha12 0 (by decide)) _).trans hc9
  refine W.eq (g2 := F0 m 300 ls []) rfl ?_
  refine lv_goto (tgt := 592) hx hb dL_law_300 (by decide) ?_
  refine W.widen (k := k + 8) (n := n + 48) (by omega) (by omega) ?_
  exact hnext _ _ _ _ ⟨_, TOk_u (TOk_f _) hT, hC3, hM3⟩ hP hD hS (lv_sub hl [1, 2, 3, 4, 5] rfl)
set_option maxRecDepth 100000 in
set_option maxHeartbeats 4000000 in
theorem law_hours {p : Program} {e : Env} {s : State} {m : MethodId} {below : List Frame} {meth : Method} {c : Code} (l : Launch) (hl9 : l.stackTraces = false) {b L : Nat} {xs : Nat → Int32} (C0 : lw_At p s m meth c b L xs) (D : va_G) (cI : ClassId) (cJ : ClassId × ClassId) (ad : Nat → Nat) (hK : va_K D vwCl (tyS cI cJ) s) (hE : gc_ex gxT gxN (fun q : Nat => s.heap.size ≤ q) s s.heap) {Q : State → Prop} {i k n : Nat} (hi : i + 5 ≤ L) (hL : L ≤ 2560) (hk8 : k ≤ 4143) (hn8 : n ≤ 24864) {sg : Nat → Nat → Int32} {H : Heap} {locs : List Loc} {ls : Array Slot} (hJ : LI sg) (hP : va_P D vwCl (gw cI cJ ad sg SL) H) (hD : va_D (fun q : Nat => s.heap.size ≤ q) (gw cI cJ ad sg SL)) (hS : va_S (fun q : Nat => s.heap.size ≤ q) s.heap H locs) (hl : lv_has ls 7 [(0, .ref b), (1, .ref (ad 0)), (2, .ref (ad 34)), (3, .ref (ad 33)), (4, .int (nI i))]) (hnext : ∀ (sg2 : Nat → Nat → Int32) (H2 : Heap) (locs2 : List Loc) (ls2 : Array Slot), LI sg2 → va_P D vwCl (gw cI cJ ad sg2 SL) H2 → va_D (fun q : Nat => s.heap.size ≤ q) (gw cI cJ ad sg2 SL) → va_S (fun q : Nat => s.heap.size ≤ q) s.heap H2 locs2 → lv_has ls2 7 [(0, .ref b), (1, .ref (ad 0)), (2, .ref (ad 34)), (3, .ref (ad 33)), (4, .int (nI i))] → W p l e room_1 s m #[Value.ref b] below meth c H2 locs2 (k + 8) (n + 48) Q (F0 m 592 ls2 [])) : W p l e room_1 s m #[Value.ref b] below meth c H locs k n Q (F0 m 303 ls []) := by
  obtain ⟨hx, hb, hr, hml, hown, hts, hX, hbl, hlocks, hgv⟩ := id C0
  have hown : s.vm.findClass RL = some m.cls := hown
  have hts : ∀ w ∈ wsAll, w.before #[Value.ref b] s = true := fun w h => hts w (List.mem_filter.mp h).1
  have hA : ∀ q : Nat, s.heap.size ≤ q → (fun q : Nat => s.heap.size ≤ q) q := fun _ h => h
  have hbA : ¬ (fun q : Nat => s.heap.size ≤ q) b := Nat.not_le.mpr hbl
  have hrc : 4243 ≤ room_1.cells := by decide
  have hrs : 25864 ≤ room_1.slots := by decide
  obtain ⟨T, hT, hC, hM⟩ := hJ
  refine lv_aload_n hx hb dL_law_303 rfl (lv_at hl 1 rfl) ?_
  refine lv_aload_n hx hb dL_law_304 rfl (lv_at hl 0 rfl) ?_
  refine lv_iload hx hb dL_law_305 (lv_at hl 4 rfl) ?_
  refine lv_iconst (v := (nI 1)) hx hb dL_law_307 (by decide) ?_
  refine lv_iadd hx hb dL_law_308 ?_
  refine gw_top (y := (nI (i + 1))) (nI_add _ _) ?_
  refine va_sld hx hb hX hbl hbA hS (vp_in_nI (n := i + 1) (N := L) (by omega) (by omega)) dL_law_309 ?_
  refine gw_top (y := xs (i + 1)) (by rw [nI_clamp (by omega)]) ?_
  refine lv_aload_n hx hb dL_law_310 rfl (lv_at hl 0 rfl) ?_
  refine lv_iload hx hb dL_law_311 (lv_at hl 4 rfl) ?_
  refine lv_iconst (v := (nI 2)) hx hb dL_law_313 (by decide) ?_
  refine lv_iadd hx hb dL_law_314 ?_
  refine gw_top (y := (nI (i + 2))) (nI_add _ _) ?_
  refine va_sld hx hb hX hbl hbA hS (vp_in_nI (n := i + 2) (N := L) (by omega) (by omega)) dL_law_315 ?_
  refine gw_top (y := xs (i + 2)) (by rw [nI_clamp (by omega)]) ?_
  refine gc_go (pl := [0, 1, 2, 3, 4, 5, 6, 7, 8, 9, 10, 11, 12, 13, 14, 15, 16, 17, 18, 19, 20, 21, 22, 23, 24, 25, 26, 27, 28, 29, 30, 31, 32, 33]) (S2 := SW) (ad := ad) (sg := sg) (vx_runSW (As := [.ref (ad 0), .int (xs (i + 1)), .int (xs (i + 2))]) (rest := []) ⟨hx, hb, hml, hown, hts⟩ (m_f_L_hours l hl9 D cI cJ (fun j => ad (gw_p [0, 1, 2, 3, 4, 5, 6, 7, 8, 9, 10, 11, 12, 13, 14, 15, 16, 17, 18, 19, 20, 21, 22, 23, 24, 25, 26, 27, 28, 29, 30, 31, 32, 33] j)) (fun j => sg (gw_p [0, 1, 2, 3, 4, 5, 6, 7, 8, 9, 10, 11, 12, 13, 14, 15, 16, 17, 18, 19, 20, 21, 22, 23, 24, 25, 26, 27, 28, 29, 30, 31, 32, 33] j)) _ (xs (i + 1)) (xs (i + 2)) T hT (wr_in hC)) (vx_cwSW 3 hts (gwSW a300 a301 a273 a302) rfl rfl rfl (by decide +kernel) ⟨by decide, by decide⟩) (gc_preS hK hP hD hS hA hE rfl) rfl rfl hl.1 rfl (lv_room (Nat.le_of_ble_eq_true rfl)) dL_law_316 ⟨by omega, by omega⟩) hP hD hS hA rfl (fun v1 sp2 sg3 H locs hp4 ha5 hb6 hP hD hS => ?_)
  obtain ⟨hk1, rfl⟩ := hp4
  have hC2 : EC (uT (kHours (xs (i + 1)) (xs (i + 2))) (tHours T (xs (i + 1)) (xs (i + 2))) T) sg3 := wr_out hk1 ha5 rfl
  have hM2 : EM T (fun j => sg3 (gw_p [34, 35, 36, 37, 38, 39, 40, 41, 42, 43, 44, 45, 46] j)) := mod_keep hM hb6
  refine W.eq (g2 := F0 m 319 ls [.int (kHours (xs (i + 1)) (xs (i + 2)))]) rfl ?_
  refine lv_istore (lv' := [(5, .int (kHours (xs (i + 1)) (xs (i + 2)))), (0, .ref b), (1, .ref (ad 0)), (2, .ref (ad 34)), (3, .ref (ad 33)), (4, .int (nI i))]) hx hb dL_law_319 hl (by decide) rfl (fun ls hl => ?_)
  refine lv_aload_n hx hb dL_law_321 rfl (lv_at hl 3 rfl) ?_
  refine lv_aload_n hx hb dL_law_322 rfl (lv_at hl 1 rfl) ?_
  refine lv_iload hx hb dL_law_323 (lv_at hl 5 rfl) ?_
  refine lv_iconst (v := (nI 1)) hx hb dL_law_325 (by decide) ?_
  refine lv_iadd hx hb dL_law_326 ?_
  refine gw_top (y := (nI (i + 1))) (nI_add _ _) ?_
  refine va_sld hx hb hX hbl hbA hS (vp_in_nI (n := i + 1) (N := L) (by omega) (by omega)) dL_law_327 ?_
  refine gw_top (y := xs (i + 1)) (by rw [nI_clamp (by omega)]) ?_
  refine lv_aload_n hx hb dL_law_328 rfl (lv_at hl 1 rfl) ?_
  refine lv_iload hx hb dL_law_329 (lv_at hl 5 rfl) ?_
  refine lv_iconst (v := (nI 2)) hx hb dL_law_331 (by decide) ?_
  refine lv_iadd hx hb dL_law_332 ?_
  refine gw_top (y := (nI (i + 2))) (nI_add _ _) ?_
  refine va_sld hx hb hX hbl hbA hS (vp_in_nI (n := i + 2) (N := L) (by omega) (by omega)) dL_law_333 ?_
  refine gw_top (y := xs (i + 2)) (by rw [nI_clamp (by omega)]) ?_
  refine gc_go (pl := [34, 35, 36, 37, 38, 39, 40, 41, 42, 43, 44, 45, 46]) (S2 := SM) (ad := ad) (sg := sg3) (va_runV (As := [.int (xs (i + 1)), .int (xs (i + 2))]) (rest := []) ⟨hx, hb, hml, hown, hts⟩ (m_f_X3_hours l hl9 D cI cJ (fun j => ad (gw_p [34, 35, 36, 37, 38, 39, 40, 41, 42, 43, 44, 45, 46] j)) (fun j => sg3 (gw_p [34, 35, 36, 37, 38, 39, 40, 41, 42, 43, 44, 45, 46] j)) _ (xs (i + 1)) (xs (i + 2)) T hT hM2) (cwV 2 hts (gwV a303 a304 a305 a135 a306) rfl rfl rfl (by decide +kernel) ⟨by decide, by decide⟩) (gc_preV hK hP hD hS hA hE rfl rfl rfl rfl) rfl rfl hl.1 rfl (lv_room (Nat.le_of_ble_eq_true rfl)) dL_law_334 ⟨by omega, by omega⟩) hP hD hS hA rfl (fun v8 sp9 sg10 H locs hp11 ha12 hb13 hP hD hS => ?_)
  obtain ⟨hm1, hc9, rfl⟩ := hp11
  have hM3 : EM (uT (kHours (xs (i + 1)) (xs (i + 2))) (tHours T (xs (i + 1)) (xs (i + 2))) T) (fun j => sg10 (gw_p [34, 35, 36, 37, 38, 39, 40, 41, 42, 43, 44, 45, 46] j)) := mod_out hm1 ha12 rfl
  have hC3 : EC (uT (kHours (xs (i + 1)) (xs (i + 2))) (tHours T (xs (i + 1)) (xs (i + 2))) T) sg10 := cls_keep hC2 hb13
  have hc8 : sg10 34 0 = (kHours (xs (i + 1)) (xs (i + 2))) := (congrFun (ha12 0 (by decide)) _).trans hc9
  refine W.eq (g2 := F0 m 337 ls []) rfl ?_
  refine lv_goto (tgt := 592) hx hb dL_law_337 (by decide) ?_
  refine W.widen (k := k + 8) (n := n + 48) (by omega) (by omega) ?_
  exact hnext _ _ _ _ ⟨_, TOk_u (TOk_f _) hT, hC3, hM3⟩ hP hD hS (lv_sub hl [1, 2, 3, 4, 5] rfl)
set_option maxRecDepth 100000 in
set_option maxHeartbeats 4000000 in
theorem law_run {p : Program} {e : Env} {s : State} {m : MethodId} {below : List Frame} {meth : Method} {c : Code} (l : Launch) (hl9 : l.stackTraces = false) {b L : Nat} {xs : Nat → Int32} (C0 : lw_At p s m meth c b L xs) (D : va_G) (cI : ClassId) (cJ : ClassId × ClassId) (ad : Nat → Nat) (hK : va_K D vwCl (tyS cI cJ) s) (hE : gc_ex gxT gxN (fun q : Nat => s.heap.size ≤ q) s s.heap) {Q : State → Prop} {i k n : Nat} (hi : i + 5 ≤ L) (hL : L ≤ 2560) (hk8 : k ≤ 4143) (hn8 : n ≤ 24864) {sg : Nat → Nat → Int32} {H : Heap} {locs : List Loc} {ls : Array Slot} (hJ : LI sg) (hP : va_P D vwCl (gw cI cJ ad sg SL) H) (hD : va_D (fun q : Nat => s.heap.size ≤ q) (gw cI cJ ad sg SL)) (hS : va_S (fun q : Nat => s.heap.size ≤ q) s.heap H locs) (hl : lv_has ls 7 [(0, .ref b), (1, .ref (ad 0)), (2, .ref (ad 34)), (3, .ref (ad 33)), (4, .int (nI i))]) (hnext : ∀ (sg2 : Nat → Nat → Int32) (H2 : Heap) (locs2 : List Loc) (ls2 : Array Slot), LI sg2 → va_P D vwCl (gw cI cJ ad sg2 SL) H2 → va_D (fun q : Nat => s.heap.size ≤ q) (gw cI cJ ad sg2 SL) → va_S (fun q : Nat => s.heap.size ≤ q) s.heap H2 locs2 → lv_has ls2 7 [(0, .ref b), (1, .ref (ad 0)), (2, .ref (ad 34)), (3, .ref (ad 33)), (4, .int (nI i))] → W p l e room_1 s m #[Value.ref b] below meth c H2 locs2 (k + 8) (n + 48) Q (F0 m 592 ls2 [])) : W p l e room_1 s m #[Value.ref b] below meth c H locs k n Q (F0 m 340 ls []) := by
  obtain ⟨hx, hb, hr, hml, hown, hts, hX, hbl, hlocks, hgv⟩ := id C0
  have hown : s.vm.findClass RL = some m.cls := hown
  have hts : ∀ w ∈ wsAll, w.before #[Value.ref b] s = true := fun w h => hts w (List.mem_filter.mp h).1
  have hA : ∀ q : Nat, s.heap.size ≤ q → (fun q : Nat => s.heap.size ≤ q) q := fun _ h => h
  have hbA : ¬ (fun q : Nat => s.heap.size ≤ q) b := Nat.not_le.mpr hbl
  have hrc : 4243 ≤ room_1.cells := by decide
  have hrs : 25864 ≤ room_1.slots := by decide
  obtain ⟨T, hT, hC, hM⟩ := hJ
  refine lv_aload_n hx hb dL_law_340 rfl (lv_at hl 1 rfl) ?_
  refine lv_aload_n hx hb dL_law_341 rfl (lv_at hl 0 rfl) ?_
  refine lv_iload hx hb dL_law_342 (lv_at hl 4 rfl) ?_
  refine lv_iconst (v := (nI 1)) hx hb dL_law_344 (by decide) ?_
  refine lv_iadd hx hb dL_law_345 ?_
  refine gw_top (y := (nI (i + 1))) (nI_add _ _) ?_
  refine va_sld hx hb hX hbl hbA hS (vp_in_nI (n := i + 1) (N := L) (by omega) (by omega)) dL_law_346 ?_
  refine gw_top (y := xs (i + 1)) (by rw [nI_clamp (by omega)]) ?_
  refine lv_aload_n hx hb dL_law_347 rfl (lv_at hl 3 rfl) ?_
  refine gc_go (pl := [0, 1, 2, 3, 4, 5, 6, 7, 8, 9, 10, 11, 12, 13, 14, 15, 16, 17, 18, 19, 20, 21, 22, 23, 24, 25, 26, 27, 28, 29, 30, 31, 32, 33]) (S2 := SW) (ad := ad) (sg := sg) (vx_runSW (As := [.ref (ad 0), .int (xs (i + 1)), .ref (ad 33)]) (rest := []) ⟨hx, hb, hml, hown, hts⟩ (m_f_L_run l hl9 D cI cJ (fun j => ad (gw_p [0, 1, 2, 3, 4, 5, 6, 7, 8, 9, 10, 11, 12, 13, 14, 15, 16, 17, 18, 19, 20, 21, 22, 23, 24, 25, 26, 27, 28, 29, 30, 31, 32, 33] j)) (fun j => sg (gw_p [0, 1, 2, 3, 4, 5, 6, 7, 8, 9, 10, 11, 12, 13, 14, 15, 16, 17, 18, 19, 20, 21, 22, 23, 24, 25, 26, 27, 28, 29, 30, 31, 32, 33] j)) _ (xs (i + 1)) T hT (wr_in hC)) (vx_cwSW 3 hts (gwSW a307 a308 a273 a309) rfl rfl rfl (by decide +kernel) ⟨by decide, by decide⟩) (gc_preS hK hP hD hS hA hE rfl) rfl rfl hl.1 rfl (lv_room (Nat.le_of_ble_eq_true rfl)) dL_law_348 ⟨by omega, by omega⟩) hP hD hS hA rfl (fun v1 sp2 sg3 H locs hp4 ha5 hb6 hP hD hS => ?_)
  obtain ⟨hk1, rfl, ho1⟩ := hp4
  have hC2 : EC (uT (kRun (xs (i + 1))) (tRun T (xs (i + 1))) T) sg3 := wr_out hk1 ha5 rfl
  have hM2 : EM T (fun j => sg3 (gw_p [34, 35, 36, 37, 38, 39, 40, 41, 42, 43, 44, 45, 46] j)) := mod_keep hM hb6
  have ho2 : (kRun (xs (i + 1))) = nI 0 → sg3 33 0 = (aRun T (xs (i + 1))) := fun h9 => (congrFun (ha5 33 (by decide)) _).trans (ho1 h9)
  refine W.eq (g2 := F0 m 351 ls [.int (kRun (xs (i + 1)))]) rfl ?_
  refine lv_istore (lv' := [(5, .int (kRun (xs (i + 1)))), (0, .ref b), (1, .ref (ad 0)), (2, .ref (ad 34)), (3, .ref (ad 33)), (4, .int (nI i))]) hx hb dL_law_351 hl (by decide) rfl (fun ls hl => ?_)
  refine lv_aload_n hx hb dL_law_353 rfl (lv_at hl 3 rfl) ?_
  refine lv_aload_n hx hb dL_law_354 rfl (lv_at hl 1 rfl) ?_
  refine lv_iload hx hb dL_law_355 (lv_at hl 5 rfl) ?_
  refine lv_iconst (v := (nI 1)) hx hb dL_law_357 (by decide) ?_
  refine lv_iadd hx hb dL_law_358 ?_
  refine gw_top (y := (nI (i + 1))) (nI_add _ _) ?_
  refine va_sld hx hb hX hbl hbA hS (vp_in_nI (n := i + 1) (N := L) (by omega) (by omega)) dL_law_359 ?_
  refine gw_top (y := xs (i + 1)) (by rw [nI_clamp (by omega)]) ?_
  refine gc_go (pl := [34, 35, 36, 37, 38, 39, 40, 41, 42, 43, 44, 45, 46]) (S2 := SM) (ad := ad) (sg := sg3) (va_runV (As := [.int (xs (i + 1))]) (rest := []) ⟨hx, hb, hml, hown, hts⟩ (m_f_X3_run l hl9 D cI cJ (fun j => ad (gw_p [34, 35, 36, 37, 38, 39, 40, 41, 42, 43, 44, 45, 46] j)) (fun j => sg3 (gw_p [34, 35, 36, 37, 38, 39, 40, 41, 42, 43, 44, 45, 46] j)) _ (xs (i + 1)) T hT hM2) (cwV 1 hts (gwV a310 a311 a312 a135 a313) rfl rfl rfl (by decide +kernel) ⟨by decide, by decide⟩) (gc_preV hK hP hD hS hA hE rfl rfl rfl rfl) rfl rfl hl.1 rfl (lv_room (Nat.le_of_ble_eq_true rfl)) dL_law_360 ⟨by omega, by omega⟩) hP hD hS hA rfl (fun v8 sp9 sg10 H locs hp11 ha12 hb13 hP hD hS => ?_)
  obtain ⟨hm1, hc9, hv9, r14, rfl⟩ := hp11
  have hM3 : EM (uT (kRun (xs (i + 1))) (tRun T (xs (i + 1))) T) (fun j => sg10 (gw_p [34, 35, 36, 37, 38, 39, 40, 41, 42, 43, 44, 45, 46] j)) := mod_out hm1 ha12 rfl
  have hC3 : EC (uT (kRun (xs (i + 1))) (tRun T (xs (i + 1))) T) sg10 := cls_keep hC2 hb13
  have hc8 : sg10 34 0 = (kRun (xs (i + 1))) := (congrFun (ha12 0 (by decide)) _).trans hc9
  have hv : (kRun (xs (i + 1))) = nI 0 → r14 = (aRun T (xs (i + 1))) ∧ sg10 33 0 = (aRun T (xs (i + 1))) := fun h9 => ⟨Value.int.inj (Option.some.inj (hv9 h9)), (congrFun (hb13 33 (by decide)) _).trans (ho2 h9)⟩
  refine W.eq (g2 := F0 m 363 ls [.int r14]) rfl ?_
  refine lv_istore (lv' := [(6, .int r14), (5, .int (kRun (xs (i + 1)))), (0, .ref b), (1, .ref (ad 0)), (2, .ref (ad 34)), (3, .ref (ad 33)), (4, .int (nI i))]) hx hb dL_law_363 hl (by decide) rfl (fun ls hl => ?_)
  refine lv_goto (tgt := 592) hx hb dL_law_365 (by decide) ?_
  refine W.widen (k := k + 8) (n := n + 48) (by omega) (by omega) ?_
  exact hnext _ _ _ _ ⟨_, TOk_u (TOk_run _ _) hT, hC3, hM3⟩ hP hD hS (lv_sub hl [2, 3, 4, 5, 6] rfl)
set_option maxRecDepth 100000 in
set_option maxHeartbeats 4000000 in
theorem law_search {p : Program} {e : Env} {s : State} {m : MethodId} {below : List Frame} {meth : Method} {c : Code} (l : Launch) (hl9 : l.stackTraces = false) {b L : Nat} {xs : Nat → Int32} (C0 : lw_At p s m meth c b L xs) (D : va_G) (cI : ClassId) (cJ : ClassId × ClassId) (ad : Nat → Nat) (hK : va_K D vwCl (tyS cI cJ) s) (hE : gc_ex gxT gxN (fun q : Nat => s.heap.size ≤ q) s s.heap) {Q : State → Prop} {i k n : Nat} (hi : i + 5 ≤ L) (hL : L ≤ 2560) (hk8 : k ≤ 4143) (hn8 : n ≤ 24864) {sg : Nat → Nat → Int32} {H : Heap} {locs : List Loc} {ls : Array Slot} (hJ : LI sg) (hP : va_P D vwCl (gw cI cJ ad sg SL) H) (hD : va_D (fun q : Nat => s.heap.size ≤ q) (gw cI cJ ad sg SL)) (hS : va_S (fun q : Nat => s.heap.size ≤ q) s.heap H locs) (hl : lv_has ls 7 [(0, .ref b), (1, .ref (ad 0)), (2, .ref (ad 34)), (3, .ref (ad 33)), (4, .int (nI i))]) (hnext : ∀ (sg2 : Nat → Nat → Int32) (H2 : Heap) (locs2 : List Loc) (ls2 : Array Slot), LI sg2 → va_P D vwCl (gw cI cJ ad sg2 SL) H2 → va_D (fun q : Nat => s.heap.size ≤ q) (gw cI cJ ad sg2 SL) → va_S (fun q : Nat => s.heap.size ≤ q) s.heap H2 locs2 → lv_has ls2 7 [(0, .ref b), (1, .ref (ad 0)), (2, .ref (ad 34)), (3, .ref (ad 33)), (4, .int (nI i))] → W p l e room_1 s m #[Value.ref b] below meth c H2 locs2 (k + 8) (n + 48) Q (F0 m 592 ls2 [])) : W p l e room_1 s m #[Value.ref b] below meth c H locs k n Q (F0 m 368 ls []) := by
  obtain ⟨hx, hb, hr, hml, hown, hts, hX, hbl, hlocks, hgv⟩ := id C0
  have hown : s.vm.findClass RL = some m.cls := hown
  have hts : ∀ w ∈ wsAll, w.before #[Value.ref b] s = true := fun w h => hts w (List.mem_filter.mp h).1
  have hA : ∀ q : Nat, s.heap.size ≤ q → (fun q : Nat => s.heap.size ≤ q) q := fun _ h => h
  have hbA : ¬ (fun q : Nat => s.heap.size ≤ q) b := Nat.not_le.mpr hbl
  have hrc : 4243 ≤ room_1.cells := by decide
  have hrs : 25864 ≤ room_1.slots := by decide
  obtain ⟨T, hT, hC, hM⟩ := hJ
  refine lv_aload_n hx hb dL_law_368 rfl (lv_at hl 1 rfl) ?_
  refine lv_aload_n hx hb dL_law_369 rfl (lv_at hl 0 rfl) ?_
  refine lv_iload hx hb dL_law_370 (lv_at hl 4 rfl) ?_
  refine lv_iconst (v := (nI 1)) hx hb dL_law_372 (by decide) ?_
  refine lv_iadd hx hb dL_law_373 ?_
  refine gw_top (y := (nI (i + 1))) (nI_add _ _) ?_
  refine va_sld hx hb hX hbl hbA hS (vp_in_nI (n := i + 1) (N := L) (by omega) (by omega)) dL_law_374 ?_
  refine gw_top (y := xs (i + 1)) (by rw [nI_clamp (by omega)]) ?_
  refine lv_aload_n hx hb dL_law_375 rfl (lv_at hl 3 rfl) ?_
  refine gc_go (pl := [0, 1, 2, 3, 4, 5, 6, 7, 8, 9, 10, 11, 12, 13, 14, 15, 16, 17, 18, 19, 20, 21, 22, 23, 24, 25, 26, 27, 28, 29, 30, 31, 32, 33]) (S2 := SW) (ad := ad) (sg := sg) (vx_runSW (As := [.ref (ad 0), .int (xs (i + 1)), .ref (ad 33)]) (rest := []) ⟨hx, hb, hml, hown, hts⟩ (m_f_L_search l hl9 D cI cJ (fun j => ad (gw_p [0, 1, 2, 3, 4, 5, 6, 7, 8, 9, 10, 11, 12, 13, 14, 15, 16, 17, 18, 19, 20, 21, 22, 23, 24, 25, 26, 27, 28, 29, 30, 31, 32, 33] j)) (fun j => sg (gw_p [0, 1, 2, 3, 4, 5, 6, 7, 8, 9, 10, 11, 12, 13, 14, 15, 16, 17, 18, 19, 20, 21, 22, 23, 24, 25, 26, 27, 28, 29, 30, 31, 32, 33] j)) _ (xs (i + 1)) T hT (wr_in hC)) (vx_cwSW 3 hts (gwSW a314 a315 a273 a316) rfl rfl rfl (by decide +kernel) ⟨by decide, by decide⟩) (gc_preS hK hP hD hS hA hE rfl) rfl rfl hl.1 rfl (lv_room (Nat.le_of_ble_eq_true rfl)) dL_law_376 ⟨by omega, by omega⟩) hP hD hS hA rfl (fun v1 sp2 sg3 H locs hp4 ha5 hb6 hP hD hS => ?_)
  obtain ⟨hk1, r7, rfl⟩ := hp4
  have hC2 : EC (T) sg3 := wr_out hk1 ha5 rfl
  have hM2 : EM T (fun j => sg3 (gw_p [34, 35, 36, 37, 38, 39, 40, 41, 42, 43, 44, 45, 46] j)) := mod_keep hM hb6
  refine W.eq (g2 := F0 m 379 ls [.int r7]) rfl ?_
  refine lv_istore (lv' := [(5, .int r7), (0, .ref b), (1, .ref (ad 0)), (2, .ref (ad 34)), (3, .ref (ad 33)), (4, .int (nI i))]) hx hb dL_law_379 hl (by decide) rfl (fun ls hl => ?_)
  refine lv_aload_n hx hb dL_law_381 rfl (lv_at hl 3 rfl) ?_
  refine lv_aload_n hx hb dL_law_382 rfl (lv_at hl 1 rfl) ?_
  refine lv_iload hx hb dL_law_383 (lv_at hl 5 rfl) ?_
  refine lv_iconst (v := (nI 1)) hx hb dL_law_385 (by decide) ?_
  refine lv_iadd hx hb dL_law_386 ?_
  refine gw_top (y := (nI (i + 1))) (nI_add _ _) ?_
  refine va_sld hx hb hX hbl hbA hS (vp_in_nI (n := i + 1) (N := L) (by omega) (by omega)) dL_law_387 ?_
  refine gw_top (y := xs (i + 1)) (by rw [nI_clamp (by omega)]) ?_
  refine gc_go (pl := [34, 35, 36, 37, 38, 39, 40, 41, 42, 43, 44, 45, 46]) (S2 := SM) (ad := ad) (sg := sg3) (va_runV (As := [.int (xs (i + 1))]) (rest := []) ⟨hx, hb, hml, hown, hts⟩ (m_f_X3_search l hl9 D cI cJ (fun j => ad (gw_p [34, 35, 36, 37, 38, 39, 40, 41, 42, 43, 44, 45, 46] j)) (fun j => sg3 (gw_p [34, 35, 36, 37, 38, 39, 40, 41, 42, 43, 44, 45, 46] j)) _ (xs (i + 1)) T hT hM2) (cwV 1 hts (gwV a317 a318 a319 a135 a320) rfl rfl rfl (by decide +kernel) ⟨by decide, by decide⟩) (gc_preV hK hP hD hS hA hE rfl rfl rfl rfl) rfl rfl hl.1 rfl (lv_room (Nat.le_of_ble_eq_true rfl)) dL_law_388 ⟨by omega, by omega⟩) hP hD hS hA rfl (fun v8 sp9 sg10 H locs hp11 ha12 hb13 hP hD hS => ?_)
  obtain ⟨hm1, r14, rfl⟩ := hp11
  have hM3 : EM (T) (fun j => sg10 (gw_p [34, 35, 36, 37, 38, 39, 40, 41, 42, 43, 44, 45, 46] j)) := mod_out hm1 ha12 rfl
  have hC3 : EC (T) sg10 := cls_keep hC2 hb13
  refine W.eq (g2 := F0 m 391 ls [.int r14]) rfl ?_
  refine lv_istore (lv' := [(6, .int r14), (5, .int r7), (0, .ref b), (1, .ref (ad 0)), (2, .ref (ad 34)), (3, .ref (ad 33)), (4, .int (nI i))]) hx hb dL_law_391 hl (by decide) rfl (fun ls hl => ?_)
  refine lv_goto (tgt := 592) hx hb dL_law_393 (by decide) ?_
  refine W.widen (k := k + 8) (n := n + 48) (by omega) (by omega) ?_
  exact hnext _ _ _ _ ⟨_, hT, hC3, hM3⟩ hP hD hS (lv_sub hl [2, 3, 4, 5, 6] rfl)
set_option maxRecDepth 100000 in
set_option maxHeartbeats 4000000 in
theorem law_used {p : Program} {e : Env} {s : State} {m : MethodId} {below : List Frame} {meth : Method} {c : Code} (l : Launch) (hl9 : l.stackTraces = false) {b L : Nat} {xs : Nat → Int32} (C0 : lw_At p s m meth c b L xs) (D : va_G) (cI : ClassId) (cJ : ClassId × ClassId) (ad : Nat → Nat) (hK : va_K D vwCl (tyS cI cJ) s) (hE : gc_ex gxT gxN (fun q : Nat => s.heap.size ≤ q) s s.heap) {Q : State → Prop} {i k n : Nat} (hi : i + 5 ≤ L) (hL : L ≤ 2560) (hk8 : k ≤ 4143) (hn8 : n ≤ 24864) {sg : Nat → Nat → Int32} {H : Heap} {locs : List Loc} {ls : Array Slot} (hJ : LI sg) (hP : va_P D vwCl (gw cI cJ ad sg SL) H) (hD : va_D (fun q : Nat => s.heap.size ≤ q) (gw cI cJ ad sg SL)) (hS : va_S (fun q : Nat => s.heap.size ≤ q) s.heap H locs) (hl : lv_has ls 7 [(0, .ref b), (1, .ref (ad 0)), (2, .ref (ad 34)), (3, .ref (ad 33)), (4, .int (nI i))]) (hnext : ∀ (sg2 : Nat → Nat → Int32) (H2 : Heap) (locs2 : List Loc) (ls2 : Array Slot), LI sg2 → va_P D vwCl (gw cI cJ ad sg2 SL) H2 → va_D (fun q : Nat => s.heap.size ≤ q) (gw cI cJ ad sg2 SL) → va_S (fun q : Nat => s.heap.size ≤ q) s.heap H2 locs2 → lv_has ls2 7 [(0, .ref b), (1, .ref (ad 0)), (2, .ref (ad 34)), (3, .ref (ad 33)), (4, .int (nI i))] → W p l e room_1 s m #[Value.ref b] below meth c H2 locs2 (k + 8) (n + 48) Q (F0 m 592 ls2 [])) : W p l e room_1 s m #[Value.ref b] below meth c H locs k n Q (F0 m 396 ls []) := by
  obtain ⟨hx, hb, hr, hml, hown, hts, hX, hbl, hlocks, hgv⟩ := id C0
  have hown : s.vm.findClass RL = some m.cls := hown
  have hts : ∀ w ∈ wsAll, w.before #[Value.ref b] s = true := fun w h => hts w (List.mem_filter.mp h).1
  have hA : ∀ q : Nat, s.heap.size ≤ q → (fun q : Nat => s.heap.size ≤ q) q := fun _ h => h
  have hbA : ¬ (fun q : Nat => s.heap.size ≤ q) b := Nat.not_le.mpr hbl
  have hrc : 4243 ≤ room_1.cells := by decide
  have hrs : 25864 ≤ room_1.slots := by decide
  obtain ⟨T, hT, hC, hM⟩ := hJ
  refine lv_aload_n hx hb dL_law_396 rfl (lv_at hl 1 rfl) ?_
  refine lv_aload_n hx hb dL_law_397 rfl (lv_at hl 0 rfl) ?_
  refine lv_iload hx hb dL_law_398 (lv_at hl 4 rfl) ?_
  refine lv_iconst (v := (nI 1)) hx hb dL_law_400 (by decide) ?_
  refine lv_iadd hx hb dL_law_401 ?_
  refine gw_top (y := (nI (i + 1))) (nI_add _ _) ?_
  refine va_sld hx hb hX hbl hbA hS (vp_in_nI (n := i + 1) (N := L) (by omega) (by omega)) dL_law_402 ?_
  refine gw_top (y := xs (i + 1)) (by rw [nI_clamp (by omega)]) ?_
  refine lv_aload_n hx hb dL_law_403 rfl (lv_at hl 3 rfl) ?_
  refine gc_go (pl := [0, 1, 2, 3, 4, 5, 6, 7, 8, 9, 10, 11, 12, 13, 14, 15, 16, 17, 18, 19, 20, 21, 22, 23, 24, 25, 26, 27, 28, 29, 30, 31, 32, 33]) (S2 := SW) (ad := ad) (sg := sg) (vx_runSW (As := [.ref (ad 0), .int (xs (i + 1)), .ref (ad 33)]) (rest := []) ⟨hx, hb, hml, hown, hts⟩ (m_f_L_used l hl9 D cI cJ (fun j => ad (gw_p [0, 1, 2, 3, 4, 5, 6, 7, 8, 9, 10, 11, 12, 13, 14, 15, 16, 17, 18, 19, 20, 21, 22, 23, 24, 25, 26, 27, 28, 29, 30, 31, 32, 33] j)) (fun j => sg (gw_p [0, 1, 2, 3, 4, 5, 6, 7, 8, 9, 10, 11, 12, 13, 14, 15, 16, 17, 18, 19, 20, 21, 22, 23, 24, 25, 26, 27, 28, 29, 30, 31, 32, 33] j)) _ (xs (i + 1)) T hT (wr_in hC)) (vx_cwSW 3 hts (gwSW a321 a322 a273 a323) rfl rfl rfl (by decide +kernel) ⟨by decide, by decide⟩) (gc_preS hK hP hD hS hA hE rfl) rfl rfl hl.1 rfl (lv_room (Nat.le_of_ble_eq_true rfl)) dL_law_404 ⟨by omega, by omega⟩) hP hD hS hA rfl (fun v1 sp2 sg3 H locs hp4 ha5 hb6 hP hD hS => ?_)
  obtain ⟨hk1, rfl, ho1⟩ := hp4
  have hC2 : EC (T) sg3 := wr_out hk1 ha5 rfl
  have hM2 : EM T (fun j => sg3 (gw_p [34, 35, 36, 37, 38, 39, 40, 41, 42, 43, 44, 45, 46] j)) := mod_keep hM hb6
  have ho2 : (qUsed T (xs (i + 1))) = nI 0 → sg3 33 0 = (aUsed T (xs (i + 1))) := fun h9 => (congrFun (ha5 33 (by decide)) _).trans (ho1 h9)
  refine W.eq (g2 := F0 m 407 ls [.int (qUsed T (xs (i + 1)))]) rfl ?_
  refine lv_istore (lv' := [(5, .int (qUsed T (xs (i + 1)))), (0, .ref b), (1, .ref (ad 0)), (2, .ref (ad 34)), (3, .ref (ad 33)), (4, .int (nI i))]) hx hb dL_law_407 hl (by decide) rfl (fun ls hl => ?_)
  refine lv_aload_n hx hb dL_law_409 rfl (lv_at hl 3 rfl) ?_
  refine lv_aload_n hx hb dL_law_410 rfl (lv_at hl 1 rfl) ?_
  refine lv_iload hx hb dL_law_411 (lv_at hl 5 rfl) ?_
  refine lv_iconst (v := (nI 1)) hx hb dL_law_413 (by decide) ?_
  refine lv_iadd hx hb dL_law_414 ?_
  refine gw_top (y := (nI (i + 1))) (nI_add _ _) ?_
  refine va_sld hx hb hX hbl hbA hS (vp_in_nI (n := i + 1) (N := L) (by omega) (by omega)) dL_law_415 ?_
  refine gw_top (y := xs (i + 1)) (by rw [nI_clamp (by omega)]) ?_
  refine gc_go (pl := [34, 35, 36, 37, 38, 39, 40, 41, 42, 43, 44, 45, 46]) (S2 := SM) (ad := ad) (sg := sg3) (va_runV (As := [.int (xs (i + 1))]) (rest := []) ⟨hx, hb, hml, hown, hts⟩ (m_f_X3_used l hl9 D cI cJ (fun j => ad (gw_p [34, 35, 36, 37, 38, 39, 40, 41, 42, 43, 44, 45, 46] j)) (fun j => sg3 (gw_p [34, 35, 36, 37, 38, 39, 40, 41, 42, 43, 44, 45, 46] j)) _ (xs (i + 1)) T hT hM2) (cwV 1 hts (gwV a324 a325 a326 a135 a327) rfl rfl rfl (by decide +kernel) ⟨by decide, by decide⟩) (gc_preV hK hP hD hS hA hE rfl rfl rfl rfl) rfl rfl hl.1 rfl (lv_room (Nat.le_of_ble_eq_true rfl)) dL_law_416 ⟨by omega, by omega⟩) hP hD hS hA rfl (fun v8 sp9 sg10 H locs hp11 ha12 hb13 hP hD hS => ?_)
  obtain ⟨hm1, hc9, hv9, r14, rfl⟩ := hp11
  have hM3 : EM (T) (fun j => sg10 (gw_p [34, 35, 36, 37, 38, 39, 40, 41, 42, 43, 44, 45, 46] j)) := mod_out hm1 ha12 rfl
  have hC3 : EC (T) sg10 := cls_keep hC2 hb13
  have hc8 : sg10 34 0 = (qUsed T (xs (i + 1))) := (congrFun (ha12 0 (by decide)) _).trans hc9
  have hv : (qUsed T (xs (i + 1))) = nI 0 → r14 = (aUsed T (xs (i + 1))) ∧ sg10 33 0 = (aUsed T (xs (i + 1))) := fun h9 => ⟨Value.int.inj (Option.some.inj (hv9 h9)), (congrFun (hb13 33 (by decide)) _).trans (ho2 h9)⟩
  refine W.eq (g2 := F0 m 419 ls [.int r14]) rfl ?_
  refine lv_istore (lv' := [(6, .int r14), (5, .int (qUsed T (xs (i + 1)))), (0, .ref b), (1, .ref (ad 0)), (2, .ref (ad 34)), (3, .ref (ad 33)), (4, .int (nI i))]) hx hb dL_law_419 hl (by decide) rfl (fun ls hl => ?_)
  refine lv_goto (tgt := 592) hx hb dL_law_421 (by decide) ?_
  refine W.widen (k := k + 8) (n := n + 48) (by omega) (by omega) ?_
  exact hnext _ _ _ _ ⟨_, hT, hC3, hM3⟩ hP hD hS (lv_sub hl [2, 3, 4, 5, 6] rfl)
set_option maxRecDepth 100000 in
set_option maxHeartbeats 4000000 in
theorem law_best {p : Program} {e : Env} {s : State} {m : MethodId} {below : List Frame} {meth : Method} {c : Code} (l : Launch) (hl9 : l.stackTraces = false) {b L : Nat} {xs : Nat → Int32} (C0 : lw_At p s m meth c b L xs) (D : va_G) (cI : ClassId) (cJ : ClassId × ClassId) (ad : Nat → Nat) (hK : va_K D vwCl (tyS cI cJ) s) (hE : gc_ex gxT gxN (fun q : Nat => s.heap.size ≤ q) s s.heap) {Q : State → Prop} {i k n : Nat} (hi : i + 5 ≤ L) (hL : L ≤ 2560) (hk8 : k ≤ 4143) (hn8 : n ≤ 24864) {sg : Nat → Nat → Int32} {H : Heap} {locs : List Loc} {ls : Array Slot} (hJ : LI sg) (hP : va_P D vwCl (gw cI cJ ad sg SL) H) (hD : va_D (fun q : Nat => s.heap.size ≤ q) (gw cI cJ ad sg SL)) (hS : va_S (fun q : Nat => s.heap.size ≤ q) s.heap H locs) (hl : lv_has ls 7 [(0, .ref b), (1, .ref (ad 0)), (2, .ref (ad 34)), (3, .ref (ad 33)), (4, .int (nI i))]) (hnext : ∀ (sg2 : Nat → Nat → Int32) (H2 : Heap) (locs2 : List Loc) (ls2 : Array Slot), LI sg2 → va_P D vwCl (gw cI cJ ad sg2 SL) H2 → va_D (fun q : Nat => s.heap.size ≤ q) (gw cI cJ ad sg2 SL) → va_S (fun q : Nat => s.heap.size ≤ q) s.heap H2 locs2 → lv_has ls2 7 [(0, .ref b), (1, .ref (ad 0)), (2, .ref (ad 34)), (3, .ref (ad 33)), (4, .int (nI i))] → W p l e room_1 s m #[Value.ref b] below meth c H2 locs2 (k + 8) (n + 48) Q (F0 m 592 ls2 [])) : W p l e room_1 s m #[Value.ref b] below meth c H locs k n Q (F0 m 424 ls []) := by
  obtain ⟨hx, hb, hr, hml, hown, hts, hX, hbl, hlocks, hgv⟩ := id C0
  have hown : s.vm.findClass RL = some m.cls := hown
  have hts : ∀ w ∈ wsAll, w.before #[Value.ref b] s = true := fun w h => hts w (List.mem_filter.mp h).1
  have hA : ∀ q : Nat, s.heap.size ≤ q → (fun q : Nat => s.heap.size ≤ q) q := fun _ h => h
  have hbA : ¬ (fun q : Nat => s.heap.size ≤ q) b := Nat.not_le.mpr hbl
  have hrc : 4243 ≤ room_1.cells := by decide
  have hrs : 25864 ≤ room_1.slots := by decide
  obtain ⟨T, hT, hC, hM⟩ := hJ
  refine lv_aload_n hx hb dL_law_424 rfl (lv_at hl 1 rfl) ?_
  refine lv_aload_n hx hb dL_law_425 rfl (lv_at hl 0 rfl) ?_
  refine lv_iload hx hb dL_law_426 (lv_at hl 4 rfl) ?_
  refine lv_iconst (v := (nI 1)) hx hb dL_law_428 (by decide) ?_
  refine lv_iadd hx hb dL_law_429 ?_
  refine gw_top (y := (nI (i + 1))) (nI_add _ _) ?_
  refine va_sld hx hb hX hbl hbA hS (vp_in_nI (n := i + 1) (N := L) (by omega) (by omega)) dL_law_430 ?_
  refine gw_top (y := xs (i + 1)) (by rw [nI_clamp (by omega)]) ?_
  refine lv_aload_n hx hb dL_law_431 rfl (lv_at hl 3 rfl) ?_
  refine gc_go (pl := [0, 1, 2, 3, 4, 5, 6, 7, 8, 9, 10, 11, 12, 13, 14, 15, 16, 17, 18, 19, 20, 21, 22, 23, 24, 25, 26, 27, 28, 29, 30, 31, 32, 33]) (S2 := SW) (ad := ad) (sg := sg) (vx_runSW (As := [.ref (ad 0), .int (xs (i + 1)), .ref (ad 33)]) (rest := []) ⟨hx, hb, hml, hown, hts⟩ (m_f_L_best l hl9 D cI cJ (fun j => ad (gw_p [0, 1, 2, 3, 4, 5, 6, 7, 8, 9, 10, 11, 12, 13, 14, 15, 16, 17, 18, 19, 20, 21, 22, 23, 24, 25, 26, 27, 28, 29, 30, 31, 32, 33] j)) (fun j => sg (gw_p [0, 1, 2, 3, 4, 5, 6, 7, 8, 9, 10, 11, 12, 13, 14, 15, 16, 17, 18, 19, 20, 21, 22, 23, 24, 25, 26, 27, 28, 29, 30, 31, 32, 33] j)) _ (xs (i + 1)) T hT (wr_in hC)) (vx_cwSW 3 hts (gwSW a328 a329 a273 a330) rfl rfl rfl (by decide +kernel) ⟨by decide, by decide⟩) (gc_preS hK hP hD hS hA hE rfl) rfl rfl hl.1 rfl (lv_room (Nat.le_of_ble_eq_true rfl)) dL_law_432 ⟨by omega, by omega⟩) hP hD hS hA rfl (fun v1 sp2 sg3 H locs hp4 ha5 hb6 hP hD hS => ?_)
  obtain ⟨hk1, rfl, ho1⟩ := hp4
  have hC2 : EC (T) sg3 := wr_out hk1 ha5 rfl
  have hM2 : EM T (fun j => sg3 (gw_p [34, 35, 36, 37, 38, 39, 40, 41, 42, 43, 44, 45, 46] j)) := mod_keep hM hb6
  have ho2 : (qBest T (xs (i + 1))) = nI 0 → sg3 33 0 = (aBest T (xs (i + 1))) := fun h9 => (congrFun (ha5 33 (by decide)) _).trans (ho1 h9)
  refine W.eq (g2 := F0 m 435 ls [.int (qBest T (xs (i + 1)))]) rfl ?_
  refine lv_istore (lv' := [(5, .int (qBest T (xs (i + 1)))), (0, .ref b), (1, .ref (ad 0)), (2, .ref (ad 34)), (3, .ref (ad 33)), (4, .int (nI i))]) hx hb dL_law_435 hl (by decide) rfl (fun ls hl => ?_)
  refine lv_aload_n hx hb dL_law_437 rfl (lv_at hl 3 rfl) ?_
  refine lv_aload_n hx hb dL_law_438 rfl (lv_at hl 1 rfl) ?_
  refine lv_iload hx hb dL_law_439 (lv_at hl 5 rfl) ?_
  refine lv_iconst (v := (nI 1)) hx hb dL_law_441 (by decide) ?_
  refine lv_iadd hx hb dL_law_442 ?_
  refine gw_top (y := (nI (i + 1))) (nI_add _ _) ?_
  refine va_sld hx hb hX hbl hbA hS (vp_in_nI (n := i + 1) (N := L) (by omega) (by omega)) dL_law_443 ?_
  refine gw_top (y := xs (i + 1)) (by rw [nI_clamp (by omega)]) ?_
  refine gc_go (pl := [34, 35, 36, 37, 38, 39, 40, 41, 42, 43, 44, 45, 46]) (S2 := SM) (ad := ad) (sg := sg3) (va_runV (As := [.int (xs (i + 1))]) (rest := []) ⟨hx, hb, hml, hown, hts⟩ (m_f_X3_best l hl9 D cI cJ (fun j => ad (gw_p [34, 35, 36, 37, 38, 39, 40, 41, 42, 43, 44, 45, 46] j)) (fun j => sg3 (gw_p [34, 35, 36, 37, 38, 39, 40, 41, 42, 43, 44, 45, 46] j)) _ (xs (i + 1)) T hT hM2) (cwV 1 hts (gwV a331 a332 a333 a135 a334) rfl rfl rfl (by decide +kernel) ⟨by decide, by decide⟩) (gc_preV hK hP hD hS hA hE rfl rfl rfl rfl) rfl rfl hl.1 rfl (lv_room (Nat.le_of_ble_eq_true rfl)) dL_law_444 ⟨by omega, by omega⟩) hP hD hS hA rfl (fun v8 sp9 sg10 H locs hp11 ha12 hb13 hP hD hS => ?_)
  obtain ⟨hm1, hc9, hv9, r14, rfl⟩ := hp11
  have hM3 : EM (T) (fun j => sg10 (gw_p [34, 35, 36, 37, 38, 39, 40, 41, 42, 43, 44, 45, 46] j)) := mod_out hm1 ha12 rfl
  have hC3 : EC (T) sg10 := cls_keep hC2 hb13
  have hc8 : sg10 34 0 = (qBest T (xs (i + 1))) := (congrFun (ha12 0 (by decide)) _).trans hc9
  have hv : (qBest T (xs (i + 1))) = nI 0 → r14 = (aBest T (xs (i + 1))) ∧ sg10 33 0 = (aBest T (xs (i + 1))) := fun h9 => ⟨Value.int.inj (Option.some.inj (hv9 h9)), (congrFun (hb13 33 (by decide)) _).trans (ho2 h9)⟩
  refine W.eq (g2 := F0 m 447 ls [.int r14]) rfl ?_
  refine lv_istore (lv' := [(6, .int r14), (5, .int (qBest T (xs (i + 1)))), (0, .ref b), (1, .ref (ad 0)), (2, .ref (ad 34)), (3, .ref (ad 33)), (4, .int (nI i))]) hx hb dL_law_447 hl (by decide) rfl (fun ls hl => ?_)
  refine lv_goto (tgt := 592) hx hb dL_law_449 (by decide) ?_
  refine W.widen (k := k + 8) (n := n + 48) (by omega) (by omega) ?_
  exact hnext _ _ _ _ ⟨_, hT, hC3, hM3⟩ hP hD hS (lv_sub hl [2, 3, 4, 5, 6] rfl)
set_option maxRecDepth 100000 in
set_option maxHeartbeats 4000000 in
theorem law_made {p : Program} {e : Env} {s : State} {m : MethodId} {below : List Frame} {meth : Method} {c : Code} (l : Launch) (hl9 : l.stackTraces = false) {b L : Nat} {xs : Nat → Int32} (C0 : lw_At p s m meth c b L xs) (D : va_G) (cI : ClassId) (cJ : ClassId × ClassId) (ad : Nat → Nat) (hK : va_K D vwCl (tyS cI cJ) s) (hE : gc_ex gxT gxN (fun q : Nat => s.heap.size ≤ q) s s.heap) {Q : State → Prop} {i k n : Nat} (hi : i + 5 ≤ L) (hL : L ≤ 2560) (hk8 : k ≤ 4143) (hn8 : n ≤ 24864) {sg : Nat → Nat → Int32} {H : Heap} {locs : List Loc} {ls : Array Slot} (hJ : LI sg) (hP : va_P D vwCl (gw cI cJ ad sg SL) H) (hD : va_D (fun q : Nat => s.heap.size ≤ q) (gw cI cJ ad sg SL)) (hS : va_S (fun q : Nat => s.heap.size ≤ q) s.heap H locs) (hl : lv_has ls 7 [(0, .ref b), (1, .ref (ad 0)), (2, .ref (ad 34)), (3, .ref (ad 33)), (4, .int (nI i))]) (hnext : ∀ (sg2 : Nat → Nat → Int32) (H2 : Heap) (locs2 : List Loc) (ls2 : Array Slot), LI sg2 → va_P D vwCl (gw cI cJ ad sg2 SL) H2 → va_D (fun q : Nat => s.heap.size ≤ q) (gw cI cJ ad sg2 SL) → va_S (fun q : Nat => s.heap.size ≤ q) s.heap H2 locs2 → lv_has ls2 7 [(0, .ref b), (1, .ref (ad 0)), (2, .ref (ad 34)), (3, .ref (ad 33)), (4, .int (nI i))] → W p l e room_1 s m #[Value.ref b] below meth c H2 locs2 (k + 8) (n + 48) Q (F0 m 592 ls2 [])) : W p l e room_1 s m #[Value.ref b] below meth c H locs k n Q (F0 m 452 ls []) := by
  obtain ⟨hx, hb, hr, hml, hown, hts, hX, hbl, hlocks, hgv⟩ := id C0
  have hown : s.vm.findClass RL = some m.cls := hown
  have hts : ∀ w ∈ wsAll, w.before #[Value.ref b] s = true := fun w h => hts w (List.mem_filter.mp h).1
  have hA : ∀ q : Nat, s.heap.size ≤ q → (fun q : Nat => s.heap.size ≤ q) q := fun _ h => h
  have hbA : ¬ (fun q : Nat => s.heap.size ≤ q) b := Nat.not_le.mpr hbl
  have hrc : 4243 ≤ room_1.cells := by decide
  have hrs : 25864 ≤ room_1.slots := by decide
  obtain ⟨T, hT, hC, hM⟩ := hJ
  refine lv_aload_n hx hb dL_law_452 rfl (lv_at hl 1 rfl) ?_
  refine lv_aload_n hx hb dL_law_453 rfl (lv_at hl 0 rfl) ?_
  refine lv_iload hx hb dL_law_454 (lv_at hl 4 rfl) ?_
  refine lv_iconst (v := (nI 1)) hx hb dL_law_456 (by decide) ?_
  refine lv_iadd hx hb dL_law_457 ?_
  refine gw_top (y := (nI (i + 1))) (nI_add _ _) ?_
  refine va_sld hx hb hX hbl hbA hS (vp_in_nI (n := i + 1) (N := L) (by omega) (by omega)) dL_law_458 ?_
  refine gw_top (y := xs (i + 1)) (by rw [nI_clamp (by omega)]) ?_
  refine lv_aload_n hx hb dL_law_459 rfl (lv_at hl 3 rfl) ?_
  refine gc_go (pl := [0, 1, 2, 3, 4, 5, 6, 7, 8, 9, 10, 11, 12, 13, 14, 15, 16, 17, 18, 19, 20, 21, 22, 23, 24, 25, 26, 27, 28, 29, 30, 31, 32, 33]) (S2 := SW) (ad := ad) (sg := sg) (vx_runSW (As := [.ref (ad 0), .int (xs (i + 1)), .ref (ad 33)]) (rest := []) ⟨hx, hb, hml, hown, hts⟩ (m_f_L_made l hl9 D cI cJ (fun j => ad (gw_p [0, 1, 2, 3, 4, 5, 6, 7, 8, 9, 10, 11, 12, 13, 14, 15, 16, 17, 18, 19, 20, 21, 22, 23, 24, 25, 26, 27, 28, 29, 30, 31, 32, 33] j)) (fun j => sg (gw_p [0, 1, 2, 3, 4, 5, 6, 7, 8, 9, 10, 11, 12, 13, 14, 15, 16, 17, 18, 19, 20, 21, 22, 23, 24, 25, 26, 27, 28, 29, 30, 31, 32, 33] j)) _ (xs (i + 1)) T hT (wr_in hC)) (vx_cwSW 3 hts (gwSW a335 a336 a273 a337) rfl rfl rfl (by decide +kernel) ⟨by decide, by decide⟩) (gc_preS hK hP hD hS hA hE rfl) rfl rfl hl.1 rfl (lv_room (Nat.le_of_ble_eq_true rfl)) dL_law_460 ⟨by omega, by omega⟩) hP hD hS hA rfl (fun v1 sp2 sg3 H locs hp4 ha5 hb6 hP hD hS => ?_)
  obtain ⟨hk1, rfl, ho1⟩ := hp4
  have hC2 : EC (T) sg3 := wr_out hk1 ha5 rfl
  have hM2 : EM T (fun j => sg3 (gw_p [34, 35, 36, 37, 38, 39, 40, 41, 42, 43, 44, 45, 46] j)) := mod_keep hM hb6
  have ho2 : (qMade T (xs (i + 1))) = nI 0 → sg3 33 0 = (aMade T (xs (i + 1))) := fun h9 => (congrFun (ha5 33 (by decide)) _).trans (ho1 h9)
  refine W.eq (g2 := F0 m 463 ls [.int (qMade T (xs (i + 1)))]) rfl ?_
  refine lv_istore (lv' := [(5, .int (qMade T (xs (i + 1)))), (0, .ref b), (1, .ref (ad 0)), (2, .ref (ad 34)), (3, .ref (ad 33)), (4, .int (nI i))]) hx hb dL_law_463 hl (by decide) rfl (fun ls hl => ?_)
  refine lv_aload_n hx hb dL_law_465 rfl (lv_at hl 3 rfl) ?_
  refine lv_aload_n hx hb dL_law_466 rfl (lv_at hl 1 rfl) ?_
  refine lv_iload hx hb dL_law_467 (lv_at hl 5 rfl) ?_
  refine lv_iconst (v := (nI 1)) hx hb dL_law_469 (by decide) ?_
  refine lv_iadd hx hb dL_law_470 ?_
  refine gw_top (y := (nI (i + 1))) (nI_add _ _) ?_
  refine va_sld hx hb hX hbl hbA hS (vp_in_nI (n := i + 1) (N := L) (by omega) (by omega)) dL_law_471 ?_
  refine gw_top (y := xs (i + 1)) (by rw [nI_clamp (by omega)]) ?_
  refine gc_go (pl := [34, 35, 36, 37, 38, 39, 40, 41, 42, 43, 44, 45, 46]) (S2 := SM) (ad := ad) (sg := sg3) (va_runV (As := [.int (xs (i + 1))]) (rest := []) ⟨hx, hb, hml, hown, hts⟩ (m_f_X3_made l hl9 D cI cJ (fun j => ad (gw_p [34, 35, 36, 37, 38, 39, 40, 41, 42, 43, 44, 45, 46] j)) (fun j => sg3 (gw_p [34, 35, 36, 37, 38, 39, 40, 41, 42, 43, 44, 45, 46] j)) _ (xs (i + 1)) T hT hM2) (cwV 1 hts (gwV a338 a339 a340 a135 a341) rfl rfl rfl (by decide +kernel) ⟨by decide, by decide⟩) (gc_preV hK hP hD hS hA hE rfl rfl rfl rfl) rfl rfl hl.1 rfl (lv_room (Nat.le_of_ble_eq_true rfl)) dL_law_472 ⟨by omega, by omega⟩) hP hD hS hA rfl (fun v8 sp9 sg10 H locs hp11 ha12 hb13 hP hD hS => ?_)
  obtain ⟨hm1, hc9, hv9, r14, rfl⟩ := hp11
  have hM3 : EM (T) (fun j => sg10 (gw_p [34, 35, 36, 37, 38, 39, 40, 41, 42, 43, 44, 45, 46] j)) := mod_out hm1 ha12 rfl
  have hC3 : EC (T) sg10 := cls_keep hC2 hb13
  have hc8 : sg10 34 0 = (qMade T (xs (i + 1))) := (congrFun (ha12 0 (by decide)) _).trans hc9
  have hv : (qMade T (xs (i + 1))) = nI 0 → r14 = (aMade T (xs (i + 1))) ∧ sg10 33 0 = (aMade T (xs (i + 1))) := fun h9 => ⟨Value.int.inj (Option.some.inj (hv9 h9)), (congrFun (hb13 33 (by decide)) _).trans (ho2 h9)⟩
  refine W.eq (g2 := F0 m 475 ls [.int r14]) rfl ?_
  refine lv_istore (lv' := [(6, .int r14), (5, .int (qMade T (xs (i + 1)))), (0, .ref b), (1, .ref (ad 0)), (2, .ref (ad 34)), (3, .ref (ad 33)), (4, .int (nI i))]) hx hb dL_law_475 hl (by decide) rfl (fun ls hl => ?_)
  refine lv_goto (tgt := 592) hx hb dL_law_477 (by decide) ?_
  refine W.widen (k := k + 8) (n := n + 48) (by omega) (by omega) ?_
  exact hnext _ _ _ _ ⟨_, hT, hC3, hM3⟩ hP hD hS (lv_sub hl [2, 3, 4, 5, 6] rfl)
set_option maxRecDepth 100000 in
set_option maxHeartbeats 4000000 in
theorem law_saw {p : Program} {e : Env} {s : State} {m : MethodId} {below : List Frame} {meth : Method} {c : Code} (l : Launch) (hl9 : l.stackTraces = false) {b L : Nat} {xs : Nat → Int32} (C0 : lw_At p s m meth c b L xs) (D : va_G) (cI : ClassId) (cJ : ClassId × ClassId) (ad : Nat → Nat) (hK : va_K D vwCl (tyS cI cJ) s) (hE : gc_ex gxT gxN (fun q : Nat => s.heap.size ≤ q) s s.heap) {Q : State → Prop} {i k n : Nat} (hi : i + 5 ≤ L) (hL : L ≤ 2560) (hk8 : k ≤ 4143) (hn8 : n ≤ 24864) {sg : Nat → Nat → Int32} {H : Heap} {locs : List Loc} {ls : Array Slot} (hJ : LI sg) (hP : va_P D vwCl (gw cI cJ ad sg SL) H) (hD : va_D (fun q : Nat => s.heap.size ≤ q) (gw cI cJ ad sg SL)) (hS : va_S (fun q : Nat => s.heap.size ≤ q) s.heap H locs) (hl : lv_has ls 7 [(0, .ref b), (1, .ref (ad 0)), (2, .ref (ad 34)), (3, .ref (ad 33)), (4, .int (nI i))]) (hnext : ∀ (sg2 : Nat → Nat → Int32) (H2 : Heap) (locs2 : List Loc) (ls2 : Array Slot), LI sg2 → va_P D vwCl (gw cI cJ ad sg2 SL) H2 → va_D (fun q : Nat => s.heap.size ≤ q) (gw cI cJ ad sg2 SL) → va_S (fun q : Nat => s.heap.size ≤ q) s.heap H2 locs2 → lv_has ls2 7 [(0, .ref b), (1, .ref (ad 0)), (2, .ref (ad 34)), (3, .ref (ad 33)), (4, .int (nI i))] → W p l e room_1 s m #[Value.ref b] below meth c H2 locs2 (k + 8) (n + 48) Q (F0 m 592 ls2 [])) : W p l e room_1 s m #[Value.ref b] below meth c H locs k n Q (F0 m 480 ls []) := by
  obtain ⟨hx, hb, hr, hml, hown, hts, hX, hbl, hlocks, hgv⟩ := id C0
  have hown : s.vm.findClass RL = some m.cls := hown
  have hts : ∀ w ∈ wsAll, w.before #[Value.ref b] s = true := fun w h => hts w (List.mem_filter.mp h).1
  have hA : ∀ q : Nat, s.heap.size ≤ q → (fun q : Nat => s.heap.size ≤ q) q := fun _ h => h
  have hbA : ¬ (fun q : Nat => s.heap.size ≤ q) b := Nat.not_le.mpr hbl
  have hrc : 4243 ≤ room_1.cells := by decide
  have hrs : 25864 ≤ room_1.slots := by decide
  obtain ⟨T, hT, hC, hM⟩ := hJ
  refine lv_aload_n hx hb dL_law_480 rfl (lv_at hl 1 rfl) ?_
  refine lv_aload_n hx hb dL_law_481 rfl (lv_at hl 3 rfl) ?_
  refine gc_go (pl := [0, 1, 2, 3, 4, 5, 6, 7, 8, 9, 10, 11, 12, 13, 14, 15, 16, 17, 18, 19, 20, 21, 22, 23, 24, 25, 26, 27, 28, 29, 30, 31, 32, 33]) (S2 := SW) (ad := ad) (sg := sg) (vx_runSW (As := [.ref (ad 0), .ref (ad 33)]) (rest := []) ⟨hx, hb, hml, hown, hts⟩ (m_f_L_saw l hl9 D cI cJ (fun j => ad (gw_p [0, 1, 2, 3, 4, 5, 6, 7, 8, 9, 10, 11, 12, 13, 14, 15, 16, 17, 18, 19, 20, 21, 22, 23, 24, 25, 26, 27, 28, 29, 30, 31, 32, 33] j)) (fun j => sg (gw_p [0, 1, 2, 3, 4, 5, 6, 7, 8, 9, 10, 11, 12, 13, 14, 15, 16, 17, 18, 19, 20, 21, 22, 23, 24, 25, 26, 27, 28, 29, 30, 31, 32, 33] j)) _  T hT (wr_in hC)) (vx_cwSW 2 hts (gwSW a342 a343 a273 a344) rfl rfl rfl (by decide +kernel) ⟨by decide, by decide⟩) (gc_preS hK hP hD hS hA hE rfl) rfl rfl hl.1 rfl (lv_room (Nat.le_of_ble_eq_true rfl)) dL_law_482 ⟨by omega, by omega⟩) hP hD hS hA rfl (fun v1 sp2 sg3 H locs hp4 ha5 hb6 hP hD hS => ?_)
  obtain ⟨hk1, rfl, ho1⟩ := hp4
  have hC2 : EC (uT (qSaw T) (tSaw T) T) sg3 := wr_out hk1 ha5 rfl
  have hM2 : EM T (fun j => sg3 (gw_p [34, 35, 36, 37, 38, 39, 40, 41, 42, 43, 44, 45, 46] j)) := mod_keep hM hb6
  have ho2 : (qSaw T) = nI 0 → sg3 33 0 = (aSaw T) := fun h9 => (congrFun (ha5 33 (by decide)) _).trans (ho1 h9)
  refine W.eq (g2 := F0 m 485 ls [.int (qSaw T)]) rfl ?_
  refine lv_istore (lv' := [(5, .int (qSaw T)), (0, .ref b), (1, .ref (ad 0)), (2, .ref (ad 34)), (3, .ref (ad 33)), (4, .int (nI i))]) hx hb dL_law_485 hl (by decide) rfl (fun ls hl => ?_)
  refine lv_aload_n hx hb dL_law_487 rfl (lv_at hl 3 rfl) ?_
  refine gc_go (pl := [34, 35, 36, 37, 38, 39, 40, 41, 42, 43, 44, 45, 46]) (S2 := SM) (ad := ad) (sg := sg3) (va_runV (As := []) (rest := []) ⟨hx, hb, hml, hown, hts⟩ (m_f_X3_saw l hl9 D cI cJ (fun j => ad (gw_p [34, 35, 36, 37, 38, 39, 40, 41, 42, 43, 44, 45, 46] j)) (fun j => sg3 (gw_p [34, 35, 36, 37, 38, 39, 40, 41, 42, 43, 44, 45, 46] j)) _  T hT hM2) (cwV 0 hts (gwV a345 a346 a347 a135 a348) rfl rfl rfl (by decide +kernel) ⟨by decide, by decide⟩) (gc_preV hK hP hD hS hA hE rfl rfl rfl rfl) rfl rfl hl.1 rfl (lv_room (Nat.le_of_ble_eq_true rfl)) dL_law_488 ⟨by omega, by omega⟩) hP hD hS hA rfl (fun v8 sp9 sg10 H locs hp11 ha12 hb13 hP hD hS => ?_)
  obtain ⟨hm1, hc9, hv9, r14, rfl⟩ := hp11
  have hM3 : EM (uT (qSaw T) (tSaw T) T) (fun j => sg10 (gw_p [34, 35, 36, 37, 38, 39, 40, 41, 42, 43, 44, 45, 46] j)) := mod_out hm1 ha12 rfl
  have hC3 : EC (uT (qSaw T) (tSaw T) T) sg10 := cls_keep hC2 hb13
  have hc8 : sg10 34 0 = (qSaw T) := (congrFun (ha12 0 (by decide)) _).trans hc9
  have hv : (qSaw T) = nI 0 → r14 = (aSaw T) ∧ sg10 33 0 = (aSaw T) := fun h9 => ⟨Value.int.inj (Option.some.inj (hv9 h9)), (congrFun (hb13 33 (by decide)) _).trans (ho2 h9)⟩
  refine W.eq (g2 := F0 m 491 ls [.int r14]) rfl ?_
  refine lv_istore (lv' := [(6, .int r14), (5, .int (qSaw T)), (0, .ref b), (1, .ref (ad 0)), (2, .ref (ad 34)), (3, .ref (ad 33)), (4, .int (nI i))]) hx hb dL_law_491 hl (by decide) rfl (fun ls hl => ?_)
  refine lv_goto (tgt := 592) hx hb dL_law_493 (by decide) ?_
  refine W.widen (k := k + 8) (n := n + 48) (by omega) (by omega) ?_
  exact hnext _ _ _ _ ⟨_, TOk_u (TOk_f _) hT, hC3, hM3⟩ hP hD hS (lv_sub hl [2, 3, 4, 5, 6] rfl)
set_option maxRecDepth 100000 in
set_option maxHeartbeats 4000000 in
theorem law_mill {p : Program} {e : Env} {s : State} {m : MethodId} {below : List Frame} {meth : Method} {c : Code} (l : Launch) (hl9 : l.stackTraces = false) {b L : Nat} {xs : Nat → Int32} (C0 : lw_At p s m meth c b L xs) (D : va_G) (cI : ClassId) (cJ : ClassId × ClassId) (ad : Nat → Nat) (hK : va_K D vwCl (tyS cI cJ) s) (hE : gc_ex gxT gxN (fun q : Nat => s.heap.size ≤ q) s s.heap) {Q : State → Prop} {i k n : Nat} (hi : i + 5 ≤ L) (hL : L ≤ 2560) (hk8 : k ≤ 4143) (hn8 : n ≤ 24864) {sg : Nat → Nat → Int32} {H : Heap} {locs : List Loc} {ls : Array Slot} (hJ : LI sg) (hP : va_P D vwCl (gw cI cJ ad sg SL) H) (hD : va_D (fun q : Nat => s.heap.size ≤ q) (gw cI cJ ad sg SL)) (hS : va_S (fun q : Nat => s.heap.size ≤ q) s.heap H locs) (hl : lv_has ls 7 [(0, .ref b), (1, .ref (ad 0)), (2, .ref (ad 34)), (3, .ref (ad 33)), (4, .int (nI i))]) (hnext : ∀ (sg2 : Nat → Nat → Int32) (H2 : Heap) (locs2 : List Loc) (ls2 : Array Slot), LI sg2 → va_P D vwCl (gw cI cJ ad sg2 SL) H2 → va_D (fun q : Nat => s.heap.size ≤ q) (gw cI cJ ad sg2 SL) → va_S (fun q : Nat => s.heap.size ≤ q) s.heap H2 locs2 → lv_has ls2 7 [(0, .ref b), (1, .ref (ad 0)), (2, .ref (ad 34)), (3, .ref (ad 33)), (4, .int (nI i))] → W p l e room_1 s m #[Value.ref b] below meth c H2 locs2 (k + 8) (n + 48) Q (F0 m 592 ls2 [])) : W p l e room_1 s m #[Value.ref b] below meth c H locs k n Q (F0 m 496 ls []) := by
  obtain ⟨hx, hb, hr, hml, hown, hts, hX, hbl, hlocks, hgv⟩ := id C0
  have hown : s.vm.findClass RL = some m.cls := hown
  have hts : ∀ w ∈ wsAll, w.before #[Value.ref b] s = true := fun w h => hts w (List.mem_filter.mp h).1
  have hA : ∀ q : Nat, s.heap.size ≤ q → (fun q : Nat => s.heap.size ≤ q) q := fun _ h => h
  have hbA : ¬ (fun q : Nat => s.heap.size ≤ q) b := Nat.not_le.mpr hbl
  have hrc : 4243 ≤ room_1.cells := by decide
  have hrs : 25864 ≤ room_1.slots := by decide
  obtain ⟨T, hT, hC, hM⟩ := hJ
  refine lv_aload_n hx hb dL_law_496 rfl (lv_at hl 1 rfl) ?_
  refine lv_aload_n hx hb dL_law_497 rfl (lv_at hl 0 rfl) ?_
  refine lv_iload hx hb dL_law_498 (lv_at hl 4 rfl) ?_
  refine lv_iconst (v := (nI 1)) hx hb dL_law_500 (by decide) ?_
  refine lv_iadd hx hb dL_law_501 ?_
  refine gw_top (y := (nI (i + 1))) (nI_add _ _) ?_
  refine va_sld hx hb hX hbl hbA hS (vp_in_nI (n := i + 1) (N := L) (by omega) (by omega)) dL_law_502 ?_
  refine gw_top (y := xs (i + 1)) (by rw [nI_clamp (by omega)]) ?_
  refine lv_aload_n hx hb dL_law_503 rfl (lv_at hl 3 rfl) ?_
  refine gc_go (pl := [0, 1, 2, 3, 4, 5, 6, 7, 8, 9, 10, 11, 12, 13, 14, 15, 16, 17, 18, 19, 20, 21, 22, 23, 24, 25, 26, 27, 28, 29, 30, 31, 32, 33]) (S2 := SW) (ad := ad) (sg := sg) (vx_runSW (As := [.ref (ad 0), .int (xs (i + 1)), .ref (ad 33)]) (rest := []) ⟨hx, hb, hml, hown, hts⟩ (m_f_L_mill l hl9 D cI cJ (fun j => ad (gw_p [0, 1, 2, 3, 4, 5, 6, 7, 8, 9, 10, 11, 12, 13, 14, 15, 16, 17, 18, 19, 20, 21, 22, 23, 24, 25, 26, 27, 28, 29, 30, 31, 32, 33] j)) (fun j => sg (gw_p [0, 1, 2, 3, 4, 5, 6, 7, 8, 9, 10, 11, 12, 13, 14, 15, 16, 17, 18, 19, 20, 21, 22, 23, 24, 25, 26, 27, 28, 29, 30, 31, 32, 33] j)) _ (xs (i + 1)) T hT (wr_in hC)) (vx_cwSW 3 hts (gwSW a349 a350 a273 a351) rfl rfl rfl (by decide +kernel) ⟨by decide, by decide⟩) (gc_preS hK hP hD hS hA hE rfl) rfl rfl hl.1 rfl (lv_room (Nat.le_of_ble_eq_true rfl)) dL_law_504 ⟨by omega, by omega⟩) hP hD hS hA rfl (fun v1 sp2 sg3 H locs hp4 ha5 hb6 hP hD hS => ?_)
  obtain ⟨hk1, rfl, ho1⟩ := hp4
  have hC2 : EC (T) sg3 := wr_out hk1 ha5 rfl
  have hM2 : EM T (fun j => sg3 (gw_p [34, 35, 36, 37, 38, 39, 40, 41, 42, 43, 44, 45, 46] j)) := mod_keep hM hb6
  have ho2 : (kMill (xs (i + 1))) = nI 0 → sg3 33 0 = (aMill T (xs (i + 1))) := fun h9 => (congrFun (ha5 33 (by decide)) _).trans (ho1 h9)
  refine W.eq (g2 := F0 m 507 ls [.int (kMill (xs (i + 1)))]) rfl ?_
  refine lv_istore (lv' := [(5, .int (kMill (xs (i + 1)))), (0, .ref b), (1, .ref (ad 0)), (2, .ref (ad 34)), (3, .ref (ad 33)), (4, .int (nI i))]) hx hb dL_law_507 hl (by decide) rfl (fun ls hl => ?_)
  refine lv_aload_n hx hb dL_law_509 rfl (lv_at hl 3 rfl) ?_
  refine lv_aload_n hx hb dL_law_510 rfl (lv_at hl 1 rfl) ?_
  refine lv_iload hx hb dL_law_511 (lv_at hl 5 rfl) ?_
  refine lv_iconst (v := (nI 1)) hx hb dL_law_513 (by decide) ?_
  refine lv_iadd hx hb dL_law_514 ?_
  refine gw_top (y := (nI (i + 1))) (nI_add _ _) ?_
  refine va_sld hx hb hX hbl hbA hS (vp_in_nI (n := i + 1) (N := L) (by omega) (by omega)) dL_law_515 ?_
  refine gw_top (y := xs (i + 1)) (by rw [nI_clamp (by omega)]) ?_
  refine gc_go (pl := [34, 35, 36, 37, 38, 39, 40, 41, 42, 43, 44, 45, 46]) (S2 := SM) (ad := ad) (sg := sg3) (va_runV (As := [.int (xs (i + 1))]) (rest := []) ⟨hx, hb, hml, hown, hts⟩ (m_f_X3_mill l hl9 D cI cJ (fun j => ad (gw_p [34, 35, 36, 37, 38, 39, 40, 41, 42, 43, 44, 45, 46] j)) (fun j => sg3 (gw_p [34, 35, 36, 37, 38, 39, 40, 41, 42, 43, 44, 45, 46] j)) _ (xs (i + 1)) T hT hM2) (cwV 1 hts (gwV a352 a353 a354 a135 a355) rfl rfl rfl (by decide +kernel) ⟨by decide, by decide⟩) (gc_preV hK hP hD hS hA hE rfl rfl rfl rfl) rfl rfl hl.1 rfl (lv_room (Nat.le_of_ble_eq_true rfl)) dL_law_516 ⟨by omega, by omega⟩) hP hD hS hA rfl (fun v8 sp9 sg10 H locs hp11 ha12 hb13 hP hD hS => ?_)
  obtain ⟨hm1, hc9, hv9, r14, rfl⟩ := hp11
  have hM3 : EM (T) (fun j => sg10 (gw_p [34, 35, 36, 37, 38, 39, 40, 41, 42, 43, 44, 45, 46] j)) := mod_out hm1 ha12 rfl
  have hC3 : EC (T) sg10 := cls_keep hC2 hb13
  have hc8 : sg10 34 0 = (kMill (xs (i + 1))) := (congrFun (ha12 0 (by decide)) _).trans hc9
  have hv : (kMill (xs (i + 1))) = nI 0 → r14 = (aMill T (xs (i + 1))) ∧ sg10 33 0 = (aMill T (xs (i + 1))) := fun h9 => ⟨Value.int.inj (Option.some.inj (hv9 h9)), (congrFun (hb13 33 (by decide)) _).trans (ho2 h9)⟩
  refine W.eq (g2 := F0 m 519 ls [.int r14]) rfl ?_
  refine lv_istore (lv' := [(6, .int r14), (5, .int (kMill (xs (i + 1)))), (0, .ref b), (1, .ref (ad 0)), (2, .ref (ad 34)), (3, .ref (ad 33)), (4, .int (nI i))]) hx hb dL_law_519 hl (by decide) rfl (fun ls hl => ?_)
  refine lv_goto (tgt := 592) hx hb dL_law_521 (by decide) ?_
  refine W.widen (k := k + 8) (n := n + 48) (by omega) (by omega) ?_
  exact hnext _ _ _ _ ⟨_, hT, hC3, hM3⟩ hP hD hS (lv_sub hl [2, 3, 4, 5, 6] rfl)
set_option maxRecDepth 100000 in
set_option maxHeartbeats 4000000 in
theorem law_cost {p : Program} {e : Env} {s : State} {m : MethodId} {below : List Frame} {meth : Method} {c : Code} (l : Launch) (hl9 : l.stackTraces = false) {b L : Nat} {xs : Nat → Int32} (C0 : lw_At p s m meth c b L xs) (D : va_G) (cI : ClassId) (cJ : ClassId × ClassId) (ad : Nat → Nat) (hK : va_K D vwCl (tyS cI cJ) s) (hE : gc_ex gxT gxN (fun q : Nat => s.heap.size ≤ q) s s.heap) {Q : State → Prop} {i k n : Nat} (hi : i + 5 ≤ L) (hL : L ≤ 2560) (hk8 : k ≤ 4143) (hn8 : n ≤ 24864) {sg : Nat → Nat → Int32} {H : Heap} {locs : List Loc} {ls : Array Slot} (hJ : LI sg) (hP : va_P D vwCl (gw cI cJ ad sg SL) H) (hD : va_D (fun q : Nat => s.heap.size ≤ q) (gw cI cJ ad sg SL)) (hS : va_S (fun q : Nat => s.heap.size ≤ q) s.heap H locs) (hl : lv_has ls 7 [(0, .ref b), (1, .ref (ad 0)), (2, .ref (ad 34)), (3, .ref (ad 33)), (4, .int (nI i))]) (hnext : ∀ (sg2 : Nat → Nat → Int32) (H2 : Heap) (locs2 : List Loc) (ls2 : Array Slot), LI sg2 → va_P D vwCl (gw cI cJ ad sg2 SL) H2 → va_D (fun q : Nat => s.heap.size ≤ q) (gw cI cJ ad sg2 SL) → va_S (fun q : Nat => s.heap.size ≤ q) s.heap H2 locs2 → lv_has ls2 7 [(0, .ref b), (1, .ref (ad 0)), (2, .ref (ad 34)), (3, .ref (ad 33)), (4, .int (nI i))] → W p l e room_1 s m #[Value.ref b] below meth c H2 locs2 (k + 8) (n + 48) Q (F0 m 592 ls2 [])) : W p l e room_1 s m #[Value.ref b] below meth c H locs k n Q (F0 m 524 ls []) := by
  obtain ⟨hx, hb, hr, hml, hown, hts, hX, hbl, hlocks, hgv⟩ := id C0
  have hown : s.vm.findClass RL = some m.cls := hown
  have hts : ∀ w ∈ wsAll, w.before #[Value.ref b] s = true := fun w h => hts w (List.mem_filter.mp h).1
  have hA : ∀ q : Nat, s.heap.size ≤ q → (fun q : Nat => s.heap.size ≤ q) q := fun _ h => h
  have hbA : ¬ (fun q : Nat => s.heap.size ≤ q) b := Nat.not_le.mpr hbl
  have hrc : 4243 ≤ room_1.cells := by decide
  have hrs : 25864 ≤ room_1.slots := by decide
  obtain ⟨T, hT, hC, hM⟩ := hJ
  refine lv_aload_n hx hb dL_law_524 rfl (lv_at hl 1 rfl) ?_
  refine lv_aload_n hx hb dL_law_525 rfl (lv_at hl 0 rfl) ?_
  refine lv_iload hx hb dL_law_526 (lv_at hl 4 rfl) ?_
  refine lv_iconst (v := (nI 1)) hx hb dL_law_528 (by decide) ?_
  refine lv_iadd hx hb dL_law_529 ?_
  refine gw_top (y := (nI (i + 1))) (nI_add _ _) ?_
  refine va_sld hx hb hX hbl hbA hS (vp_in_nI (n := i + 1) (N := L) (by omega) (by omega)) dL_law_530 ?_
  refine gw_top (y := xs (i + 1)) (by rw [nI_clamp (by omega)]) ?_
  refine lv_aload_n hx hb dL_law_531 rfl (lv_at hl 0 rfl) ?_
  refine lv_iload hx hb dL_law_532 (lv_at hl 4 rfl) ?_
  refine lv_iconst (v := (nI 2)) hx hb dL_law_534 (by decide) ?_
  refine lv_iadd hx hb dL_law_535 ?_
  refine gw_top (y := (nI (i + 2))) (nI_add _ _) ?_
  refine va_sld hx hb hX hbl hbA hS (vp_in_nI (n := i + 2) (N := L) (by omega) (by omega)) dL_law_536 ?_
  refine gw_top (y := xs (i + 2)) (by rw [nI_clamp (by omega)]) ?_
  refine lv_aload_n hx hb dL_law_537 rfl (lv_at hl 3 rfl) ?_
  refine gc_go (pl := [0, 1, 2, 3, 4, 5, 6, 7, 8, 9, 10, 11, 12, 13, 14, 15, 16, 17, 18, 19, 20, 21, 22, 23, 24, 25, 26, 27, 28, 29, 30, 31, 32, 33]) (S2 := SW) (ad := ad) (sg := sg) (vx_runSW (As := [.ref (ad 0), .int (xs (i + 1)), .int (xs (i + 2)), .ref (ad 33)]) (rest := []) ⟨hx, hb, hml, hown, hts⟩ (m_f_L_cost l hl9 D cI cJ (fun j => ad (gw_p [0, 1, 2, 3, 4, 5, 6, 7, 8, 9, 10, 11, 12, 13, 14, 15, 16, 17, 18, 19, 20, 21, 22, 23, 24, 25, 26, 27, 28, 29, 30, 31, 32, 33] j)) (fun j => sg (gw_p [0, 1, 2, 3, 4, 5, 6, 7, 8, 9, 10, 11, 12, 13, 14, 15, 16, 17, 18, 19, 20, 21, 22, 23, 24, 25, 26, 27, 28, 29, 30, 31, 32, 33] j)) _ (xs (i + 1)) (xs (i + 2)) T hT (wr_in hC)) (vx_cwSW 4 hts (gwSW a356 a357 a273 a358) rfl rfl rfl (by decide +kernel) ⟨by decide, by decide⟩) (gc_preS hK hP hD hS hA hE rfl) rfl rfl hl.1 rfl (lv_room (Nat.le_of_ble_eq_true rfl)) dL_law_538 ⟨by omega, by omega⟩) hP hD hS hA rfl (fun v1 sp2 sg3 H locs hp4 ha5 hb6 hP hD hS => ?_)
  obtain ⟨hk1, rfl, ho1⟩ := hp4
  have hC2 : EC (T) sg3 := wr_out hk1 ha5 rfl
  have hM2 : EM T (fun j => sg3 (gw_p [34, 35, 36, 37, 38, 39, 40, 41, 42, 43, 44, 45, 46] j)) := mod_keep hM hb6
  have ho2 : (qCost T (xs (i + 1)) (xs (i + 2))) = nI 0 → sg3 33 0 = (aCost T (xs (i + 1)) (xs (i + 2))) := fun h9 => (congrFun (ha5 33 (by decide)) _).trans (ho1 h9)
  refine W.eq (g2 := F0 m 541 ls [.int (qCost T (xs (i + 1)) (xs (i + 2)))]) rfl ?_
  refine lv_istore (lv' := [(5, .int (qCost T (xs (i + 1)) (xs (i + 2)))), (0, .ref b), (1, .ref (ad 0)), (2, .ref (ad 34)), (3, .ref (ad 33)), (4, .int (nI i))]) hx hb dL_law_541 hl (by decide) rfl (fun ls hl => ?_)
  refine lv_aload_n hx hb dL_law_543 rfl (lv_at hl 3 rfl) ?_
  refine lv_aload_n hx hb dL_law_544 rfl (lv_at hl 1 rfl) ?_
  refine lv_iload hx hb dL_law_545 (lv_at hl 5 rfl) ?_
  refine lv_iconst (v := (nI 1)) hx hb dL_law_547 (by decide) ?_
  refine lv_iadd hx hb dL_law_548 ?_
  refine gw_top (y := (nI (i + 1))) (nI_add _ _) ?_
  refine va_sld hx hb hX hbl hbA hS (vp_in_nI (n := i + 1) (N := L) (by omega) (by omega)) dL_law_549 ?_
  refine gw_top (y := xs (i + 1)) (by rw [nI_clamp (by omega)]) ?_
  refine lv_aload_n hx hb dL_law_550 rfl (lv_at hl 1 rfl) ?_
  refine lv_iload hx hb dL_law_551 (lv_at hl 5 rfl) ?_
  refine lv_iconst (v := (nI 2)) hx hb dL_law_553 (by decide) ?_
  refine lv_iadd hx hb dL_law_554 ?_
  refine gw_top (y := (nI (i + 2))) (nI_add _ _) ?_
  refine va_sld hx hb hX hbl hbA hS (vp_in_nI (n := i + 2) (N := L) (by omega) (by omega)) dL_law_555 ?_
  refine gw_top (y := xs (i + 2)) (by rw [nI_clamp (by omega)]) ?_
  refine gc_go (pl := [34, 35, 36, 37, 38, 39, 40, 41, 42, 43, 44, 45, 46]) (S2 := SM) (ad := ad) (sg := sg3) (va_runV (As := [.int (xs (i + 1)), .int (xs (i + 2))]) (rest := []) ⟨hx, hb, hml, hown, hts⟩ (m_f_X3_cost l hl9 D cI cJ (fun j => ad (gw_p [34, 35, 36, 37, 38, 39, 40, 41, 42, 43, 44, 45, 46] j)) (fun j => sg3 (gw_p [34, 35, 36, 37, 38, 39, 40, 41, 42, 43, 44, 45, 46] j)) _ (xs (i + 1)) (xs (i + 2)) T hT hM2) (cwV 2 hts (gwV a359 a360 a361 a135 a362) rfl rfl rfl (by decide +kernel) ⟨by decide, by decide⟩) (gc_preV hK hP hD hS hA hE rfl rfl rfl rfl) rfl rfl hl.1 rfl (lv_room (Nat.le_of_ble_eq_true rfl)) dL_law_556 ⟨by omega, by omega⟩) hP hD hS hA rfl (fun v8 sp9 sg10 H locs hp11 ha12 hb13 hP hD hS => ?_)
  obtain ⟨hm1, hc9, hv9, r14, rfl⟩ := hp11
  have hM3 : EM (T) (fun j => sg10 (gw_p [34, 35, 36, 37, 38, 39, 40, 41, 42, 43, 44, 45, 46] j)) := mod_out hm1 ha12 rfl
  have hC3 : EC (T) sg10 := cls_keep hC2 hb13
  have hc8 : sg10 34 0 = (qCost T (xs (i + 1)) (xs (i + 2))) := (congrFun (ha12 0 (by decide)) _).trans hc9
  have hv : (qCost T (xs (i + 1)) (xs (i + 2))) = nI 0 → r14 = (aCost T (xs (i + 1)) (xs (i + 2))) ∧ sg10 33 0 = (aCost T (xs (i + 1)) (xs (i + 2))) := fun h9 => ⟨Value.int.inj (Option.some.inj (hv9 h9)), (congrFun (hb13 33 (by decide)) _).trans (ho2 h9)⟩
  refine W.eq (g2 := F0 m 559 ls [.int r14]) rfl ?_
  refine lv_istore (lv' := [(6, .int r14), (5, .int (qCost T (xs (i + 1)) (xs (i + 2)))), (0, .ref b), (1, .ref (ad 0)), (2, .ref (ad 34)), (3, .ref (ad 33)), (4, .int (nI i))]) hx hb dL_law_559 hl (by decide) rfl (fun ls hl => ?_)
  refine lv_aload_n hx hb dL_law_561 rfl (lv_at hl 4 rfl) ?_
  refine gc_go (pl := [34, 35, 36, 37, 38, 39, 40, 41, 42, 43, 44, 45, 46]) (S2 := SM) (ad := ad) (sg := sg10) (va_runV (As := []) (rest := []) ⟨hx, hb, hml, hown, hts⟩ (m_f_X3_thrown l hl9 D cI cJ (fun j => ad (gw_p [34, 35, 36, 37, 38, 39, 40, 41, 42, 43, 44, 45, 46] j)) (fun j => sg10 (gw_p [34, 35, 36, 37, 38, 39, 40, 41, 42, 43, 44, 45, 46] j)) _  ) (cwV 0 hts (gwV a363 a364 a365 a135 a366) rfl rfl rfl (by decide +kernel) ⟨by decide, by decide⟩) (gc_preV hK hP hD hS hA hE rfl rfl rfl rfl) rfl rfl hl.1 rfl (lv_room (Nat.le_of_ble_eq_true rfl)) dL_law_562 ⟨by omega, by omega⟩) hP hD hS hA rfl (fun v15 sp16 sg17 H locs hp18 ha19 hb20 hP hD hS => ?_)
  obtain ⟨rfl, hs9⟩ := hp18
  rw [gw_same hs9 ha19 hb20 rfl] at hP hD
  refine W.eq (g2 := F0 m 565 ls [.int (qCost T (xs (i + 1)) (xs (i + 2)))]) (by show F0 m _ ls (Value.int (sg10 34 0) :: _) = _; rw [hc8]; rfl) ?_
  refine lv_iload hx hb dL_law_565 (lv_at hl 1 rfl) ?_
  refine lv_icmp_eq (tgt := 572) hx hb dL_law_567 (by decide) (fun hc21 => ?_) (fun hc21 => ?_)
  · refine lv_iload hx hb dL_law_572 (lv_at hl 1 rfl) ?_
    refine lv_if_ne (tgt := 589) hx hb dL_law_574 (by decide) (fun hk0 => ?_) (fun hk0 => ?_)
    · refine lv_goto (tgt := 592) hx hb dL_law_589 (by decide) ?_
      refine W.widen (k := k + 8) (n := n + 48) (by omega) (by omega) ?_
      exact hnext _ _ _ _ ⟨_, hT, hC3, hM3⟩ hP hD hS (lv_sub hl [2, 3, 4, 5, 6] rfl)
    · refine lv_aload_n hx hb dL_law_577 rfl (lv_at hl 5 rfl) ?_
      refine lv_iconst (v := (nI 0)) hx hb dL_law_578 (by decide) ?_
      have hv9 := hv (hk0.trans nI_0.symm)
      refine gw_lald hx hb hK hP 33 2 (n := 1) rfl rfl (i := 0) (by decide) (by decide) dL_law_579 ?_
      rw [hv9.2]
      refine lv_iload hx hb dL_law_580 (lv_at hl 0 rfl) ?_
      refine lv_i2l hx hb dL_law_582 rfl ?_
      rw [hv9.1]
      refine W.lcmp hx hb dL_law_583 ?_
      refine gw_top (y := nI 0) (by simp [lg_cmp]; rfl) ?_
      refine lv_if_eq (tgt := 589) hx hb dL_law_584 (by decide) (fun hc22 => ?_) (fun hc22 => ?_)
      · refine lv_goto (tgt := 592) hx hb dL_law_589 (by decide) ?_
        refine W.widen (k := k + 8) (n := n + 48) (by omega) (by omega) ?_
        exact hnext _ _ _ _ ⟨_, hT, hC3, hM3⟩ hP hD hS (lv_sub hl [2, 3, 4, 5, 6] rfl)
      · exact absurd hc22 (by decide)
  · exact absurd rfl hc21
set_option maxRecDepth 100000 in
set_option maxHeartbeats 4000000 in
theorem law_loop {p : Program} {e : Env} {s : State} {m : MethodId} {below : List Frame} {meth : Method} {c : Code} (l : Launch) (hl9 : l.stackTraces = false) {b L : Nat} {xs : Nat → Int32} (C0 : lw_At p s m meth c b L xs) (D : va_G) (cI : ClassId) (cJ : ClassId × ClassId) (ad : Nat → Nat) (hK : va_K D vwCl (tyS cI cJ) s) (hE : gc_ex gxT gxN (fun q : Nat => s.heap.size ≤ q) s s.heap) (hL : L ≤ 2560) : ∀ (f t k n : Nat) (sg : Nat → Nat → Int32) (H : Heap) (locs : List Loc) (ls : Array Slot), L + 5 - 5 * t = f → 5 * t ≤ L → k ≤ 47 + 8 * t → n ≤ 288 + 48 * t → LI sg → va_P D vwCl (gw cI cJ ad sg SL) H → va_D (fun q : Nat => s.heap.size ≤ q) (gw cI cJ ad sg SL) → va_S (fun q : Nat => s.heap.size ≤ q) s.heap H locs → lv_has ls 7 [(0, .ref b), (1, .ref (ad 0)), (2, .ref (ad 34)), (3, .ref (ad 33)), (4, .int (nI (5 * t)))] → W p l e room_1 s m #[Value.ref b] below meth c H locs k n (lw_Z below #[Value.ref b] s) (F0 m 23 ls []) := by
  obtain ⟨hx, hb, hr, hml, hown, hts, hX, hbl, hlocks, hgv⟩ := id C0
  have hown : s.vm.findClass RL = some m.cls := hown
  have hts : ∀ w ∈ wsAll, w.before #[Value.ref b] s = true := fun w h => hts w (List.mem_filter.mp h).1
  have hA : ∀ q : Nat, s.heap.size ≤ q → (fun q : Nat => s.heap.size ≤ q) q := fun _ h => h
  have hbA : ¬ (fun q : Nat => s.heap.size ≤ q) b := Nat.not_le.mpr hbl
  have hrc : 4243 ≤ room_1.cells := by decide
  have hrs : 25864 ≤ room_1.slots := by decide
  intro f
  induction f using Nat.strongRecOn with
  | ind f ih =>
  intro t k n sg H locs ls hf ht hk8 hn8 hJ hP hD hS hl
  refine lv_iload hx hb dL_law_23 (lv_at hl 4 rfl) ?_
  refine lv_aload_n hx hb dL_law_25 rfl (lv_at hl 0 rfl) ?_
  refine va_slen hx hb hX hbl hbA hS dL_law_26 ?_
  refine lv_iconst (v := nI 5) hx hb dL_law_27 (by decide) ?_
  refine lv_isub hx hb dL_law_28 ?_
  refine lv_icmp_gt (tgt := 598) hx hb dL_law_29 (by decide) (fun hc => ?_) (fun hc => ?_)
  · exact law_out l hl9 C0 D cI cJ ad hK hE (by omega) (by omega) hS dL_law_598 dL_law_599
  have hi := law_in hL (by omega) hc
  refine lv_aload_n hx hb dL_law_32 rfl (lv_at hl 0 rfl) ?_
  refine lv_iload hx hb dL_law_33 (lv_at hl 4 rfl) ?_
  refine va_sld hx hb hX hbl hbA hS (vp_in_nI (n := 5 * t) (N := L) (by omega) (by omega)) dL_law_35 ?_
  refine lv_bipush (v := nI 15) hx hb dL_law_36 (by decide) ?_
  refine lv_iand hx hb dL_law_38 ?_
  refine lv_topi (fun v hv => ?_)
  have hnext : ∀ (sg2 : Nat → Nat → Int32) (H2 : Heap) (locs2 : List Loc) (ls2 : Array Slot), LI sg2 → va_P D vwCl (gw cI cJ ad sg2 SL) H2 → va_D (fun q : Nat => s.heap.size ≤ q) (gw cI cJ ad sg2 SL) → va_S (fun q : Nat => s.heap.size ≤ q) s.heap H2 locs2 → lv_has ls2 7 [(0, .ref b), (1, .ref (ad 0)), (2, .ref (ad 34)), (3, .ref (ad 33)), (4, .int (nI (5 * t)))] → W p l e room_1 s m #[Value.ref b] below meth c H2 locs2 (k + 8) (n + 48) (lw_Z below #[Value.ref b] s) (F0 m 592 ls2 []) := by
    intro sg2 H2 locs2 ls2 hJ2 hP2 hD2 hS2 hl2
    refine lv_iinc (k := 4) (v := nI (5 * (t + 1))) (lv' := [(4, .int (nI (5 * (t + 1)))), (0, .ref b), (1, .ref (ad 0)), (2, .ref (ad 34)), (3, .ref (ad 33))]) hx hb dL_law_592 hl2 rfl (nI_add (5 * t) 5) (by decide) rfl (fun ls hl => ?_)
    refine lv_goto (tgt := 23) hx hb dL_law_595 (by decide) ?_
    exact ih _ (by omega) (t + 1) (k + 8) (n + 48) sg2 H2 locs2 ls rfl (by omega) (by omega) (by omega) hJ2 hP2 hD2 hS2 (lv_sub hl [1, 2, 3, 4, 0] rfl)
  rcases (show v.toInt = 0 ∨ v.toInt = 1 ∨ v.toInt = 2 ∨ v.toInt = 3 ∨ v.toInt = 4 ∨ v.toInt = 5 ∨ v.toInt = 6 ∨ v.toInt = 7 ∨ v.toInt = 8 ∨ v.toInt = 9 ∨ v.toInt = 10 ∨ v.toInt = 11 ∨ v.toInt = 12 ∨ (v.toInt < 0 ∨ 12 < v.toInt) by omega) with h | h | h | h | h | h | h | h | h | h | h | h | h | h
  · exact lv_tableIn (tgt := 104) (off := 65) hx hb dL_law_39 (by rw [h]; decide) (by rw [h]; decide) (by rw [h]; rfl) (by decide) (law_logs l hl9 C0 D cI cJ ad hK hE hi hL (by omega) (by omega) hJ hP hD hS hl hnext)
  · exact lv_tableIn (tgt := 153) (off := 114) hx hb dL_law_39 (by rw [h]; decide) (by rw [h]; decide) (by rw [h]; rfl) (by decide) (law_pattern l hl9 C0 D cI cJ ad hK hE hi hL (by omega) (by omega) hJ hP hD hS hl hnext)
  · exact lv_tableIn (tgt := 193) (off := 154) hx hb dL_law_39 (by rw [h]; decide) (by rw [h]; decide) (by rw [h]; rfl) (by decide) (law_gives l hl9 C0 D cI cJ ad hK hE hi hL (by omega) (by omega) hJ hP hD hS hl hnext)
  · exact lv_tableIn (tgt := 242) (off := 203) hx hb dL_law_39 (by rw [h]; decide) (by rw [h]; decide) (by rw [h]; rfl) (by decide) (law_order l hl9 C0 D cI cJ ad hK hE hi hL (by omega) (by omega) hJ hP hD hS hl hnext)
  · exact lv_tableIn (tgt := 303) (off := 264) hx hb dL_law_39 (by rw [h]; decide) (by rw [h]; decide) (by rw [h]; rfl) (by decide) (law_hours l hl9 C0 D cI cJ ad hK hE hi hL (by omega) (by omega) hJ hP hD hS hl hnext)
  · exact lv_tableIn (tgt := 340) (off := 301) hx hb dL_law_39 (by rw [h]; decide) (by rw [h]; decide) (by rw [h]; rfl) (by decide) (law_run l hl9 C0 D cI cJ ad hK hE hi hL (by omega) (by omega) hJ hP hD hS hl hnext)
  · exact lv_tableIn (tgt := 368) (off := 329) hx hb dL_law_39 (by rw [h]; decide) (by rw [h]; decide) (by rw [h]; rfl) (by decide) (law_search l hl9 C0 D cI cJ ad hK hE hi hL (by omega) (by omega) hJ hP hD hS hl hnext)
  · exact lv_tableIn (tgt := 396) (off := 357) hx hb dL_law_39 (by rw [h]; decide) (by rw [h]; decide) (by rw [h]; rfl) (by decide) (law_used l hl9 C0 D cI cJ ad hK hE hi hL (by omega) (by omega) hJ hP hD hS hl hnext)
  · exact lv_tableIn (tgt := 424) (off := 385) hx hb dL_law_39 (by rw [h]; decide) (by rw [h]; decide) (by rw [h]; rfl) (by decide) (law_best l hl9 C0 D cI cJ ad hK hE hi hL (by omega) (by omega) hJ hP hD hS hl hnext)
  · exact lv_tableIn (tgt := 452) (off := 413) hx hb dL_law_39 (by rw [h]; decide) (by rw [h]; decide) (by rw [h]; rfl) (by decide) (law_made l hl9 C0 D cI cJ ad hK hE hi hL (by omega) (by omega) hJ hP hD hS hl hnext)
  · exact lv_tableIn (tgt := 480) (off := 441) hx hb dL_law_39 (by rw [h]; decide) (by rw [h]; decide) (by rw [h]; rfl) (by decide) (law_saw l hl9 C0 D cI cJ ad hK hE hi hL (by omega) (by omega) hJ hP hD hS hl hnext)
  · exact lv_tableIn (tgt := 496) (off := 457) hx hb dL_law_39 (by rw [h]; decide) (by rw [h]; decide) (by rw [h]; rfl) (by decide) (law_mill l hl9 C0 D cI cJ ad hK hE hi hL (by omega) (by omega) hJ hP hD hS hl hnext)
  · exact lv_tableIn (tgt := 524) (off := 485) hx hb dL_law_39 (by rw [h]; decide) (by rw [h]; decide) (by rw [h]; rfl) (by decide) (law_cost l hl9 C0 D cI cJ ad hK hE hi hL (by omega) (by omega) hJ hP hD hS hl hnext)
  · exact lv_tableOut (tgt := 592) hx hb dL_law_39 h (by decide) (W.widen (k := k + 8) (n := n + 48) (by omega) (by omega) (hnext sg H locs ls hJ hP hD hS hl))
