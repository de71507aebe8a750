/-- the law's world when all is made: the class's cells, out, the reference's -/
def frL (k j : Nat) : Int32 := if k < 33 then fr k j else if k = 33 then nI 0 else fm (k - 34) j
theorem law_out0 : (fun j => frL (gw_p [0, 1, 2, 3, 4, 5, 6, 7, 8, 9, 10, 11, 12, 13, 14, 15, 16, 17, 18, 19, 20, 21, 22, 23, 24, 25, 26, 27, 28, 29, 30, 31, 32, 33] j)) 33 0 = nI 0 := rfl
theorem law_fr (k j : Nat) (hk : k < 33) : (fun i => frL (gw_p [0, 1, 2, 3, 4, 5, 6, 7, 8, 9, 10, 11, 12, 13, 14, 15, 16, 17, 18, 19, 20, 21, 22, 23, 24, 25, 26, 27, 28, 29, 30, 31, 32, 33] i)) k j = fr k j := by
  have e : gw_p [0, 1, 2, 3, 4, 5, 6, 7, 8, 9, 10, 11, 12, 13, 14, 15, 16, 17, 18, 19, 20, 21, 22, 23, 24, 25, 26, 27, 28, 29, 30, 31, 32, 33] k = k := by revert k; decide
  show frL (gw_p [0, 1, 2, 3, 4, 5, 6, 7, 8, 9, 10, 11, 12, 13, 14, 15, 16, 17, 18, 19, 20, 21, 22, 23, 24, 25, 26, 27, 28, 29, 30, 31, 32, 33] k) j = _
  rw [e]
  simp [frL, hk]
theorem law_mod {sg2 : Nat → Nat → Int32} (h2 : ∀ k, k ∉ [0, 1, 2, 3, 4, 5, 6, 7, 8, 9, 10, 11, 12, 13, 14, 15, 16, 17, 18, 19, 20, 21, 22, 23, 24, 25, 26, 27, 28, 29, 30, 31, 32, 33] → sg2 k = frL k) (k j : Nat) (hk : k < 13) : (fun i => sg2 (gw_p [34, 35, 36, 37, 38, 39, 40, 41, 42, 43, 44, 45, 46] i)) k j = fm k j := by
  have e : gw_p [34, 35, 36, 37, 38, 39, 40, 41, 42, 43, 44, 45, 46] k = k + 34 := by revert k; decide
  have e2 : ∀ k, k < 13 → k + 34 ∉ [0, 1, 2, 3, 4, 5, 6, 7, 8, 9, 10, 11, 12, 13, 14, 15, 16, 17, 18, 19, 20, 21, 22, 23, 24, 25, 26, 27, 28, 29, 30, 31, 32, 33] := by decide
  show sg2 (gw_p [34, 35, 36, 37, 38, 39, 40, 41, 42, 43, 44, 45, 46] k) j = _
  rw [e, h2 _ (e2 k hk)]
  simp [frL, show ¬ k + 34 < 33 by omega]
set_option maxRecDepth 100000 in
set_option maxHeartbeats 4000000 in
theorem law_out {p : Program} {e : Env} {s : State} {m : MethodId} {below : List Frame} {meth : Method} {c : Code} (l : Launch) (hl9 : l.stackTraces = false) {b L : Nat} {xs : Nat → Int32} (C0 : lw_At p s m meth c b L xs) (D : va_G) (cI : ClassId) (cJ : ClassId × ClassId) (ad : Nat → Nat) (hK : va_K D vwCl (tyS cI cJ) s) (hE : gc_ex gxT gxN (fun q : Nat => s.heap.size ≤ q) s s.heap) {H : Heap} {locs : List Loc} {pc : Nat} {ls : Array Slot} {k n : Nat} (hk : k ≤ 676327) (hn : n ≤ 7073255) (hS : va_S (fun q : Nat => s.heap.size ≤ q) s.heap H locs) (hd0 : decode code pc = .ok (.iconst 1, 1)) (hd1 : decode code (pc + 1) = .ok (.ireturn, 1)) : W p l e room_1 s m #[Value.ref b] below meth c H locs k n (lw_Z below #[Value.ref b] s) (F0 m pc ls []) := by
  obtain ⟨hx, hb, hr, hml, hown, hts, hX, hbl, hlocks, hgv⟩ := id C0
  refine va_forget (fun q hq => hS.2.2 q hq) ?_
  refine W.widen (k := 676327) (n := 7073255) hk hn ?_
  refine lv_iconst (v := 1) hx hb hd0 (by decide) ?_
  exact lw_ret hx hb hr hlocks hd1
set_option maxRecDepth 100000 in
set_option maxHeartbeats 4000000 in
theorem law_860 {p : Program} {e : Env} {s : State} {m : MethodId} {below : List Frame} {meth : Method} {c : Code} (l : Launch) (hl9 : l.stackTraces = false) {b : Nat} {xs : Nat → Int32} (C0 : lw_At p s m meth c b 5 xs) (D : va_G) (cI : ClassId) (cJ : ClassId × ClassId) (ad : Nat → Nat) (hK : va_K D vwCl (tyS cI cJ) s) (hE : gc_ex gxT gxN (fun q : Nat => s.heap.size ≤ q) s s.heap) {H : Heap} {locs : List Loc} {ls : Array Slot} {k n : Nat} (hk : k ≤ 676327) (hn : n ≤ 7073255) (hS : va_S (fun q : Nat => s.heap.size ≤ q) s.heap H locs) (hl : lv_has ls 7 [(0, .ref b), (4, .int (nI 0))]) : W p l e room_1 s m #[Value.ref b] below meth c H locs k n (lw_Z below #[Value.ref b] s) (F0 m 860 ls []) := by
  obtain ⟨hx, hb, hr, hml, hown, hts, hX, hbl, hlocks, hgv⟩ := id C0
  have hown : s.vm.findClass RL = some m.cls := hown
  have hts : ∀ w ∈ wsAll, w.before #[Value.ref b] s = true := fun w h => hts w (List.mem_filter.mp h).1
  have hA : ∀ q : Nat, s.heap.size ≤ q → (fun q : Nat => s.heap.size ≤ q) q := fun _ h => h
  have hbA : ¬ (fun q : Nat => s.heap.size ≤ q) b := Nat.not_le.mpr hbl
  refine lv_iinc (k := 1) (v := nI 5) (lv' := [(4, .int (nI 5)), (0, .ref b)]) hx hb dL_law_860 hl rfl (by decide) (by decide) rfl (fun ls hl => ?_)
  refine lv_goto (tgt := 23) hx hb dL_law_863 (by decide) ?_
  refine lv_iload hx hb dL_law_23 (lv_at hl 0 rfl) ?_
  refine lv_aload_n hx hb dL_law_25 rfl (lv_at hl 1 rfl) ?_
  refine va_slen hx hb hX hbl hbA hS dL_law_26 ?_
  refine lv_iconst (v := nI 5) hx hb dL_law_27 (by decide) ?_
  refine lv_isub hx hb dL_law_28 ?_
  refine gw_top (y := nI 0) (by decide) ?_
  refine lv_icmp_gt (tgt := 866) hx hb dL_law_29 (by decide) (fun hc => ?_) (fun hc => ?_)
  · exact law_out l hl9 C0 D cI cJ ad hK hE hk hn hS dL_law_866 dL_law_867
  · exact absurd (by decide) hc
set_option maxRecDepth 100000 in
set_option maxHeartbeats 4000000 in
theorem law_logs {p : Program} {e : Env} {s : State} {m : MethodId} {below : List Frame} {meth : Method} {c : Code} (l : Launch) (hl9 : l.stackTraces = false) {b : Nat} {xs : Nat → Int32} (C0 : lw_At p s m meth c b 5 xs) (D : va_G) (cI : ClassId) (cJ : ClassId × ClassId) (ad : Nat → Nat) (hK : va_K D vwCl (tyS cI cJ) s) (hE : gc_ex gxT gxN (fun q : Nat => s.heap.size ≤ q) s s.heap) {H : Heap} {locs : List Loc} {ls : Array Slot} (hP : va_P D vwCl (gw cI cJ ad frL SL) H) (hD : va_D (fun q : Nat => s.heap.size ≤ q) (gw cI cJ ad frL SL)) (hS : va_S (fun q : Nat => s.heap.size ≤ q) s.heap H locs) (hl : lv_has ls 7 [(0, .ref b), (1, .ref (ad 0)), (2, .ref (ad 34)), (3, .ref (ad 33)), (4, .int (nI 0))]) : W p l e room_1 s m #[Value.ref b] below meth c H locs 47 288 (lw_Z below #[Value.ref b] s) (F0 m 104 ls []) := by
  obtain ⟨hx, hb, hr, hml, hown, hts, hX, hbl, hlocks, hgv⟩ := id C0
  have hown : s.vm.findClass RL = some m.cls := hown
  have hts : ∀ w ∈ wsAll, w.before #[Value.ref b] s = true := fun w h => hts w (List.mem_filter.mp h).1
  have hA : ∀ q : Nat, s.heap.size ≤ q → (fun q : Nat => s.heap.size ≤ q) q := fun _ h => h
  have hbA : ¬ (fun q : Nat => s.heap.size ≤ q) b := Nat.not_le.mpr hbl
  refine lv_aload_n hx hb dL_law_104 rfl (lv_at hl 1 rfl) ?_
  refine lv_aload_n hx hb dL_law_105 rfl (lv_at hl 0 rfl) ?_
  refine lv_iload hx hb dL_law_106 (lv_at hl 4 rfl) ?_
  refine lv_iconst (v := (nI 1)) hx hb dL_law_108 (by decide) ?_
  refine lv_iadd hx hb dL_law_109 ?_
  refine gw_top (y := (nI 1)) (by decide) ?_
  refine va_sld hx hb hX hbl hbA hS (vp_in_nI (n := 1) (N := 5) (by decide) (by decide)) dL_law_110 ?_
  refine gw_top (y := xs 1) (by rw [nI_clamp (by decide)]) ?_
  refine lv_aload_n hx hb dL_law_111 rfl (lv_at hl 0 rfl) ?_
  refine lv_iload hx hb dL_law_112 (lv_at hl 4 rfl) ?_
  refine lv_iconst (v := (nI 2)) hx hb dL_law_114 (by decide) ?_
  refine lv_iadd hx hb dL_law_115 ?_
  refine gw_top (y := (nI 2)) (by decide) ?_
  refine va_sld hx hb hX hbl hbA hS (vp_in_nI (n := 2) (N := 5) (by decide) (by decide)) dL_law_116 ?_
  refine gw_top (y := xs 2) (by rw [nI_clamp (by decide)]) ?_
  refine lv_aload_n hx hb dL_law_117 rfl (lv_at hl 0 rfl) ?_
  refine lv_iload hx hb dL_law_118 (lv_at hl 4 rfl) ?_
  refine lv_iconst (v := (nI 3)) hx hb dL_law_120 (by decide) ?_
  refine lv_iadd hx hb dL_law_121 ?_
  refine gw_top (y := (nI 3)) (by decide) ?_
  refine va_sld hx hb hX hbl hbA hS (vp_in_nI (n := 3) (N := 5) (by decide) (by decide)) dL_law_122 ?_
  refine gw_top (y := xs 3) (by rw [nI_clamp (by decide)]) ?_
  refine gc_go (pl := [0, 1, 2, 3, 4, 5, 6, 7, 8, 9, 10, 11, 12, 13, 14, 15, 16, 17, 18, 19, 20, 21, 22, 23, 24, 25, 26, 27, 28, 29, 30, 31, 32, 33]) (S2 := SW) (ad := ad) (sg := frL) (vx_runSW (As := [.ref (ad 0), .int (xs 1), .int (xs 2), .int (xs 3)]) (rest := []) ⟨hx, hb, hml, hown, hts⟩ (m_L_logs l hl9 D cI cJ (fun j => ad (gw_p [0, 1, 2, 3, 4, 5, 6, 7, 8, 9, 10, 11, 12, 13, 14, 15, 16, 17, 18, 19, 20, 21, 22, 23, 24, 25, 26, 27, 28, 29, 30, 31, 32, 33] j)) (fun j => frL (gw_p [0, 1, 2, 3, 4, 5, 6, 7, 8, 9, 10, 11, 12, 13, 14, 15, 16, 17, 18, 19, 20, 21, 22, 23, 24, 25, 26, 27, 28, 29, 30, 31, 32, 33] j)) _ (xs 1) (xs 2) (xs 3) law_out0) (vx_cwSW 4 hts (gwSW a219 a220 a221 a222) rfl rfl rfl (by decide +kernel) ⟨by decide, by decide⟩) (gc_preS hK hP hD hS hA hE rfl) rfl rfl hl.1 rfl (lv_room (Nat.le_of_ble_eq_true rfl)) dL_law_123 ⟨by decide, by decide⟩) hP hD hS hA rfl (fun v1 sp2 sg3 H locs hp4 ha5 hb6 hP hD hS => ?_)
  obtain ⟨rfl, ho⟩ := hp4
  have ho : sg3 33 0 = nI 0 := (congrFun (ha5 33 (by decide)) 0).trans ho
  have hM : ∀ k j : Nat, k < 13 → (fun i => sg3 (gw_p [34, 35, 36, 37, 38, 39, 40, 41, 42, 43, 44, 45, 46] i)) k j = fm k j := law_mod hb6
  refine W.eq (g2 := F0 m 126 ls [.int (kLogs (xs 1) (xs 2) (xs 3))]) rfl ?_
  refine lv_istore (lv' := [(5, .int (kLogs (xs 1) (xs 2) (xs 3))), (0, .ref b), (1, .ref (ad 0)), (2, .ref (ad 34)), (3, .ref (ad 33)), (4, .int (nI 0))]) hx hb dL_law_126 hl (by decide) rfl (fun ls hl => ?_)
  refine lv_aload_n hx hb dL_law_128 rfl (lv_at hl 3 rfl) ?_
  refine lv_aload_n hx hb dL_law_129 rfl (lv_at hl 1 rfl) ?_
  refine lv_iload hx hb dL_law_130 (lv_at hl 5 rfl) ?_
  refine lv_iconst (v := (nI 1)) hx hb dL_law_132 (by decide) ?_
  refine lv_iadd hx hb dL_law_133 ?_
  refine gw_top (y := (nI 1)) (by decide) ?_
  refine va_sld hx hb hX hbl hbA hS (vp_in_nI (n := 1) (N := 5) (by decide) (by decide)) dL_law_134 ?_
  refine gw_top (y := xs 1) (by rw [nI_clamp (by decide)]) ?_
  refine lv_aload_n hx hb dL_law_135 rfl (lv_at hl 1 rfl) ?_
  refine lv_iload hx hb dL_law_136 (lv_at hl 5 rfl) ?_
  refine lv_iconst (v := (nI 2)) hx hb dL_law_138 (by decide) ?_
  refine lv_iadd hx hb dL_law_139 ?_
  refine gw_top (y := (nI 2)) (by decide) ?_
  refine va_sld hx hb hX hbl hbA hS (vp_in_nI (n := 2) (N := 5) (by decide) (by decide)) dL_law_140 ?_
  refine gw_top (y := xs 2) (by rw [nI_clamp (by decide)]) ?_
  refine lv_aload_n hx hb dL_law_141 rfl (lv_at hl 1 rfl) ?_
  refine lv_iload hx hb dL_law_142 (lv_at hl 5 rfl) ?_
  refine lv_iconst (v := (nI 3)) hx hb dL_law_144 (by decide) ?_
  refine lv_iadd hx hb dL_law_145 ?_
  refine gw_top (y := (nI 3)) (by decide) ?_
  refine va_sld hx hb hX hbl hbA hS (vp_in_nI (n := 3) (N := 5) (by decide) (by decide)) dL_law_146 ?_
  refine gw_top (y := xs 3) (by rw [nI_clamp (by decide)]) ?_
  refine gc_go (pl := [34, 35, 36, 37, 38, 39, 40, 41, 42, 43, 44, 45, 46]) (S2 := SM) (ad := ad) (sg := sg3) (va_runV (As := [.int (xs 1), .int (xs 2), .int (xs 3)]) (rest := []) ⟨hx, hb, hml, hown, hts⟩ (m_X3_logs l hl9 D cI cJ (fun j => ad (gw_p [34, 35, 36, 37, 38, 39, 40, 41, 42, 43, 44, 45, 46] j)) (fun j => sg3 (gw_p [34, 35, 36, 37, 38, 39, 40, 41, 42, 43, 44, 45, 46] j)) _ (xs 1) (xs 2) (xs 3) hM) (cwV 3 hts (gwV a223 a224 a225 a87 a226) rfl rfl rfl (by decide +kernel) ⟨by decide, by decide⟩) (gc_preV hK hP hD hS hA hE rfl rfl rfl rfl) rfl rfl hl.1 rfl (lv_room (Nat.le_of_ble_eq_true rfl)) dL_law_147 ⟨by decide, by decide⟩) hP hD hS hA rfl (fun v7 sp8 sg9 H locs hp10 ha11 hb12 hP hD hS => ?_)
  obtain ⟨rfl, hc9⟩ := hp10
  have hc9 : sg9 34 0 = (kLogs (xs 1) (xs 2) (xs 3)) := (congrFun (ha11 0 (by decide)) _).trans hc9
  have ho : sg9 33 0 = nI 0 := (congrFun (hb12 33 (by decide)) 0).trans ho
  refine W.eq (g2 := F0 m 150 ls []) rfl ?_
  refine lv_aload_n hx hb dL_law_150 rfl (lv_at hl 3 rfl) ?_
  refine gc_go (pl := [34, 35, 36, 37, 38, 39, 40, 41, 42, 43, 44, 45, 46]) (S2 := SM) (ad := ad) (sg := sg9) (va_runV (As := []) (rest := []) ⟨hx, hb, hml, hown, hts⟩ (m_X3_thrown l hl9 D cI cJ (fun j => ad (gw_p [34, 35, 36, 37, 38, 39, 40, 41, 42, 43, 44, 45, 46] j)) (fun j => sg9 (gw_p [34, 35, 36, 37, 38, 39, 40, 41, 42, 43, 44, 45, 46] j)) _  ) (cwV 0 hts (gwV a227 a228 a229 a87 a230) rfl rfl rfl (by decide +kernel) ⟨by decide, by decide⟩) (gc_preV hK hP hD hS hA hE rfl rfl rfl rfl) rfl rfl hl.1 rfl (lv_room (Nat.le_of_ble_eq_true rfl)) dL_law_151 ⟨by decide, by decide⟩) hP hD hS hA rfl (fun v13 sp14 sg15 H locs hp16 ha17 hb18 hP hD hS => ?_)
  obtain ⟨rfl, hs9⟩ := hp16
  rw [gw_same hs9 ha17 hb18 rfl] at hP hD
  refine W.eq (g2 := F0 m 154 ls [.int (kLogs (xs 1) (xs 2) (xs 3))]) (by show F0 m _ ls (Value.int (sg9 34 0) :: _) = _; rw [hc9]; rfl) ?_
  refine lv_iload hx hb dL_law_154 (lv_at hl 0 rfl) ?_
  refine lv_icmp_eq (tgt := 161) hx hb dL_law_156 (by decide) (fun hc19 => ?_) (fun hc19 => ?_)
  · refine lv_goto (tgt := 860) hx hb dL_law_161 (by decide) ?_
    exact law_860 l hl9 C0 D cI cJ ad hK hE (by decide) (by decide) hS (lv_sub hl [1, 5] rfl)
  · exact absurd rfl hc19
set_option maxRecDepth 100000 in
set_option maxHeartbeats 4000000 in
theorem law_pattern {p : Program} {e : Env} {s : State} {m : MethodId} {below : List Frame} {meth : Method} {c : Code} (l : Launch) (hl9 : l.stackTraces = false) {b : Nat} {xs : Nat → Int32} (C0 : lw_At p s m meth c b 5 xs) (D : va_G) (cI : ClassId) (cJ : ClassId × ClassId) (ad : Nat → Nat) (hK : va_K D vwCl (tyS cI cJ) s) (hE : gc_ex gxT gxN (fun q : Nat => s.heap.size ≤ q) s s.heap) {H : Heap} {locs : List Loc} {ls : Array Slot} (hP : va_P D vwCl (gw cI cJ ad frL SL) H) (hD : va_D (fun q : Nat => s.heap.size ≤ q) (gw cI cJ ad frL SL)) (hS : va_S (fun q : Nat => s.heap.size ≤ q) s.heap H locs) (hl : lv_has ls 7 [(0, .ref b), (1, .ref (ad 0)), (2, .ref (ad 34)), (3, .ref (ad 33)), (4, .int (nI 0))]) : W p l e room_1 s m #[Value.ref b] below meth c H locs 47 288 (lw_Z below #[Value.ref b] s) (F0 m 164 ls []) := by
  obtain ⟨hx, hb, hr, hml, hown, hts, hX, hbl, hlocks, hgv⟩ := id C0
  have hown : s.vm.findClass RL = some m.cls := hown
  have hts : ∀ w ∈ wsAll, w.before #[Value.ref b] s = true := fun w h => hts w (List.mem_filter.mp h).1
  have hA : ∀ q : Nat, s.heap.size ≤ q → (fun q : Nat => s.heap.size ≤ q) q := fun _ h => h
  have hbA : ¬ (fun q : Nat => s.heap.size ≤ q) b := Nat.not_le.mpr hbl
  refine lv_aload_n hx hb dL_law_164 rfl (lv_at hl 1 rfl) ?_
  refine lv_aload_n hx hb dL_law_165 rfl (lv_at hl 0 rfl) ?_
  refine lv_iload hx hb dL_law_166 (lv_at hl 4 rfl) ?_
  refine lv_iconst (v := (nI 1)) hx hb dL_law_168 (by decide) ?_
  refine lv_iadd hx hb dL_law_169 ?_
  refine gw_top (y := (nI 1)) (by decide) ?_
  refine va_sld hx hb hX hbl hbA hS (vp_in_nI (n := 1) (N := 5) (by decide) (by decide)) dL_law_170 ?_
  refine gw_top (y := xs 1) (by rw [nI_clamp (by decide)]) ?_
  refine lv_aload_n hx hb dL_law_171 rfl (lv_at hl 0 rfl) ?_
  refine lv_iload hx hb dL_law_172 (lv_at hl 4 rfl) ?_
  refine lv_iconst (v := (nI 2)) hx hb dL_law_174 (by decide) ?_
  refine lv_iadd hx hb dL_law_175 ?_
  refine gw_top (y := (nI 2)) (by decide) ?_
  refine va_sld hx hb hX hbl hbA hS (vp_in_nI (n := 2) (N := 5) (by decide) (by decide)) dL_law_176 ?_
  refine gw_top (y := xs 2) (by rw [nI_clamp (by decide)]) ?_
  refine lv_aload_n hx hb dL_law_177 rfl (lv_at hl 3 rfl) ?_
  refine gc_go (pl := [0, 1, 2, 3, 4, 5, 6, 7, 8, 9, 10, 11, 12, 13, 14, 15, 16, 17, 18, 19, 20, 21, 22, 23, 24, 25, 26, 27, 28, 29, 30, 31, 32, 33]) (S2 := SW) (ad := ad) (sg := frL) (vx_runSW (As := [.ref (ad 0), .int (xs 1), .int (xs 2), .ref (ad 33)]) (rest := []) ⟨hx, hb, hml, hown, hts⟩ (m_L_pattern l hl9 D cI cJ (fun j => ad (gw_p [0, 1, 2, 3, 4, 5, 6, 7, 8, 9, 10, 11, 12, 13, 14, 15, 16, 17, 18, 19, 20, 21, 22, 23, 24, 25, 26, 27, 28, 29, 30, 31, 32, 33] j)) (fun j => frL (gw_p [0, 1, 2, 3, 4, 5, 6, 7, 8, 9, 10, 11, 12, 13, 14, 15, 16, 17, 18, 19, 20, 21, 22, 23, 24, 25, 26, 27, 28, 29, 30, 31, 32, 33] j)) _ (xs 1) (xs 2) law_out0 law_fr) (vx_cwSW 4 hts (gwSW a231 a232 a221 a233) rfl rfl rfl (by decide +kernel) ⟨by decide, by decide⟩) (gc_preS hK hP hD hS hA hE rfl) rfl rfl hl.1 rfl (lv_room (Nat.le_of_ble_eq_true rfl)) dL_law_178 ⟨by decide, by decide⟩) hP hD hS hA rfl (fun v1 sp2 sg3 H locs hp4 ha5 hb6 hP hD hS => ?_)
  obtain ⟨rfl, ho⟩ := hp4
  have ho : sg3 33 0 = nI 0 := (congrFun (ha5 33 (by decide)) 0).trans ho
  have hM : ∀ k j : Nat, k < 13 → (fun i => sg3 (gw_p [34, 35, 36, 37, 38, 39, 40, 41, 42, 43, 44, 45, 46] i)) k j = fm k j := law_mod hb6
  refine W.eq (g2 := F0 m 181 ls [.int (kPattern (xs 1) (xs 2))]) rfl ?_
  refine lv_istore (lv' := [(5, .int (kPattern (xs 1) (xs 2))), (0, .ref b), (1, .ref (ad 0)), (2, .ref (ad 34)), (3, .ref (ad 33)), (4, .int (nI 0))]) hx hb dL_law_181 hl (by decide) rfl (fun ls hl => ?_)
  refine lv_aload_n hx hb dL_law_183 rfl (lv_at hl 3 rfl) ?_
  refine lv_aload_n hx hb dL_law_184 rfl (lv_at hl 1 rfl) ?_
  refine lv_iload hx hb dL_law_185 (lv_at hl 5 rfl) ?_
  refine lv_iconst (v := (nI 1)) hx hb dL_law_187 (by decide) ?_
  refine lv_iadd hx hb dL_law_188 ?_
  refine gw_top (y := (nI 1)) (by decide) ?_
  refine va_sld hx hb hX hbl hbA hS (vp_in_nI (n := 1) (N := 5) (by decide) (by decide)) dL_law_189 ?_
  refine gw_top (y := xs 1) (by rw [nI_clamp (by decide)]) ?_
  refine lv_aload_n hx hb dL_law_190 rfl (lv_at hl 1 rfl) ?_
  refine lv_iload hx hb dL_law_191 (lv_at hl 5 rfl) ?_
  refine lv_iconst (v := (nI 2)) hx hb dL_law_193 (by decide) ?_
  refine lv_iadd hx hb dL_law_194 ?_
  refine gw_top (y := (nI 2)) (by decide) ?_
  refine va_sld hx hb hX hbl hbA hS (vp_in_nI (n := 2) (N := 5) (by decide) (by decide)) dL_law_195 ?_
  refine gw_top (y := xs 2) (by rw [nI_clamp (by decide)]) ?_
  refine gc_go (pl := [34, 35, 36, 37, 38, 39, 40, 41, 42, 43, 44, 45, 46]) (S2 := SM) (ad := ad) (sg := sg3) (va_runV (As := [.int (xs 1), .int (xs 2)]) (rest := []) ⟨hx, hb, hml, hown, hts⟩ (m_X3_pattern l hl9 D cI cJ (fun j => ad (gw_p [34, 35, 36, 37, 38, 39, 40, 41, 42, 43, 44, 45, 46] j)) (fun j => sg3 (gw_p [34, 35, 36, 37, 38, 39, 40, 41, 42, 43, 44, 45, 46] j)) _ (xs 1) (xs 2) hM) (cwV 2 hts (gwV a234 a235 a236 a87 a237) rfl rfl rfl (by decide +kernel) ⟨by decide, by decide⟩) (gc_preV hK hP hD hS hA hE rfl rfl rfl rfl) rfl rfl hl.1 rfl (lv_room (Nat.le_of_ble_eq_true rfl)) dL_law_196 ⟨by decide, by decide⟩) hP hD hS hA rfl (fun v7 sp8 sg9 H locs hp10 ha11 hb12 hP hD hS => ?_)
  obtain ⟨rfl, hc9⟩ := hp10
  have hc9 : sg9 34 0 = (kPattern (xs 1) (xs 2)) := (congrFun (ha11 0 (by decide)) _).trans hc9
  have ho : sg9 33 0 = nI 0 := (congrFun (hb12 33 (by decide)) 0).trans ho
  refine W.eq (g2 := F0 m 199 ls [.int (nI 0)]) rfl ?_
  refine lv_istore (lv' := [(6, .int (nI 0)), (5, .int (kPattern (xs 1) (xs 2))), (0, .ref b), (1, .ref (ad 0)), (2, .ref (ad 34)), (3, .ref (ad 33)), (4, .int (nI 0))]) hx hb dL_law_199 hl (by decide) rfl (fun ls hl => ?_)
  refine lv_aload_n hx hb dL_law_201 rfl (lv_at hl 4 rfl) ?_
  refine gc_go (pl := [34, 35, 36, 37, 38, 39, 40, 41, 42, 43, 44, 45, 46]) (S2 := SM) (ad := ad) (sg := sg9) (va_runV (As := []) (rest := []) ⟨hx, hb, hml, hown, hts⟩ (m_X3_thrown l hl9 D cI cJ (fun j => ad (gw_p [34, 35, 36, 37, 38, 39, 40, 41, 42, 43, 44, 45, 46] j)) (fun j => sg9 (gw_p [34, 35, 36, 37, 38, 39, 40, 41, 42, 43, 44, 45, 46] j)) _  ) (cwV 0 hts (gwV a227 a228 a229 a87 a230) rfl rfl rfl (by decide +kernel) ⟨by decide, by decide⟩) (gc_preV hK hP hD hS hA hE rfl rfl rfl rfl) rfl rfl hl.1 rfl (lv_room (Nat.le_of_ble_eq_true rfl)) dL_law_202 ⟨by decide, by decide⟩) hP hD hS hA rfl (fun v13 sp14 sg15 H locs hp16 ha17 hb18 hP hD hS => ?_)
  obtain ⟨rfl, hs9⟩ := hp16
  rw [gw_same hs9 ha17 hb18 rfl] at hP hD
  refine W.eq (g2 := F0 m 205 ls [.int (kPattern (xs 1) (xs 2))]) (by show F0 m _ ls (Value.int (sg9 34 0) :: _) = _; rw [hc9]; rfl) ?_
  refine lv_iload hx hb dL_law_205 (lv_at hl 1 rfl) ?_
  refine lv_icmp_eq (tgt := 212) hx hb dL_law_207 (by decide) (fun hc19 => ?_) (fun hc19 => ?_)
  · refine lv_iload hx hb dL_law_212 (lv_at hl 1 rfl) ?_
    refine lv_if_ne (tgt := 229) hx hb dL_law_214 (by decide) (fun hc20 => ?_) (fun hc20 => ?_)
    · refine lv_goto (tgt := 860) hx hb dL_law_229 (by decide) ?_
      exact law_860 l hl9 C0 D cI cJ ad hK hE (by decide) (by decide) hS (lv_sub hl [2, 6] rfl)
    · refine lv_aload_n hx hb dL_law_217 rfl (lv_at hl 5 rfl) ?_
      refine lv_iconst (v := (nI 0)) hx hb dL_law_218 (by decide) ?_
      refine gw_lald hx hb hK hP 33 2 (n := 1) rfl rfl (i := 0) (by decide) (by decide) dL_law_219 ?_
      rw [ho]
      refine lv_iload hx hb dL_law_220 (lv_at hl 0 rfl) ?_
      refine lv_i2l hx hb dL_law_222 rfl ?_
      refine W.lcmp hx hb dL_law_223 ?_
      refine gw_top (y := nI 0) (by decide) ?_
      refine lv_if_eq (tgt := 229) hx hb dL_law_224 (by decide) (fun hc21 => ?_) (fun hc21 => ?_)
      · refine lv_goto (tgt := 860) hx hb dL_law_229 (by decide) ?_
        exact law_860 l hl9 C0 D cI cJ ad hK hE (by decide) (by decide) hS (lv_sub hl [2, 6] rfl)
      · exact absurd hc21 (by decide)
  · exact absurd rfl hc19
set_option maxRecDepth 100000 in
set_option maxHeartbeats 4000000 in
theorem law_gives {p : Program} {e : Env} {s : State} {m : MethodId} {below : List Frame} {meth : Method} {c : Code} (l : Launch) (hl9 : l.stackTraces = false) {b : Nat} {xs : Nat → Int32} (C0 : lw_At p s m meth c b 5 xs) (D : va_G) (cI : ClassId) (cJ : ClassId × ClassId) (ad : Nat → Nat) (hK : va_K D vwCl (tyS cI cJ) s) (hE : gc_ex gxT gxN (fun q : Nat => s.heap.size ≤ q) s s.heap) {H : Heap} {locs : List Loc} {ls : Array Slot} (hP : va_P D vwCl (gw cI cJ ad frL SL) H) (hD : va_D (fun q : Nat => s.heap.size ≤ q) (gw cI cJ ad frL SL)) (hS : va_S (fun q : Nat => s.heap.size ≤ q) s.heap H locs) (hl : lv_has ls 7 [(0, .ref b), (1, .ref (ad 0)), (2, .ref (ad 34)), (3, .ref (ad 33)), (4, .int (nI 0))]) : W p l e room_1 s m #[Value.ref b] below meth c H locs 47 288 (lw_Z below #[Value.ref b] s) (F0 m 232 ls []) := by
  obtain ⟨hx, hb, hr, hml, hown, hts, hX, hbl, hlocks, hgv⟩ := id C0
  have hown : s.vm.findClass RL = some m.cls := hown
  have hts : ∀ w ∈ wsAll, w.before #[Value.ref b] s = true := fun w h => hts w (List.mem_filter.mp h).1
  have hA : ∀ q : Nat, s.heap.size ≤ q → (fun q : Nat => s.heap.size ≤ q) q := fun _ h => h
  have hbA : ¬ (fun q : Nat => s.heap.size ≤ q) b := Nat.not_le.mpr hbl
  refine lv_aload_n hx hb dL_law_232 rfl (lv_at hl 1 rfl) ?_
  refine lv_aload_n hx hb dL_law_233 rfl (lv_at hl 0 rfl) ?_
  refine lv_iload hx hb dL_law_234 (lv_at hl 4 rfl) ?_
  refine lv_iconst (v := (nI 1)) hx hb dL_law_236 (by decide) ?_
  refine lv_iadd hx hb dL_law_237 ?_
  refine gw_top (y := (nI 1)) (by decide) ?_
  refine va_sld hx hb hX hbl hbA hS (vp_in_nI (n := 1) (N := 5) (by decide) (by decide)) dL_law_238 ?_
  refine gw_top (y := xs 1) (by rw [nI_clamp (by decide)]) ?_
  refine lv_aload_n hx hb dL_law_239 rfl (lv_at hl 0 rfl) ?_
  refine lv_iload hx hb dL_law_240 (lv_at hl 4 rfl) ?_
  refine lv_iconst (v := (nI 2)) hx hb dL_law_242 (by decide) ?_
  refine lv_iadd hx hb dL_law_243 ?_
  refine gw_top (y := (nI 2)) (by decide) ?_
  refine va_sld hx hb hX hbl hbA hS (vp_in_nI (n := 2) (N := 5) (by decide) (by decide)) dL_law_244 ?_
  refine gw_top (y := xs 2) (by rw [nI_clamp (by decide)]) ?_
  refine lv_aload_n hx hb dL_law_245 rfl (lv_at hl 0 rfl) ?_
  refine lv_iload hx hb dL_law_246 (lv_at hl 4 rfl) ?_
  refine lv_iconst (v := (nI 3)) hx hb dL_law_248 (by decide) ?_
  refine lv_iadd hx hb dL_law_249 ?_
  refine gw_top (y := (nI 3)) (by decide) ?_
  refine va_sld hx hb hX hbl hbA hS (vp_in_nI (n := 3) (N := 5) (by decide) (by decide)) dL_law_250 ?_
  refine gw_top (y := xs 3) (by rw [nI_clamp (by decide)]) ?_
  refine gc_go (pl := [0, 1, 2, 3, 4, 5, 6, 7, 8, 9, 10, 11, 12, 13, 14, 15, 16, 17, 18, 19, 20, 21, 22, 23, 24, 25, 26, 27, 28, 29, 30, 31, 32, 33]) (S2 := SW) (ad := ad) (sg := frL) (vx_runSW (As := [.ref (ad 0), .int (xs 1), .int (xs 2), .int (xs 3)]) (rest := []) ⟨hx, hb, hml, hown, hts⟩ (m_L_gives l hl9 D cI cJ (fun j => ad (gw_p [0, 1, 2, 3, 4, 5, 6, 7, 8, 9, 10, 11, 12, 13, 14, 15, 16, 17, 18, 19, 20, 21, 22, 23, 24, 25, 26, 27, 28, 29, 30, 31, 32, 33] j)) (fun j => frL (gw_p [0, 1, 2, 3, 4, 5, 6, 7, 8, 9, 10, 11, 12, 13, 14, 15, 16, 17, 18, 19, 20, 21, 22, 23, 24, 25, 26, 27, 28, 29, 30, 31, 32, 33] j)) _ (xs 1) (xs 2) (xs 3) law_out0 law_fr) (vx_cwSW 4 hts (gwSW a238 a239 a221 a240) rfl rfl rfl (by decide +kernel) ⟨by decide, by decide⟩) (gc_preS hK hP hD hS hA hE rfl) rfl rfl hl.1 rfl (lv_room (Nat.le_of_ble_eq_true rfl)) dL_law_251 ⟨by decide, by decide⟩) hP hD hS hA rfl (fun v1 sp2 sg3 H locs hp4 ha5 hb6 hP hD hS => ?_)
  obtain ⟨rfl, ho⟩ := hp4
  have ho : sg3 33 0 = nI 0 := (congrFun (ha5 33 (by decide)) 0).trans ho
  have hM : ∀ k j : Nat, k < 13 → (fun i => sg3 (gw_p [34, 35, 36, 37, 38, 39, 40, 41, 42, 43, 44, 45, 46] i)) k j = fm k j := law_mod hb6
  refine W.eq (g2 := F0 m 254 ls [.int (nI 1)]) rfl ?_
  refine lv_istore (lv' := [(5, .int (nI 1)), (0, .ref b), (1, .ref (ad 0)), (2, .ref (ad 34)), (3, .ref (ad 33)), (4, .int (nI 0))]) hx hb dL_law_254 hl (by decide) rfl (fun ls hl => ?_)
  refine lv_aload_n hx hb dL_law_256 rfl (lv_at hl 3 rfl) ?_
  refine lv_aload_n hx hb dL_law_257 rfl (lv_at hl 1 rfl) ?_
  refine lv_iload hx hb dL_law_258 (lv_at hl 5 rfl) ?_
  refine lv_iconst (v := (nI 1)) hx hb dL_law_260 (by decide) ?_
  refine lv_iadd hx hb dL_law_261 ?_
  refine gw_top (y := (nI 1)) (by decide) ?_
  refine va_sld hx hb hX hbl hbA hS (vp_in_nI (n := 1) (N := 5) (by decide) (by decide)) dL_law_262 ?_
  refine gw_top (y := xs 1) (by rw [nI_clamp (by decide)]) ?_
  refine lv_aload_n hx hb dL_law_263 rfl (lv_at hl 1 rfl) ?_
  refine lv_iload hx hb dL_law_264 (lv_at hl 5 rfl) ?_
  refine lv_iconst (v := (nI 2)) hx hb dL_law_266 (by decide) ?_
  refine lv_iadd hx hb dL_law_267 ?_
  refine gw_top (y := (nI 2)) (by decide) ?_
  refine va_sld hx hb hX hbl hbA hS (vp_in_nI (n := 2) (N := 5) (by decide) (by decide)) dL_law_268 ?_
  refine gw_top (y := xs 2) (by rw [nI_clamp (by decide)]) ?_
  refine lv_aload_n hx hb dL_law_269 rfl (lv_at hl 1 rfl) ?_
  refine lv_iload hx hb dL_law_270 (lv_at hl 5 rfl) ?_
  refine lv_iconst (v := (nI 3)) hx hb dL_law_272 (by decide) ?_
  refine lv_iadd hx hb dL_law_273 ?_
  refine gw_top (y := (nI 3)) (by decide) ?_
  refine va_sld hx hb hX hbl hbA hS (vp_in_nI (n := 3) (N := 5) (by decide) (by decide)) dL_law_274 ?_
  refine gw_top (y := xs 3) (by rw [nI_clamp (by decide)]) ?_
  refine gc_go (pl := [34, 35, 36, 37, 38, 39, 40, 41, 42, 43, 44, 45, 46]) (S2 := SM) (ad := ad) (sg := sg3) (va_runV (As := [.int (xs 1), .int (xs 2), .int (xs 3)]) (rest := []) ⟨hx, hb, hml, hown, hts⟩ (m_X3_gives l hl9 D cI cJ (fun j => ad (gw_p [34, 35, 36, 37, 38, 39, 40, 41, 42, 43, 44, 45, 46] j)) (fun j => sg3 (gw_p [34, 35, 36, 37, 38, 39, 40, 41, 42, 43, 44, 45, 46] j)) _ (xs 1) (xs 2) (xs 3) hM) (cwV 3 hts (gwV a241 a242 a243 a87 a244) rfl rfl rfl (by decide +kernel) ⟨by decide, by decide⟩) (gc_preV hK hP hD hS hA hE rfl rfl rfl rfl) rfl rfl hl.1 rfl (lv_room (Nat.le_of_ble_eq_true rfl)) dL_law_275 ⟨by decide, by decide⟩) hP hD hS hA rfl (fun v7 sp8 sg9 H locs hp10 ha11 hb12 hP hD hS => ?_)
  obtain ⟨rfl, hc9⟩ := hp10
  have hc9 : sg9 34 0 = (nI 1) := (congrFun (ha11 0 (by decide)) _).trans hc9
  have ho : sg9 33 0 = nI 0 := (congrFun (hb12 33 (by decide)) 0).trans ho
  refine W.eq (g2 := F0 m 278 ls []) rfl ?_
  refine lv_aload_n hx hb dL_law_278 rfl (lv_at hl 3 rfl) ?_
  refine gc_go (pl := [34, 35, 36, 37, 38, 39, 40, 41, 42, 43, 44, 45, 46]) (S2 := SM) (ad := ad) (sg := sg9) (va_runV (As := []) (rest := []) ⟨hx, hb, hml, hown, hts⟩ (m_X3_thrown l hl9 D cI cJ (fun j => ad (gw_p [34, 35, 36, 37, 38, 39, 40, 41, 42, 43, 44, 45, 46] j)) (fun j => sg9 (gw_p [34, 35, 36, 37, 38, 39, 40, 41, 42, 43, 44, 45, 46] j)) _  ) (cwV 0 hts (gwV a227 a228 a229 a87 a230) rfl rfl rfl (by decide +kernel) ⟨by decide, by decide⟩) (gc_preV hK hP hD hS hA hE rfl rfl rfl rfl) rfl rfl hl.1 rfl (lv_room (Nat.le_of_ble_eq_true rfl)) dL_law_279 ⟨by decide, by decide⟩) hP hD hS hA rfl (fun v13 sp14 sg15 H locs hp16 ha17 hb18 hP hD hS => ?_)
  obtain ⟨rfl, hs9⟩ := hp16
  rw [gw_same hs9 ha17 hb18 rfl] at hP hD
  refine W.eq (g2 := F0 m 282 ls [.int (nI 1)]) (by show F0 m _ ls (Value.int (sg9 34 0) :: _) = _; rw [hc9]; rfl) ?_
  refine lv_iload hx hb dL_law_282 (lv_at hl 0 rfl) ?_
  refine lv_icmp_eq (tgt := 289) hx hb dL_law_284 (by decide) (fun hc19 => ?_) (fun hc19 => ?_)
  · refine lv_goto (tgt := 860) hx hb dL_law_289 (by decide) ?_
    exact law_860 l hl9 C0 D cI cJ ad hK hE (by decide) (by decide) hS (lv_sub hl [1, 5] rfl)
  · exact absurd rfl hc19
set_option maxRecDepth 100000 in
set_option maxHeartbeats 4000000 in
theorem law_order {p : Program} {e : Env} {s : State} {m : MethodId} {below : List Frame} {meth : Method} {c : Code} (l : Launch) (hl9 : l.stackTraces = false) {b : Nat} {xs : Nat → Int32} (C0 : lw_At p s m meth c b 5 xs) (D : va_G) (cI : ClassId) (cJ : ClassId × ClassId) (ad : Nat → Nat) (hK : va_K D vwCl (tyS cI cJ) s) (hE : gc_ex gxT gxN (fun q : Nat => s.heap.size ≤ q) s s.heap) {H : Heap} {locs : List Loc} {ls : Array Slot} (hP : va_P D vwCl (gw cI cJ ad frL SL) H) (hD : va_D (fun q : Nat => s.heap.size ≤ q) (gw cI cJ ad frL SL)) (hS : va_S (fun q : Nat => s.heap.size ≤ q) s.heap H locs) (hl : lv_has ls 7 [(0, .ref b), (1, .ref (ad 0)), (2, .ref (ad 34)), (3, .ref (ad 33)), (4, .int (nI 0))]) : W p l e room_1 s m #[Value.ref b] below meth c H locs 47 288 (lw_Z below #[Value.ref b] s) (F0 m 292 ls []) := by
  obtain ⟨hx, hb, hr, hml, hown, hts, hX, hbl, hlocks, hgv⟩ := id C0
  have hown : s.vm.findClass RL = some m.cls := hown
  have hts : ∀ w ∈ wsAll, w.before #[Value.ref b] s = true := fun w h => hts w (List.mem_filter.mp h).1
  have hA : ∀ q : Nat, s.heap.size ≤ q → (fun q : Nat => s.heap.size ≤ q) q := fun _ h => h
  have hbA : ¬ (fun q : Nat => s.heap.size ≤ q) b := Nat.not_le.mpr hbl
  refine lv_aload_n hx hb dL_law_292 rfl (lv_at hl 1 rfl) ?_
  refine lv_aload_n hx hb dL_law_293 rfl (lv_at hl 0 rfl) ?_
  refine lv_iload hx hb dL_law_294 (lv_at hl 4 rfl) ?_
  refine lv_iconst (v := (nI 1)) hx hb dL_law_296 (by decide) ?_
  refine lv_iadd hx hb dL_law_297 ?_
  refine gw_top (y := (nI 1)) (by decide) ?_
  refine va_sld hx hb hX hbl hbA hS (vp_in_nI (n := 1) (N := 5) (by decide) (by decide)) dL_law_298 ?_
  refine gw_top (y := xs 1) (by rw [nI_clamp (by decide)]) ?_
  refine lv_aload_n hx hb dL_law_299 rfl (lv_at hl 0 rfl) ?_
  refine lv_iload hx hb dL_law_300 (lv_at hl 4 rfl) ?_
  refine lv_iconst (v := (nI 2)) hx hb dL_law_302 (by decide) ?_
  refine lv_iadd hx hb dL_law_303 ?_
  refine gw_top (y := (nI 2)) (by decide) ?_
  refine va_sld hx hb hX hbl hbA hS (vp_in_nI (n := 2) (N := 5) (by decide) (by decide)) dL_law_304 ?_
  refine gw_top (y := xs 2) (by rw [nI_clamp (by decide)]) ?_
  refine lv_aload_n hx hb dL_law_305 rfl (lv_at hl 0 rfl) ?_
  refine lv_iload hx hb dL_law_306 (lv_at hl 4 rfl) ?_
  refine lv_iconst (v := (nI 3)) hx hb dL_law_308 (by decide) ?_
  refine lv_iadd hx hb dL_law_309 ?_
  refine gw_top (y := (nI 3)) (by decide) ?_
  refine va_sld hx hb hX hbl hbA hS (vp_in_nI (n := 3) (N := 5) (by decide) (by decide)) dL_law_310 ?_
  refine gw_top (y := xs 3) (by rw [nI_clamp (by decide)]) ?_
  refine lv_aload_n hx hb dL_law_311 rfl (lv_at hl 0 rfl) ?_
  refine lv_iload hx hb dL_law_312 (lv_at hl 4 rfl) ?_
  refine lv_iconst (v := (nI 4)) hx hb dL_law_314 (by decide) ?_
  refine lv_iadd hx hb dL_law_315 ?_
  refine gw_top (y := (nI 4)) (by decide) ?_
  refine va_sld hx hb hX hbl hbA hS (vp_in_nI (n := 4) (N := 5) (by decide) (by decide)) dL_law_316 ?_
  refine gw_top (y := xs 4) (by rw [nI_clamp (by decide)]) ?_
  refine gc_go (pl := [0, 1, 2, 3, 4, 5, 6, 7, 8, 9, 10, 11, 12, 13, 14, 15, 16, 17, 18, 19, 20, 21, 22, 23, 24, 25, 26, 27, 28, 29, 30, 31, 32, 33]) (S2 := SW) (ad := ad) (sg := frL) (vx_runSW (As := [.ref (ad 0), .int (xs 1), .int (xs 2), .int (xs 3), .int (xs 4)]) (rest := []) ⟨hx, hb, hml, hown, hts⟩ (m_L_order l hl9 D cI cJ (fun j => ad (gw_p [0, 1, 2, 3, 4, 5, 6, 7, 8, 9, 10, 11, 12, 13, 14, 15, 16, 17, 18, 19, 20, 21, 22, 23, 24, 25, 26, 27, 28, 29, 30, 31, 32, 33] j)) (fun j => frL (gw_p [0, 1, 2, 3, 4, 5, 6, 7, 8, 9, 10, 11, 12, 13, 14, 15, 16, 17, 18, 19, 20, 21, 22, 23, 24, 25, 26, 27, 28, 29, 30, 31, 32, 33] j)) _ (xs 1) (xs 2) (xs 3) (xs 4) law_out0) (vx_cwSW 5 hts (gwSW a245 a246 a221 a247) rfl rfl rfl (by decide +kernel) ⟨by decide, by decide⟩) (gc_preS hK hP hD hS hA hE rfl) rfl rfl hl.1 rfl (lv_room (Nat.le_of_ble_eq_true rfl)) dL_law_317 ⟨by decide, by decide⟩) hP hD hS hA rfl (fun v1 sp2 sg3 H locs hp4 ha5 hb6 hP hD hS => ?_)
  obtain ⟨rfl, ho⟩ := hp4
  have ho : sg3 33 0 = nI 0 := (congrFun (ha5 33 (by decide)) 0).trans ho
  have hM : ∀ k j : Nat, k < 13 → (fun i => sg3 (gw_p [34, 35, 36, 37, 38, 39, 40, 41, 42, 43, 44, 45, 46] i)) k j = fm k j := law_mod hb6
  refine W.eq (g2 := F0 m 320 ls [.int (kOrder (xs 1) (xs 2) (xs 3) (xs 4))]) rfl ?_
  refine lv_istore (lv' := [(5, .int (kOrder (xs 1) (xs 2) (xs 3) (xs 4))), (0, .ref b), (1, .ref (ad 0)), (2, .ref (ad 34)), (3, .ref (ad 33)), (4, .int (nI 0))]) hx hb dL_law_320 hl (by decide) rfl (fun ls hl => ?_)
  refine lv_aload_n hx hb dL_law_322 rfl (lv_at hl 3 rfl) ?_
  refine lv_aload_n hx hb dL_law_323 rfl (lv_at hl 1 rfl) ?_
  refine lv_iload hx hb dL_law_324 (lv_at hl 5 rfl) ?_
  refine lv_iconst (v := (nI 1)) hx hb dL_law_326 (by decide) ?_
  refine lv_iadd hx hb dL_law_327 ?_
  refine gw_top (y := (nI 1)) (by decide) ?_
  refine va_sld hx hb hX hbl hbA hS (vp_in_nI (n := 1) (N := 5) (by decide) (by decide)) dL_law_328 ?_
  refine gw_top (y := xs 1) (by rw [nI_clamp (by decide)]) ?_
  refine lv_aload_n hx hb dL_law_329 rfl (lv_at hl 1 rfl) ?_
  refine lv_iload hx hb dL_law_330 (lv_at hl 5 rfl) ?_
  refine lv_iconst (v := (nI 2)) hx hb dL_law_332 (by decide) ?_
  refine lv_iadd hx hb dL_law_333 ?_
  refine gw_top (y := (nI 2)) (by decide) ?_
  refine va_sld hx hb hX hbl hbA hS (vp_in_nI (n := 2) (N := 5) (by decide) (by decide)) dL_law_334 ?_
  refine gw_top (y := xs 2) (by rw [nI_clamp (by decide)]) ?_
  refine lv_aload_n hx hb dL_law_335 rfl (lv_at hl 1 rfl) ?_
  refine lv_iload hx hb dL_law_336 (lv_at hl 5 rfl) ?_
  refine lv_iconst (v := (nI 3)) hx hb dL_law_338 (by decide) ?_
  refine lv_iadd hx hb dL_law_339 ?_
  refine gw_top (y := (nI 3)) (by decide) ?_
  refine va_sld hx hb hX hbl hbA hS (vp_in_nI (n := 3) (N := 5) (by decide) (by decide)) dL_law_340 ?_
  refine gw_top (y := xs 3) (by rw [nI_clamp (by decide)]) ?_
  refine lv_aload_n hx hb dL_law_341 rfl (lv_at hl 1 rfl) ?_
  refine lv_iload hx hb dL_law_342 (lv_at hl 5 rfl) ?_
  refine lv_iconst (v := (nI 4)) hx hb dL_law_344 (by decide) ?_
  refine lv_iadd hx hb dL_law_345 ?_
  refine gw_top (y := (nI 4)) (by decide) ?_
  refine va_sld hx hb hX hbl hbA hS (vp_in_nI (n := 4) (N := 5) (by decide) (by decide)) dL_law_346 ?_
  refine gw_top (y := xs 4) (by rw [nI_clamp (by decide)]) ?_
  refine gc_go (pl := [34, 35, 36, 37, 38, 39, 40, 41, 42, 43, 44, 45, 46]) (S2 := SM) (ad := ad) (sg := sg3) (va_runV (As := [.int (xs 1), .int (xs 2), .int (xs 3), .int (xs 4)]) (rest := []) ⟨hx, hb, hml, hown, hts⟩ (m_X3_order l hl9 D cI cJ (fun j => ad (gw_p [34, 35, 36, 37, 38, 39, 40, 41, 42, 43, 44, 45, 46] j)) (fun j => sg3 (gw_p [34, 35, 36, 37, 38, 39, 40, 41, 42, 43, 44, 45, 46] j)) _ (xs 1) (xs 2) (xs 3) (xs 4) hM) (cwV 4 hts (gwV a248 a249 a250 a87 a251) rfl rfl rfl (by decide +kernel) ⟨by decide, by decide⟩) (gc_preV hK hP hD hS hA hE rfl rfl rfl rfl) rfl rfl hl.1 rfl (lv_room (Nat.le_of_ble_eq_true rfl)) dL_law_347 ⟨by decide, by decide⟩) hP hD hS hA rfl (fun v7 sp8 sg9 H locs hp10 ha11 hb12 hP hD hS => ?_)
  obtain ⟨rfl, hc9⟩ := hp10
  have hc9 : sg9 34 0 = (kOrder (xs 1) (xs 2) (xs 3) (xs 4)) := (congrFun (ha11 0 (by decide)) _).trans hc9
  have ho : sg9 33 0 = nI 0 := (congrFun (hb12 33 (by decide)) 0).trans ho
  refine W.eq (g2 := F0 m 350 ls []) rfl ?_
  refine lv_aload_n hx hb dL_law_350 rfl (lv_at hl 3 rfl) ?_
  refine gc_go (pl := [34, 35, 36, 37, 38, 39, 40, 41, 42, 43, 44, 45, 46]) (S2 := SM) (ad := ad) (sg := sg9) (va_runV (As := []) (rest := []) ⟨hx, hb, hml, hown, hts⟩ (m_X3_thrown l hl9 D cI cJ (fun j => ad (gw_p [34, 35, 36, 37, 38, 39, 40, 41, 42, 43, 44, 45, 46] j)) (fun j => sg9 (gw_p [34, 35, 36, 37, 38, 39, 40, 41, 42, 43, 44, 45, 46] j)) _  ) (cwV 0 hts (gwV a227 a228 a229 a87 a230) rfl rfl rfl (by decide +kernel) ⟨by decide, by decide⟩) (gc_preV hK hP hD hS hA hE rfl rfl rfl rfl) rfl rfl hl.1 rfl (lv_room (Nat.le_of_ble_eq_true rfl)) dL_law_351 ⟨by decide, by decide⟩) hP hD hS hA rfl (fun v13 sp14 sg15 H locs hp16 ha17 hb18 hP hD hS => ?_)
  obtain ⟨rfl, hs9⟩ := hp16
  rw [gw_same hs9 ha17 hb18 rfl] at hP hD
  refine W.eq (g2 := F0 m 354 ls [.int (kOrder (xs 1) (xs 2) (xs 3) (xs 4))]) (by show F0 m _ ls (Value.int (sg9 34 0) :: _) = _; rw [hc9]; rfl) ?_
  refine lv_iload hx hb dL_law_354 (lv_at hl 0 rfl) ?_
  refine lv_icmp_eq (tgt := 361) hx hb dL_law_356 (by decide) (fun hc19 => ?_) (fun hc19 => ?_)
  · refine lv_goto (tgt := 860) hx hb dL_law_361 (by decide) ?_
    exact law_860 l hl9 C0 D cI cJ ad hK hE (by decide) (by decide) hS (lv_sub hl [1, 5] rfl)
  · exact absurd rfl hc19
set_option maxRecDepth 100000 in
set_option maxHeartbeats 4000000 in
theorem law_hours {p : Program} {e : Env} {s : State} {m : MethodId} {below : List Frame} {meth : Method} {c : Code} (l : Launch) (hl9 : l.stackTraces = false) {b : Nat} {xs : Nat → Int32} (C0 : lw_At p s m meth c b 5 xs) (D : va_G) (cI : ClassId) (cJ : ClassId × ClassId) (ad : Nat → Nat) (hK : va_K D vwCl (tyS cI cJ) s) (hE : gc_ex gxT gxN (fun q : Nat => s.heap.size ≤ q) s s.heap) {H : Heap} {locs : List Loc} {ls : Array Slot} (hP : va_P D vwCl (gw cI cJ ad frL SL) H) (hD : va_D (fun q : Nat => s.heap.size ≤ q) (gw cI cJ ad frL SL)) (hS : va_S (fun q : Nat => s.heap.size ≤ q) s.heap H locs) (hl : lv_has ls 7 [(0, .ref b), (1, .ref (ad 0)), (2, .ref (ad 34)), (3, .ref (ad 33)), (4, .int (nI 0))]) : W p l e room_1 s m #[Value.ref b] below meth c H locs 47 288 (lw_Z below #[Value.ref b] s) (F0 m 364 ls []) := by
  obtain ⟨hx, hb, hr, hml, hown, hts, hX, hbl, hlocks, hgv⟩ := id C0
  have hown : s.vm.findClass RL = some m.cls := hown
  have hts : ∀ w ∈ wsAll, w.before #[Value.ref b] s = true := fun w h => hts w (List.mem_filter.mp h).1
  have hA : ∀ q : Nat, s.heap.size ≤ q → (fun q : Nat => s.heap.size ≤ q) q := fun _ h => h
  have hbA : ¬ (fun q : Nat => s.heap.size ≤ q) b := Nat.not_le.mpr hbl
  refine lv_aload_n hx hb dL_law_364 rfl (lv_at hl 1 rfl) ?_
  refine lv_aload_n hx hb dL_law_365 rfl (lv_at hl 0 rfl) ?_
  refine lv_iload hx hb dL_law_366 (lv_at hl 4 rfl) ?_
  refine lv_iconst (v := (nI 1)) hx hb dL_law_368 (by decide) ?_
  refine lv_iadd hx hb dL_law_369 ?_
  refine gw_top (y := (nI 1)) (by decide) ?_
  refine va_sld hx hb hX hbl hbA hS (vp_in_nI (n := 1) (N := 5) (by decide) (by decide)) dL_law_370 ?_
  refine gw_top (y := xs 1) (by rw [nI_clamp (by decide)]) ?_
  refine lv_aload_n hx hb dL_law_371 rfl (lv_at hl 0 rfl) ?_
  refine lv_iload hx hb dL_law_372 (lv_at hl 4 rfl) ?_
  refine lv_iconst (v := (nI 2)) hx hb dL_law_374 (by decide) ?_
  refine lv_iadd hx hb dL_law_375 ?_
  refine gw_top (y := (nI 2)) (by decide) ?_
  refine va_sld hx hb hX hbl hbA hS (vp_in_nI (n := 2) (N := 5) (by decide) (by decide)) dL_law_376 ?_
  refine gw_top (y := xs 2) (by rw [nI_clamp (by decide)]) ?_
  refine gc_go (pl := [0, 1, 2, 3, 4, 5, 6, 7, 8, 9, 10, 11, 12, 13, 14, 15, 16, 17, 18, 19, 20, 21, 22, 23, 24, 25, 26, 27, 28, 29, 30, 31, 32, 33]) (S2 := SW) (ad := ad) (sg := frL) (vx_runSW (As := [.ref (ad 0), .int (xs 1), .int (xs 2)]) (rest := []) ⟨hx, hb, hml, hown, hts⟩ (m_L_hours l hl9 D cI cJ (fun j => ad (gw_p [0, 1, 2, 3, 4, 5, 6, 7, 8, 9, 10, 11, 12, 13, 14, 15, 16, 17, 18, 19, 20, 21, 22, 23, 24, 25, 26, 27, 28, 29, 30, 31, 32, 33] j)) (fun j => frL (gw_p [0, 1, 2, 3, 4, 5, 6, 7, 8, 9, 10, 11, 12, 13, 14, 15, 16, 17, 18, 19, 20, 21, 22, 23, 24, 25, 26, 27, 28, 29, 30, 31, 32, 33] j)) _ (xs 1) (xs 2) law_out0) (vx_cwSW 3 hts (gwSW a252 a253 a221 a254) rfl rfl rfl (by decide +kernel) ⟨by decide, by decide⟩) (gc_preS hK hP hD hS hA hE rfl) rfl rfl hl.1 rfl (lv_room (Nat.le_of_ble_eq_true rfl)) dL_law_377 ⟨by decide, by decide⟩) hP hD hS hA rfl (fun v1 sp2 sg3 H locs hp4 ha5 hb6 hP hD hS => ?_)
  obtain ⟨rfl, ho⟩ := hp4
  have ho : sg3 33 0 = nI 0 := (congrFun (ha5 33 (by decide)) 0).trans ho
  have hM : ∀ k j : Nat, k < 13 → (fun i => sg3 (gw_p [34, 35, 36, 37, 38, 39, 40, 41, 42, 43, 44, 45, 46] i)) k j = fm k j := law_mod hb6
  refine W.eq (g2 := F0 m 380 ls [.int (kHours (xs 1) (xs 2))]) rfl ?_
  refine lv_istore (lv' := [(5, .int (kHours (xs 1) (xs 2))), (0, .ref b), (1, .ref (ad 0)), (2, .ref (ad 34)), (3, .ref (ad 33)), (4, .int (nI 0))]) hx hb dL_law_380 hl (by decide) rfl (fun ls hl => ?_)
  refine lv_aload_n hx hb dL_law_382 rfl (lv_at hl 3 rfl) ?_
  refine lv_aload_n hx hb dL_law_383 rfl (lv_at hl 1 rfl) ?_
  refine lv_iload hx hb dL_law_384 (lv_at hl 5 rfl) ?_
  refine lv_iconst (v := (nI 1)) hx hb dL_law_386 (by decide) ?_
  refine lv_iadd hx hb dL_law_387 ?_
  refine gw_top (y := (nI 1)) (by decide) ?_
  refine va_sld hx hb hX hbl hbA hS (vp_in_nI (n := 1) (N := 5) (by decide) (by decide)) dL_law_388 ?_
  refine gw_top (y := xs 1) (by rw [nI_clamp (by decide)]) ?_
  refine lv_aload_n hx hb dL_law_389 rfl (lv_at hl 1 rfl) ?_
  refine lv_iload hx hb dL_law_390 (lv_at hl 5 rfl) ?_
  refine lv_iconst (v := (nI 2)) hx hb dL_law_392 (by decide) ?_
  refine lv_iadd hx hb dL_law_393 ?_
  refine gw_top (y := (nI 2)) (by decide) ?_
  refine va_sld hx hb hX hbl hbA hS (vp_in_nI (n := 2) (N := 5) (by decide) (by decide)) dL_law_394 ?_
  refine gw_top (y := xs 2) (by rw [nI_clamp (by decide)]) ?_
  refine gc_go (pl := [34, 35, 36, 37, 38, 39, 40, 41, 42, 43, 44, 45, 46]) (S2 := SM) (ad := ad) (sg := sg3) (va_runV (As := [.int (xs 1), .int (xs 2)]) (rest := []) ⟨hx, hb, hml, hown, hts⟩ (m_X3_hours l hl9 D cI cJ (fun j => ad (gw_p [34, 35, 36, 37, 38, 39, 40, 41, 42, 43, 44, 45, 46] j)) (fun j => sg3 (gw_p [34, 35, 36, 37, 38, 39, 40, 41, 42, 43, 44, 45, 46] j)) _ (xs 1) (xs 2) hM) (cwV 2 hts (gwV a255 a256 a257 a87 a258) rfl rfl rfl (by decide +kernel) ⟨by decide, by decide⟩) (gc_preV hK hP hD hS hA hE rfl rfl rfl rfl) rfl rfl hl.1 rfl (lv_room (Nat.le_of_ble_eq_true rfl)) dL_law_395 ⟨by decide, by decide⟩) hP hD hS hA rfl (fun v7 sp8 sg9 H locs hp10 ha11 hb12 hP hD hS => ?_)
  obtain ⟨rfl, hc9⟩ := hp10
  have hc9 : sg9 34 0 = (kHours (xs 1) (xs 2)) := (congrFun (ha11 0 (by decide)) _).trans hc9
  have ho : sg9 33 0 = nI 0 := (congrFun (hb12 33 (by decide)) 0).trans ho
  refine W.eq (g2 := F0 m 398 ls []) rfl ?_
  refine lv_aload_n hx hb dL_law_398 rfl (lv_at hl 3 rfl) ?_
  refine gc_go (pl := [34, 35, 36, 37, 38, 39, 40, 41, 42, 43, 44, 45, 46]) (S2 := SM) (ad := ad) (sg := sg9) (va_runV (As := []) (rest := []) ⟨hx, hb, hml, hown, hts⟩ (m_X3_thrown l hl9 D cI cJ (fun j => ad (gw_p [34, 35, 36, 37, 38, 39, 40, 41, 42, 43, 44, 45, 46] j)) (fun j => sg9 (gw_p [34, 35, 36, 37, 38, 39, 40, 41, 42, 43, 44, 45, 46] j)) _  ) (cwV 0 hts (gwV a227 a228 a229 a87 a230) rfl rfl rfl (by decide +kernel) ⟨by decide, by decide⟩) (gc_preV hK hP hD hS hA hE rfl rfl rfl rfl) rfl rfl hl.1 rfl (lv_room (Nat.le_of_ble_eq_true rfl)) dL_law_399 ⟨by decide, by decide⟩) hP hD hS hA rfl (fun v13 sp14 sg15 H locs hp16 ha17 hb18 hP hD hS => ?_)
  obtain ⟨rfl, hs9⟩ := hp16
  rw [gw_same hs9 ha17 hb18 rfl] at hP hD
  refine W.eq (g2 := F0 m 402 ls [.int (kHours (xs 1) (xs 2))]) (by show F0 m _ ls (Value.int (sg9 34 0) :: _) = _; rw [hc9]; rfl) ?_
  refine lv_iload hx hb dL_law_402 (lv_at hl 0 rfl) ?_
  refine lv_icmp_eq (tgt := 409) hx hb dL_law_404 (by decide) (fun hc19 => ?_) (fun hc19 => ?_)
  · refine lv_goto (tgt := 860) hx hb dL_law_409 (by decide) ?_
    exact law_860 l hl9 C0 D cI cJ ad hK hE (by decide) (by decide) hS (lv_sub hl [1, 5] rfl)
  · exact absurd rfl hc19
set_option maxRecDepth 100000 in
set_option maxHeartbeats 4000000 in
theorem law_run {p : Program} {e : Env} {s : State} {m : MethodId} {below : List Frame} {meth : Method} {c : Code} (l : Launch) (hl9 : l.stackTraces = false) {b : Nat} {xs : Nat → Int32} (C0 : lw_At p s m meth c b 5 xs) (D : va_G) (cI : ClassId) (cJ : ClassId × ClassId) (ad : Nat → Nat) (hK : va_K D vwCl (tyS cI cJ) s) (hE : gc_ex gxT gxN (fun q : Nat => s.heap.size ≤ q) s s.heap) {H : Heap} {locs : List Loc} {ls : Array Slot} (hP : va_P D vwCl (gw cI cJ ad frL SL) H) (hD : va_D (fun q : Nat => s.heap.size ≤ q) (gw cI cJ ad frL SL)) (hS : va_S (fun q : Nat => s.heap.size ≤ q) s.heap H locs) (hl : lv_has ls 7 [(0, .ref b), (1, .ref (ad 0)), (2, .ref (ad 34)), (3, .ref (ad 33)), (4, .int (nI 0))]) : W p l e room_1 s m #[Value.ref b] below meth c H locs 47 288 (lw_Z below #[Value.ref b] s) (F0 m 412 ls []) := by
  obtain ⟨hx, hb, hr, hml, hown, hts, hX, hbl, hlocks, hgv⟩ := id C0
  have hown : s.vm.findClass RL = some m.cls := hown
  have hts : ∀ w ∈ wsAll, w.before #[Value.ref b] s = true := fun w h => hts w (List.mem_filter.mp h).1
  have hA : ∀ q : Nat, s.heap.size ≤ q → (fun q : Nat => s.heap.size ≤ q) q := fun _ h => h
  have hbA : ¬ (fun q : Nat => s.heap.size ≤ q) b := Nat.not_le.mpr hbl
  refine lv_aload_n hx hb dL_law_412 rfl (lv_at hl 1 rfl) ?_
  refine lv_aload_n hx hb dL_law_413 rfl (lv_at hl 0 rfl) ?_
  refine lv_iload hx hb dL_law_414 (lv_at hl 4 rfl) ?_
  refine lv_iconst (v := (nI 1)) hx hb dL_law_416 (by decide) ?_
  refine lv_iadd hx hb dL_law_417 ?_
  refine gw_top (y := (nI 1)) (by decide) ?_
  refine va_sld hx hb hX hbl hbA hS (vp_in_nI (n := 1) (N := 5) (by decide) (by decide)) dL_law_418 ?_
  refine gw_top (y := xs 1) (by rw [nI_clamp (by decide)]) ?_
  refine lv_aload_n hx hb dL_law_419 rfl (lv_at hl 3 rfl) ?_
  refine gc_go (pl := [0, 1, 2, 3, 4, 5, 6, 7, 8, 9, 10, 11, 12, 13, 14, 15, 16, 17, 18, 19, 20, 21, 22, 23, 24, 25, 26, 27, 28, 29, 30, 31, 32, 33]) (S2 := SW) (ad := ad) (sg := frL) (vx_runSW (As := [.ref (ad 0), .int (xs 1), .ref (ad 33)]) (rest := []) ⟨hx, hb, hml, hown, hts⟩ (m_L_run l hl9 D cI cJ (fun j => ad (gw_p [0, 1, 2, 3, 4, 5, 6, 7, 8, 9, 10, 11, 12, 13, 14, 15, 16, 17, 18, 19, 20, 21, 22, 23, 24, 25, 26, 27, 28, 29, 30, 31, 32, 33] j)) (fun j => frL (gw_p [0, 1, 2, 3, 4, 5, 6, 7, 8, 9, 10, 11, 12, 13, 14, 15, 16, 17, 18, 19, 20, 21, 22, 23, 24, 25, 26, 27, 28, 29, 30, 31, 32, 33] j)) _ (xs 1) law_out0 law_fr) (vx_cwSW 3 hts (gwSW a259 a260 a221 a261) rfl rfl rfl (by decide +kernel) ⟨by decide, by decide⟩) (gc_preS hK hP hD hS hA hE rfl) rfl rfl hl.1 rfl (lv_room (Nat.le_of_ble_eq_true rfl)) dL_law_420 ⟨by decide, by decide⟩) hP hD hS hA rfl (fun v1 sp2 sg3 H locs hp4 ha5 hb6 hP hD hS => ?_)
  obtain ⟨rfl, ho⟩ := hp4
  have ho : sg3 33 0 = nI 0 := (congrFun (ha5 33 (by decide)) 0).trans ho
  have hM : ∀ k j : Nat, k < 13 → (fun i => sg3 (gw_p [34, 35, 36, 37, 38, 39, 40, 41, 42, 43, 44, 45, 46] i)) k j = fm k j := law_mod hb6
  refine W.eq (g2 := F0 m 423 ls [.int (kRun (xs 1))]) rfl ?_
  refine lv_istore (lv' := [(5, .int (kRun (xs 1))), (0, .ref b), (1, .ref (ad 0)), (2, .ref (ad 34)), (3, .ref (ad 33)), (4, .int (nI 0))]) hx hb dL_law_423 hl (by decide) rfl (fun ls hl => ?_)
  refine lv_aload_n hx hb dL_law_425 rfl (lv_at hl 3 rfl) ?_
  refine lv_aload_n hx hb dL_law_426 rfl (lv_at hl 1 rfl) ?_
  refine lv_iload hx hb dL_law_427 (lv_at hl 5 rfl) ?_
  refine lv_iconst (v := (nI 1)) hx hb dL_law_429 (by decide) ?_
  refine lv_iadd hx hb dL_law_430 ?_
  refine gw_top (y := (nI 1)) (by decide) ?_
  refine va_sld hx hb hX hbl hbA hS (vp_in_nI (n := 1) (N := 5) (by decide) (by decide)) dL_law_431 ?_
  refine gw_top (y := xs 1) (by rw [nI_clamp (by decide)]) ?_
  refine gc_go (pl := [34, 35, 36, 37, 38, 39, 40, 41, 42, 43, 44, 45, 46]) (S2 := SM) (ad := ad) (sg := sg3) (va_runV (As := [.int (xs 1)]) (rest := []) ⟨hx, hb, hml, hown, hts⟩ (m_X3_run l hl9 D cI cJ (fun j => ad (gw_p [34, 35, 36, 37, 38, 39, 40, 41, 42, 43, 44, 45, 46] j)) (fun j => sg3 (gw_p [34, 35, 36, 37, 38, 39, 40, 41, 42, 43, 44, 45, 46] j)) _ (xs 1) hM) (cwV 1 hts (gwV a262 a263 a264 a87 a265) rfl rfl rfl (by decide +kernel) ⟨by decide, by decide⟩) (gc_preV hK hP hD hS hA hE rfl rfl rfl rfl) rfl rfl hl.1 rfl (lv_room (Nat.le_of_ble_eq_true rfl)) dL_law_432 ⟨by decide, by decide⟩) hP hD hS hA rfl (fun v7 sp8 sg9 H locs hp10 ha11 hb12 hP hD hS => ?_)
  obtain ⟨rfl, hc9⟩ := hp10
  have hc9 : sg9 34 0 = (kRun (xs 1)) := (congrFun (ha11 0 (by decide)) _).trans hc9
  have ho : sg9 33 0 = nI 0 := (congrFun (hb12 33 (by decide)) 0).trans ho
  refine W.eq (g2 := F0 m 435 ls [.int (nI 0)]) rfl ?_
  refine lv_istore (lv' := [(6, .int (nI 0)), (5, .int (kRun (xs 1))), (0, .ref b), (1, .ref (ad 0)), (2, .ref (ad 34)), (3, .ref (ad 33)), (4, .int (nI 0))]) hx hb dL_law_435 hl (by decide) rfl (fun ls hl => ?_)
  refine lv_aload_n hx hb dL_law_437 rfl (lv_at hl 4 rfl) ?_
  refine gc_go (pl := [34, 35, 36, 37, 38, 39, 40, 41, 42, 43, 44, 45, 46]) (S2 := SM) (ad := ad) (sg := sg9) (va_runV (As := []) (rest := []) ⟨hx, hb, hml, hown, hts⟩ (m_X3_thrown l hl9 D cI cJ (fun j => ad (gw_p [34, 35, 36, 37, 38, 39, 40, 41, 42, 43, 44, 45, 46] j)) (fun j => sg9 (gw_p [34, 35, 36, 37, 38, 39, 40, 41, 42, 43, 44, 45, 46] j)) _  ) (cwV 0 hts (gwV a227 a228 a229 a87 a230) rfl rfl rfl (by decide +kernel) ⟨by decide, by decide⟩) (gc_preV hK hP hD hS hA hE rfl rfl rfl rfl) rfl rfl hl.1 rfl (lv_room (Nat.le_of_ble_eq_true rfl)) dL_law_438 ⟨by decide, by decide⟩) hP hD hS hA rfl (fun v13 sp14 sg15 H locs hp16 ha17 hb18 hP hD hS => ?_)
  obtain ⟨rfl, hs9⟩ := hp16
  rw [gw_same hs9 ha17 hb18 rfl] at hP hD
  refine W.eq (g2 := F0 m 441 ls [.int (kRun (xs 1))]) (by show F0 m _ ls (Value.int (sg9 34 0) :: _) = _; rw [hc9]; rfl) ?_
  refine lv_iload hx hb dL_law_441 (lv_at hl 1 rfl) ?_
  refine lv_icmp_eq (tgt := 448) hx hb dL_law_443 (by decide) (fun hc19 => ?_) (fun hc19 => ?_)
  · refine lv_iload hx hb dL_law_448 (lv_at hl 1 rfl) ?_
    refine lv_if_ne (tgt := 465) hx hb dL_law_450 (by decide) (fun hc20 => ?_) (fun hc20 => ?_)
    · refine lv_goto (tgt := 860) hx hb dL_law_465 (by decide) ?_
      exact law_860 l hl9 C0 D cI cJ ad hK hE (by decide) (by decide) hS (lv_sub hl [2, 6] rfl)
    · refine lv_aload_n hx hb dL_law_453 rfl (lv_at hl 5 rfl) ?_
      refine lv_iconst (v := (nI 0)) hx hb dL_law_454 (by decide) ?_
      refine gw_lald hx hb hK hP 33 2 (n := 1) rfl rfl (i := 0) (by decide) (by decide) dL_law_455 ?_
      rw [ho]
      refine lv_iload hx hb dL_law_456 (lv_at hl 0 rfl) ?_
      refine lv_i2l hx hb dL_law_458 rfl ?_
      refine W.lcmp hx hb dL_law_459 ?_
      refine gw_top (y := nI 0) (by decide) ?_
      refine lv_if_eq (tgt := 465) hx hb dL_law_460 (by decide) (fun hc21 => ?_) (fun hc21 => ?_)
      · refine lv_goto (tgt := 860) hx hb dL_law_465 (by decide) ?_
        exact law_860 l hl9 C0 D cI cJ ad hK hE (by decide) (by decide) hS (lv_sub hl [2, 6] rfl)
      · exact absurd hc21 (by decide)
  · exact absurd rfl hc19
set_option maxRecDepth 100000 in
set_option maxHeartbeats 4000000 in
theorem law_search {p : Program} {e : Env} {s : State} {m : MethodId} {below : List Frame} {meth : Method} {c : Code} (l : Launch) (hl9 : l.stackTraces = false) {b : Nat} {xs : Nat → Int32} (C0 : lw_At p s m meth c b 5 xs) (D : va_G) (cI : ClassId) (cJ : ClassId × ClassId) (ad : Nat → Nat) (hK : va_K D vwCl (tyS cI cJ) s) (hE : gc_ex gxT gxN (fun q : Nat => s.heap.size ≤ q) s s.heap) {H : Heap} {locs : List Loc} {ls : Array Slot} (hP : va_P D vwCl (gw cI cJ ad frL SL) H) (hD : va_D (fun q : Nat => s.heap.size ≤ q) (gw cI cJ ad frL SL)) (hS : va_S (fun q : Nat => s.heap.size ≤ q) s.heap H locs) (hl : lv_has ls 7 [(0, .ref b), (1, .ref (ad 0)), (2, .ref (ad 34)), (3, .ref (ad 33)), (4, .int (nI 0))]) : W p l e room_1 s m #[Value.ref b] below meth c H locs 47 288 (lw_Z below #[Value.ref b] s) (F0 m 468 ls []) := by
  obtain ⟨hx, hb, hr, hml, hown, hts, hX, hbl, hlocks, hgv⟩ := id C0
  have hown : s.vm.findClass RL = some m.cls := hown
  have hts : ∀ w ∈ wsAll, w.before #[Value.ref b] s = true := fun w h => hts w (List.mem_filter.mp h).1
  have hA : ∀ q : Nat, s.heap.size ≤ q → (fun q : Nat => s.heap.size ≤ q) q := fun _ h => h
  have hbA : ¬ (fun q : Nat => s.heap.size ≤ q) b := Nat.not_le.mpr hbl
  refine lv_aload_n hx hb dL_law_468 rfl (lv_at hl 1 rfl) ?_
  refine lv_aload_n hx hb dL_law_469 rfl (lv_at hl 0 rfl) ?_
  refine lv_iload hx hb dL_law_470 (lv_at hl 4 rfl) ?_
  refine lv_iconst (v := (nI 1)) hx hb dL_law_472 (by decide) ?_
  refine lv_iadd hx hb dL_law_473 ?_
  refine gw_top (y := (nI 1)) (by decide) ?_
  refine va_sld hx hb hX hbl hbA hS (vp_in_nI (n := 1) (N := 5) (by decide) (by decide)) dL_law_474 ?_
  refine gw_top (y := xs 1) (by rw [nI_clamp (by decide)]) ?_
  refine lv_aload_n hx hb dL_law_475 rfl (lv_at hl 3 rfl) ?_
  refine gc_go (pl := [0, 1, 2, 3, 4, 5, 6, 7, 8, 9, 10, 11, 12, 13, 14, 15, 16, 17, 18, 19, 20, 21, 22, 23, 24, 25, 26, 27, 28, 29, 30, 31, 32, 33]) (S2 := SW) (ad := ad) (sg := frL) (vx_runSW (As := [.ref (ad 0), .int (xs 1), .ref (ad 33)]) (rest := []) ⟨hx, hb, hml, hown, hts⟩ (m_L_search l hl9 D cI cJ (fun j => ad (gw_p [0, 1, 2, 3, 4, 5, 6, 7, 8, 9, 10, 11, 12, 13, 14, 15, 16, 17, 18, 19, 20, 21, 22, 23, 24, 25, 26, 27, 28, 29, 30, 31, 32, 33] j)) (fun j => frL (gw_p [0, 1, 2, 3, 4, 5, 6, 7, 8, 9, 10, 11, 12, 13, 14, 15, 16, 17, 18, 19, 20, 21, 22, 23, 24, 25, 26, 27, 28, 29, 30, 31, 32, 33] j)) _ (xs 1) law_out0 law_fr) (vx_cwSW 3 hts (gwSW a266 a267 a221 a268) rfl rfl rfl (by decide +kernel) ⟨by decide, by decide⟩) (gc_preS hK hP hD hS hA hE rfl) rfl rfl hl.1 rfl (lv_room (Nat.le_of_ble_eq_true rfl)) dL_law_476 ⟨by decide, by decide⟩) hP hD hS hA rfl (fun v1 sp2 sg3 H locs hp4 ha5 hb6 hP hD hS => ?_)
  obtain ⟨rfl, ho⟩ := hp4
  have ho : sg3 33 0 = nI 0 := (congrFun (ha5 33 (by decide)) 0).trans ho
  have hM : ∀ k j : Nat, k < 13 → (fun i => sg3 (gw_p [34, 35, 36, 37, 38, 39, 40, 41, 42, 43, 44, 45, 46] i)) k j = fm k j := law_mod hb6
  refine W.eq (g2 := F0 m 479 ls [.int (kSearch (xs 1))]) rfl ?_
  refine lv_istore (lv' := [(5, .int (kSearch (xs 1))), (0, .ref b), (1, .ref (ad 0)), (2, .ref (ad 34)), (3, .ref (ad 33)), (4, .int (nI 0))]) hx hb dL_law_479 hl (by decide) rfl (fun ls hl => ?_)
  refine lv_aload_n hx hb dL_law_481 rfl (lv_at hl 3 rfl) ?_
  refine lv_aload_n hx hb dL_law_482 rfl (lv_at hl 1 rfl) ?_
  refine lv_iload hx hb dL_law_483 (lv_at hl 5 rfl) ?_
  refine lv_iconst (v := (nI 1)) hx hb dL_law_485 (by decide) ?_
  refine lv_iadd hx hb dL_law_486 ?_
  refine gw_top (y := (nI 1)) (by decide) ?_
  refine va_sld hx hb hX hbl hbA hS (vp_in_nI (n := 1) (N := 5) (by decide) (by decide)) dL_law_487 ?_
  refine gw_top (y := xs 1) (by rw [nI_clamp (by decide)]) ?_
  refine gc_go (pl := [34, 35, 36, 37, 38, 39, 40, 41, 42, 43, 44, 45, 46]) (S2 := SM) (ad := ad) (sg := sg3) (va_runV (As := [.int (xs 1)]) (rest := []) ⟨hx, hb, hml, hown, hts⟩ (m_X3_search l hl9 D cI cJ (fun j => ad (gw_p [34, 35, 36, 37, 38, 39, 40, 41, 42, 43, 44, 45, 46] j)) (fun j => sg3 (gw_p [34, 35, 36, 37, 38, 39, 40, 41, 42, 43, 44, 45, 46] j)) _ (xs 1) hM) (cwV 1 hts (gwV a269 a270 a271 a87 a272) rfl rfl rfl (by decide +kernel) ⟨by decide, by decide⟩) (gc_preV hK hP hD hS hA hE rfl rfl rfl rfl) rfl rfl hl.1 rfl (lv_room (Nat.le_of_ble_eq_true rfl)) dL_law_488 ⟨by decide, by decide⟩) hP hD hS hA rfl (fun v7 sp8 sg9 H locs hp10 ha11 hb12 hP hD hS => ?_)
  obtain ⟨rfl, hc9⟩ := hp10
  have hc9 : sg9 34 0 = (kSearch (xs 1)) := (congrFun (ha11 0 (by decide)) _).trans hc9
  have ho : sg9 33 0 = nI 0 := (congrFun (hb12 33 (by decide)) 0).trans ho
  refine W.eq (g2 := F0 m 491 ls [.int (nI 0)]) rfl ?_
  refine lv_istore (lv' := [(6, .int (nI 0)), (5, .int (kSearch (xs 1))), (0, .ref b), (1, .ref (ad 0)), (2, .ref (ad 34)), (3, .ref (ad 33)), (4, .int (nI 0))]) hx hb dL_law_491 hl (by decide) rfl (fun ls hl => ?_)
  refine lv_aload_n hx hb dL_law_493 rfl (lv_at hl 4 rfl) ?_
  refine gc_go (pl := [34, 35, 36, 37, 38, 39, 40, 41, 42, 43, 44, 45, 46]) (S2 := SM) (ad := ad) (sg := sg9) (va_runV (As := []) (rest := []) ⟨hx, hb, hml, hown, hts⟩ (m_X3_thrown l hl9 D cI cJ (fun j => ad (gw_p [34, 35, 36, 37, 38, 39, 40, 41, 42, 43, 44, 45, 46] j)) (fun j => sg9 (gw_p [34, 35, 36, 37, 38, 39, 40, 41, 42, 43, 44, 45, 46] j)) _  ) (cwV 0 hts (gwV a227 a228 a229 a87 a230) rfl rfl rfl (by decide +kernel) ⟨by decide, by decide⟩) (gc_preV hK hP hD hS hA hE rfl rfl rfl rfl) rfl rfl hl.1 rfl (lv_room (Nat.le_of_ble_eq_true rfl)) dL_law_494 ⟨by decide, by decide⟩) hP hD hS hA rfl (fun v13 sp14 sg15 H locs hp16 ha17 hb18 hP hD hS => ?_)
  obtain ⟨rfl, hs9⟩ := hp16
  rw [gw_same hs9 ha17 hb18 rfl] at hP hD
  refine W.eq (g2 := F0 m 497 ls [.int (kSearch (xs 1))]) (by show F0 m _ ls (Value.int (sg9 34 0) :: _) = _; rw [hc9]; rfl) ?_
  refine lv_iload hx hb dL_law_497 (lv_at hl 1 rfl) ?_
  refine lv_icmp_eq (tgt := 504) hx hb dL_law_499 (by decide) (fun hc19 => ?_) (fun hc19 => ?_)
  · refine lv_iload hx hb dL_law_504 (lv_at hl 1 rfl) ?_
    refine lv_if_ne (tgt := 521) hx hb dL_law_506 (by decide) (fun hc20 => ?_) (fun hc20 => ?_)
    · refine lv_goto (tgt := 860) hx hb dL_law_521 (by decide) ?_
      exact law_860 l hl9 C0 D cI cJ ad hK hE (by decide) (by decide) hS (lv_sub hl [2, 6] rfl)
    · refine lv_aload_n hx hb dL_law_509 rfl (lv_at hl 5 rfl) ?_
      refine lv_iconst (v := (nI 0)) hx hb dL_law_510 (by decide) ?_
      refine gw_lald hx hb hK hP 33 2 (n := 1) rfl rfl (i := 0) (by decide) (by decide) dL_law_511 ?_
      rw [ho]
      refine lv_iload hx hb dL_law_512 (lv_at hl 0 rfl) ?_
      refine lv_i2l hx hb dL_law_514 rfl ?_
      refine W.lcmp hx hb dL_law_515 ?_
      refine gw_top (y := nI 0) (by decide) ?_
      refine lv_if_eq (tgt := 521) hx hb dL_law_516 (by decide) (fun hc21 => ?_) (fun hc21 => ?_)
      · refine lv_goto (tgt := 860) hx hb dL_law_521 (by decide) ?_
        exact law_860 l hl9 C0 D cI cJ ad hK hE (by decide) (by decide) hS (lv_sub hl [2, 6] rfl)
      · exact absurd hc21 (by decide)
  · exact absurd rfl hc19
set_option maxRecDepth 100000 in
set_option maxHeartbeats 4000000 in
theorem law_used {p : Program} {e : Env} {s : State} {m : MethodId} {below : List Frame} {meth : Method} {c : Code} (l : Launch) (hl9 : l.stackTraces = false) {b : Nat} {xs : Nat → Int32} (C0 : lw_At p s m meth c b 5 xs) (D : va_G) (cI : ClassId) (cJ : ClassId × ClassId) (ad : Nat → Nat) (hK : va_K D vwCl (tyS cI cJ) s) (hE : gc_ex gxT gxN (fun q : Nat => s.heap.size ≤ q) s s.heap) {H : Heap} {locs : List Loc} {ls : Array Slot} (hP : va_P D vwCl (gw cI cJ ad frL SL) H) (hD : va_D (fun q : Nat => s.heap.size ≤ q) (gw cI cJ ad frL SL)) (hS : va_S (fun q : Nat => s.heap.size ≤ q) s.heap H locs) (hl : lv_has ls 7 [(0, .ref b), (1, .ref (ad 0)), (2, .ref (ad 34)), (3, .ref (ad 33)), (4, .int (nI 0))]) : W p l e room_1 s m #[Value.ref b] below meth c H locs 47 288 (lw_Z below #[Value.ref b] s) (F0 m 524 ls []) := by
  obtain ⟨hx, hb, hr, hml, hown, hts, hX, hbl, hlocks, hgv⟩ := id C0
  have hown : s.vm.findClass RL = some m.cls := hown
  have hts : ∀ w ∈ wsAll, w.before #[Value.ref b] s = true := fun w h => hts w (List.mem_filter.mp h).1
  have hA : ∀ q : Nat, s.heap.size ≤ q → (fun q : Nat => s.heap.size ≤ q) q := fun _ h => h
  have hbA : ¬ (fun q : Nat => s.heap.size ≤ q) b := Nat.not_le.mpr hbl
  refine lv_aload_n hx hb dL_law_524 rfl (lv_at hl 1 rfl) ?_
  refine lv_aload_n hx hb dL_law_525 rfl (lv_at hl 0 rfl) ?_
  refine lv_iload hx hb dL_law_526 (lv_at hl 4 rfl) ?_
  refine lv_iconst (v := (nI 1)) hx hb dL_law_528 (by decide) ?_
  refine lv_iadd hx hb dL_law_529 ?_
  refine gw_top (y := (nI 1)) (by decide) ?_
  refine va_sld hx hb hX hbl hbA hS (vp_in_nI (n := 1) (N := 5) (by decide) (by decide)) dL_law_530 ?_
  refine gw_top (y := xs 1) (by rw [nI_clamp (by decide)]) ?_
  refine lv_aload_n hx hb dL_law_531 rfl (lv_at hl 3 rfl) ?_
  refine gc_go (pl := [0, 1, 2, 3, 4, 5, 6, 7, 8, 9, 10, 11, 12, 13, 14, 15, 16, 17, 18, 19, 20, 21, 22, 23, 24, 25, 26, 27, 28, 29, 30, 31, 32, 33]) (S2 := SW) (ad := ad) (sg := frL) (vx_runSW (As := [.ref (ad 0), .int (xs 1), .ref (ad 33)]) (rest := []) ⟨hx, hb, hml, hown, hts⟩ (m_L_used l hl9 D cI cJ (fun j => ad (gw_p [0, 1, 2, 3, 4, 5, 6, 7, 8, 9, 10, 11, 12, 13, 14, 15, 16, 17, 18, 19, 20, 21, 22, 23, 24, 25, 26, 27, 28, 29, 30, 31, 32, 33] j)) (fun j => frL (gw_p [0, 1, 2, 3, 4, 5, 6, 7, 8, 9, 10, 11, 12, 13, 14, 15, 16, 17, 18, 19, 20, 21, 22, 23, 24, 25, 26, 27, 28, 29, 30, 31, 32, 33] j)) _ (xs 1) law_out0 law_fr) (vx_cwSW 3 hts (gwSW a273 a274 a221 a275) rfl rfl rfl (by decide +kernel) ⟨by decide, by decide⟩) (gc_preS hK hP hD hS hA hE rfl) rfl rfl hl.1 rfl (lv_room (Nat.le_of_ble_eq_true rfl)) dL_law_532 ⟨by decide, by decide⟩) hP hD hS hA rfl (fun v1 sp2 sg3 H locs hp4 ha5 hb6 hP hD hS => ?_)
  obtain ⟨rfl, ho⟩ := hp4
  have ho : sg3 33 0 = nI 0 := (congrFun (ha5 33 (by decide)) 0).trans ho
  have hM : ∀ k j : Nat, k < 13 → (fun i => sg3 (gw_p [34, 35, 36, 37, 38, 39, 40, 41, 42, 43, 44, 45, 46] i)) k j = fm k j := law_mod hb6
  refine W.eq (g2 := F0 m 535 ls [.int (nI 1)]) rfl ?_
  refine lv_istore (lv' := [(5, .int (nI 1)), (0, .ref b), (1, .ref (ad 0)), (2, .ref (ad 34)), (3, .ref (ad 33)), (4, .int (nI 0))]) hx hb dL_law_535 hl (by decide) rfl (fun ls hl => ?_)
  refine lv_aload_n hx hb dL_law_537 rfl (lv_at hl 3 rfl) ?_
  refine lv_aload_n hx hb dL_law_538 rfl (lv_at hl 1 rfl) ?_
  refine lv_iload hx hb dL_law_539 (lv_at hl 5 rfl) ?_
  refine lv_iconst (v := (nI 1)) hx hb dL_law_541 (by decide) ?_
  refine lv_iadd hx hb dL_law_542 ?_
  refine gw_top (y := (nI 1)) (by decide) ?_
  refine va_sld hx hb hX hbl hbA hS (vp_in_nI (n := 1) (N := 5) (by decide) (by decide)) dL_law_543 ?_
  refine gw_top (y := xs 1) (by rw [nI_clamp (by decide)]) ?_
  refine gc_go (pl := [34, 35, 36, 37, 38, 39, 40, 41, 42, 43, 44, 45, 46]) (S2 := SM) (ad := ad) (sg := sg3) (va_runV (As := [.int (xs 1)]) (rest := []) ⟨hx, hb, hml, hown, hts⟩ (m_X3_used l hl9 D cI cJ (fun j => ad (gw_p [34, 35, 36, 37, 38, 39, 40, 41, 42, 43, 44, 45, 46] j)) (fun j => sg3 (gw_p [34, 35, 36, 37, 38, 39, 40, 41, 42, 43, 44, 45, 46] j)) _ (xs 1) hM) (cwV 1 hts (gwV a276 a277 a278 a87 a279) rfl rfl rfl (by decide +kernel) ⟨by decide, by decide⟩) (gc_preV hK hP hD hS hA hE rfl rfl rfl rfl) rfl rfl hl.1 rfl (lv_room (Nat.le_of_ble_eq_true rfl)) dL_law_544 ⟨by decide, by decide⟩) hP hD hS hA rfl (fun v7 sp8 sg9 H locs hp10 ha11 hb12 hP hD hS => ?_)
  obtain ⟨rfl, hc9⟩ := hp10
  have hc9 : sg9 34 0 = (nI 1) := (congrFun (ha11 0 (by decide)) _).trans hc9
  have ho : sg9 33 0 = nI 0 := (congrFun (hb12 33 (by decide)) 0).trans ho
  refine W.eq (g2 := F0 m 547 ls [.int (nI 0)]) rfl ?_
  refine lv_istore (lv' := [(6, .int (nI 0)), (5, .int (nI 1)), (0, .ref b), (1, .ref (ad 0)), (2, .ref (ad 34)), (3, .ref (ad 33)), (4, .int (nI 0))]) hx hb dL_law_547 hl (by decide) rfl (fun ls hl => ?_)
  refine lv_aload_n hx hb dL_law_549 rfl (lv_at hl 4 rfl) ?_
  refine gc_go (pl := [34, 35, 36, 37, 38, 39, 40, 41, 42, 43, 44, 45, 46]) (S2 := SM) (ad := ad) (sg := sg9) (va_runV (As := []) (rest := []) ⟨hx, hb, hml, hown, hts⟩ (m_X3_thrown l hl9 D cI cJ (fun j => ad (gw_p [34, 35, 36, 37, 38, 39, 40, 41, 42, 43, 44, 45, 46] j)) (fun j => sg9 (gw_p [34, 35, 36, 37, 38, 39, 40, 41, 42, 43, 44, 45, 46] j)) _  ) (cwV 0 hts (gwV a227 a228 a229 a87 a230) rfl rfl rfl (by decide +kernel) ⟨by decide, by decide⟩) (gc_preV hK hP hD hS hA hE rfl rfl rfl rfl) rfl rfl hl.1 rfl (lv_room (Nat.le_of_ble_eq_true rfl)) dL_law_550 ⟨by decide, by decide⟩) hP hD hS hA rfl (fun v13 sp14 sg15 H locs hp16 ha17 hb18 hP hD hS => ?_)
  obtain ⟨rfl, hs9⟩ := hp16
  rw [gw_same hs9 ha17 hb18 rfl] at hP hD
  refine W.eq (g2 := F0 m 553 ls [.int (nI 1)]) (by show F0 m _ ls (Value.int (sg9 34 0) :: _) = _; rw [hc9]; rfl) ?_
  refine lv_iload hx hb dL_law_553 (lv_at hl 1 rfl) ?_
  refine lv_icmp_eq (tgt := 560) hx hb dL_law_555 (by decide) (fun hc19 => ?_) (fun hc19 => ?_)
  · refine lv_iload hx hb dL_law_560 (lv_at hl 1 rfl) ?_
    refine lv_if_ne (tgt := 577) hx hb dL_law_562 (by decide) (fun hc20 => ?_) (fun hc20 => ?_)
    · refine lv_goto (tgt := 860) hx hb dL_law_577 (by decide) ?_
      exact law_860 l hl9 C0 D cI cJ ad hK hE (by decide) (by decide) hS (lv_sub hl [2, 6] rfl)
    · refine lv_aload_n hx hb dL_law_565 rfl (lv_at hl 5 rfl) ?_
      refine lv_iconst (v := (nI 0)) hx hb dL_law_566 (by decide) ?_
      refine gw_lald hx hb hK hP 33 2 (n := 1) rfl rfl (i := 0) (by decide) (by decide) dL_law_567 ?_
      rw [ho]
      refine lv_iload hx hb dL_law_568 (lv_at hl 0 rfl) ?_
      refine lv_i2l hx hb dL_law_570 rfl ?_
      refine W.lcmp hx hb dL_law_571 ?_
      refine gw_top (y := nI 0) (by decide) ?_
      refine lv_if_eq (tgt := 577) hx hb dL_law_572 (by decide) (fun hc21 => ?_) (fun hc21 => ?_)
      · refine lv_goto (tgt := 860) hx hb dL_law_577 (by decide) ?_
        exact law_860 l hl9 C0 D cI cJ ad hK hE (by decide) (by decide) hS (lv_sub hl [2, 6] rfl)
      · exact absurd hc21 (by decide)
  · exact absurd rfl hc19
set_option maxRecDepth 100000 in
set_option maxHeartbeats 4000000 in
theorem law_best {p : Program} {e : Env} {s : State} {m : MethodId} {below : List Frame} {meth : Method} {c : Code} (l : Launch) (hl9 : l.stackTraces = false) {b : Nat} {xs : Nat → Int32} (C0 : lw_At p s m meth c b 5 xs) (D : va_G) (cI : ClassId) (cJ : ClassId × ClassId) (ad : Nat → Nat) (hK : va_K D vwCl (tyS cI cJ) s) (hE : gc_ex gxT gxN (fun q : Nat => s.heap.size ≤ q) s s.heap) {H : Heap} {locs : List Loc} {ls : Array Slot} (hP : va_P D vwCl (gw cI cJ ad frL SL) H) (hD : va_D (fun q : Nat => s.heap.size ≤ q) (gw cI cJ ad frL SL)) (hS : va_S (fun q : Nat => s.heap.size ≤ q) s.heap H locs) (hl : lv_has ls 7 [(0, .ref b), (1, .ref (ad 0)), (2, .ref (ad 34)), (3, .ref (ad 33)), (4, .int (nI 0))]) : W p l e room_1 s m #[Value.ref b] below meth c H locs 47 288 (lw_Z below #[Value.ref b] s) (F0 m 580 ls []) := by
  obtain ⟨hx, hb, hr, hml, hown, hts, hX, hbl, hlocks, hgv⟩ := id C0
  have hown : s.vm.findClass RL = some m.cls := hown
  have hts : ∀ w ∈ wsAll, w.before #[Value.ref b] s = true := fun w h => hts w (List.mem_filter.mp h).1
  have hA : ∀ q : Nat, s.heap.size ≤ q → (fun q : Nat => s.heap.size ≤ q) q := fun _ h => h
  have hbA : ¬ (fun q : Nat => s.heap.size ≤ q) b := Nat.not_le.mpr hbl
  refine lv_aload_n hx hb dL_law_580 rfl (lv_at hl 1 rfl) ?_
  refine lv_aload_n hx hb dL_law_581 rfl (lv_at hl 0 rfl) ?_
  refine lv_iload hx hb dL_law_582 (lv_at hl 4 rfl) ?_
  refine lv_iconst (v := (nI 1)) hx hb dL_law_584 (by decide) ?_
  refine lv_iadd hx hb dL_law_585 ?_
  refine gw_top (y := (nI 1)) (by decide) ?_
  refine va_sld hx hb hX hbl hbA hS (vp_in_nI (n := 1) (N := 5) (by decide) (by decide)) dL_law_586 ?_
  refine gw_top (y := xs 1) (by rw [nI_clamp (by decide)]) ?_
  refine lv_aload_n hx hb dL_law_587 rfl (lv_at hl 3 rfl) ?_
  refine gc_go (pl := [0, 1, 2, 3, 4, 5, 6, 7, 8, 9, 10, 11, 12, 13, 14, 15, 16, 17, 18, 19, 20, 21, 22, 23, 24, 25, 26, 27, 28, 29, 30, 31, 32, 33]) (S2 := SW) (ad := ad) (sg := frL) (vx_runSW (As := [.ref (ad 0), .int (xs 1), .ref (ad 33)]) (rest := []) ⟨hx, hb, hml, hown, hts⟩ (m_L_best l hl9 D cI cJ (fun j => ad (gw_p [0, 1, 2, 3, 4, 5, 6, 7, 8, 9, 10, 11, 12, 13, 14, 15, 16, 17, 18, 19, 20, 21, 22, 23, 24, 25, 26, 27, 28, 29, 30, 31, 32, 33] j)) (fun j => frL (gw_p [0, 1, 2, 3, 4, 5, 6, 7, 8, 9, 10, 11, 12, 13, 14, 15, 16, 17, 18, 19, 20, 21, 22, 23, 24, 25, 26, 27, 28, 29, 30, 31, 32, 33] j)) _ (xs 1) law_out0 law_fr) (vx_cwSW 3 hts (gwSW a280 a281 a221 a282) rfl rfl rfl (by decide +kernel) ⟨by decide, by decide⟩) (gc_preS hK hP hD hS hA hE rfl) rfl rfl hl.1 rfl (lv_room (Nat.le_of_ble_eq_true rfl)) dL_law_588 ⟨by decide, by decide⟩) hP hD hS hA rfl (fun v1 sp2 sg3 H locs hp4 ha5 hb6 hP hD hS => ?_)
  obtain ⟨rfl, ho⟩ := hp4
  have ho : sg3 33 0 = nI 0 := (congrFun (ha5 33 (by decide)) 0).trans ho
  have hM : ∀ k j : Nat, k < 13 → (fun i => sg3 (gw_p [34, 35, 36, 37, 38, 39, 40, 41, 42, 43, 44, 45, 46] i)) k j = fm k j := law_mod hb6
  refine W.eq (g2 := F0 m 591 ls [.int (kBest (xs 1))]) rfl ?_
  refine lv_istore (lv' := [(5, .int (kBest (xs 1))), (0, .ref b), (1, .ref (ad 0)), (2, .ref (ad 34)), (3, .ref (ad 33)), (4, .int (nI 0))]) hx hb dL_law_591 hl (by decide) rfl (fun ls hl => ?_)
  refine lv_aload_n hx hb dL_law_593 rfl (lv_at hl 3 rfl) ?_
  refine lv_aload_n hx hb dL_law_594 rfl (lv_at hl 1 rfl) ?_
  refine lv_iload hx hb dL_law_595 (lv_at hl 5 rfl) ?_
  refine lv_iconst (v := (nI 1)) hx hb dL_law_597 (by decide) ?_
  refine lv_iadd hx hb dL_law_598 ?_
  refine gw_top (y := (nI 1)) (by decide) ?_
  refine va_sld hx hb hX hbl hbA hS (vp_in_nI (n := 1) (N := 5) (by decide) (by decide)) dL_law_599 ?_
  refine gw_top (y := xs 1) (by rw [nI_clamp (by decide)]) ?_
  refine gc_go (pl := [34, 35, 36, 37, 38, 39, 40, 41, 42, 43, 44, 45, 46]) (S2 := SM) (ad := ad) (sg := sg3) (va_runV (As := [.int (xs 1)]) (rest := []) ⟨hx, hb, hml, hown, hts⟩ (m_X3_best l hl9 D cI cJ (fun j => ad (gw_p [34, 35, 36, 37, 38, 39, 40, 41, 42, 43, 44, 45, 46] j)) (fun j => sg3 (gw_p [34, 35, 36, 37, 38, 39, 40, 41, 42, 43, 44, 45, 46] j)) _ (xs 1) hM) (cwV 1 hts (gwV a283 a284 a285 a87 a286) rfl rfl rfl (by decide +kernel) ⟨by decide, by decide⟩) (gc_preV hK hP hD hS hA hE rfl rfl rfl rfl) rfl rfl hl.1 rfl (lv_room (Nat.le_of_ble_eq_true rfl)) dL_law_600 ⟨by decide, by decide⟩) hP hD hS hA rfl (fun v7 sp8 sg9 H locs hp10 ha11 hb12 hP hD hS => ?_)
  obtain ⟨rfl, hc9⟩ := hp10
  have hc9 : sg9 34 0 = (kBest (xs 1)) := (congrFun (ha11 0 (by decide)) _).trans hc9
  have ho : sg9 33 0 = nI 0 := (congrFun (hb12 33 (by decide)) 0).trans ho
  refine W.eq (g2 := F0 m 603 ls [.int (nI 0)]) rfl ?_
  refine lv_istore (lv' := [(6, .int (nI 0)), (5, .int (kBest (xs 1))), (0, .ref b), (1, .ref (ad 0)), (2, .ref (ad 34)), (3, .ref (ad 33)), (4, .int (nI 0))]) hx hb dL_law_603 hl (by decide) rfl (fun ls hl => ?_)
  refine lv_aload_n hx hb dL_law_605 rfl (lv_at hl 4 rfl) ?_
  refine gc_go (pl := [34, 35, 36, 37, 38, 39, 40, 41, 42, 43, 44, 45, 46]) (S2 := SM) (ad := ad) (sg := sg9) (va_runV (As := []) (rest := []) ⟨hx, hb, hml, hown, hts⟩ (m_X3_thrown l hl9 D cI cJ (fun j => ad (gw_p [34, 35, 36, 37, 38, 39, 40, 41, 42, 43, 44, 45, 46] j)) (fun j => sg9 (gw_p [34, 35, 36, 37, 38, 39, 40, 41, 42, 43, 44, 45, 46] j)) _  ) (cwV 0 hts (gwV a227 a228 a229 a87 a230) rfl rfl rfl (by decide +kernel) ⟨by decide, by decide⟩) (gc_preV hK hP hD hS hA hE rfl rfl rfl rfl) rfl rfl hl.1 rfl (lv_room (Nat.le_of_ble_eq_true rfl)) dL_law_606 ⟨by decide, by decide⟩) hP hD hS hA rfl (fun v13 sp14 sg15 H locs hp16 ha17 hb18 hP hD hS => ?_)
  obtain ⟨rfl, hs9⟩ := hp16
  rw [gw_same hs9 ha17 hb18 rfl] at hP hD
  refine W.eq (g2 := F0 m 609 ls [.int (kBest (xs 1))]) (by show F0 m _ ls (Value.int (sg9 34 0) :: _) = _; rw [hc9]; rfl) ?_
  refine lv_iload hx hb dL_law_609 (lv_at hl 1 rfl) ?_
  refine lv_icmp_eq (tgt := 616) hx hb dL_law_611 (by decide) (fun hc19 => ?_) (fun hc19 => ?_)
  · refine lv_iload hx hb dL_law_616 (lv_at hl 1 rfl) ?_
    refine lv_if_ne (tgt := 633) hx hb dL_law_618 (by decide) (fun hc20 => ?_) (fun hc20 => ?_)
    · refine lv_goto (tgt := 860) hx hb dL_law_633 (by decide) ?_
      exact law_860 l hl9 C0 D cI cJ ad hK hE (by decide) (by decide) hS (lv_sub hl [2, 6] rfl)
    · refine lv_aload_n hx hb dL_law_621 rfl (lv_at hl 5 rfl) ?_
      refine lv_iconst (v := (nI 0)) hx hb dL_law_622 (by decide) ?_
      refine gw_lald hx hb hK hP 33 2 (n := 1) rfl rfl (i := 0) (by decide) (by decide) dL_law_623 ?_
      rw [ho]
      refine lv_iload hx hb dL_law_624 (lv_at hl 0 rfl) ?_
      refine lv_i2l hx hb dL_law_626 rfl ?_
      refine W.lcmp hx hb dL_law_627 ?_
      refine gw_top (y := nI 0) (by decide) ?_
      refine lv_if_eq (tgt := 633) hx hb dL_law_628 (by decide) (fun hc21 => ?_) (fun hc21 => ?_)
      · refine lv_goto (tgt := 860) hx hb dL_law_633 (by decide) ?_
        exact law_860 l hl9 C0 D cI cJ ad hK hE (by decide) (by decide) hS (lv_sub hl [2, 6] rfl)
      · exact absurd hc21 (by decide)
  · exact absurd rfl hc19
set_option maxRecDepth 100000 in
set_option maxHeartbeats 4000000 in
theorem law_made {p : Program} {e : Env} {s : State} {m : MethodId} {below : List Frame} {meth : Method} {c : Code} (l : Launch) (hl9 : l.stackTraces = false) {b : Nat} {xs : Nat → Int32} (C0 : lw_At p s m meth c b 5 xs) (D : va_G) (cI : ClassId) (cJ : ClassId × ClassId) (ad : Nat → Nat) (hK : va_K D vwCl (tyS cI cJ) s) (hE : gc_ex gxT gxN (fun q : Nat => s.heap.size ≤ q) s s.heap) {H : Heap} {locs : List Loc} {ls : Array Slot} (hP : va_P D vwCl (gw cI cJ ad frL SL) H) (hD : va_D (fun q : Nat => s.heap.size ≤ q) (gw cI cJ ad frL SL)) (hS : va_S (fun q : Nat => s.heap.size ≤ q) s.heap H locs) (hl : lv_has ls 7 [(0, .ref b), (1, .ref (ad 0)), (2, .ref (ad 34)), (3, .ref (ad 33)), (4, .int (nI 0))]) : W p l e room_1 s m #[Value.ref b] below meth c H locs 47 288 (lw_Z below #[Value.ref b] s) (F0 m 636 ls []) := by
  obtain ⟨hx, hb, hr, hml, hown, hts, hX, hbl, hlocks, hgv⟩ := id C0
  have hown : s.vm.findClass RL = some m.cls := hown
  have hts : ∀ w ∈ wsAll, w.before #[Value.ref b] s = true := fun w h => hts w (List.mem_filter.mp h).1
  have hA : ∀ q : Nat, s.heap.size ≤ q → (fun q : Nat => s.heap.size ≤ q) q := fun _ h => h
  have hbA : ¬ (fun q : Nat => s.heap.size ≤ q) b := Nat.not_le.mpr hbl
  refine lv_aload_n hx hb dL_law_636 rfl (lv_at hl 1 rfl) ?_
  refine lv_aload_n hx hb dL_law_637 rfl (lv_at hl 0 rfl) ?_
  refine lv_iload hx hb dL_law_638 (lv_at hl 4 rfl) ?_
  refine lv_iconst (v := (nI 1)) hx hb dL_law_640 (by decide) ?_
  refine lv_iadd hx hb dL_law_641 ?_
  refine gw_top (y := (nI 1)) (by decide) ?_
  refine va_sld hx hb hX hbl hbA hS (vp_in_nI (n := 1) (N := 5) (by decide) (by decide)) dL_law_642 ?_
  refine gw_top (y := xs 1) (by rw [nI_clamp (by decide)]) ?_
  refine lv_aload_n hx hb dL_law_643 rfl (lv_at hl 3 rfl) ?_
  refine gc_go (pl := [0, 1, 2, 3, 4, 5, 6, 7, 8, 9, 10, 11, 12, 13, 14, 15, 16, 17, 18, 19, 20, 21, 22, 23, 24, 25, 26, 27, 28, 29, 30, 31, 32, 33]) (S2 := SW) (ad := ad) (sg := frL) (vx_runSW (As := [.ref (ad 0), .int (xs 1), .ref (ad 33)]) (rest := []) ⟨hx, hb, hml, hown, hts⟩ (m_L_made l hl9 D cI cJ (fun j => ad (gw_p [0, 1, 2, 3, 4, 5, 6, 7, 8, 9, 10, 11, 12, 13, 14, 15, 16, 17, 18, 19, 20, 21, 22, 23, 24, 25, 26, 27, 28, 29, 30, 31, 32, 33] j)) (fun j => frL (gw_p [0, 1, 2, 3, 4, 5, 6, 7, 8, 9, 10, 11, 12, 13, 14, 15, 16, 17, 18, 19, 20, 21, 22, 23, 24, 25, 26, 27, 28, 29, 30, 31, 32, 33] j)) _ (xs 1) law_out0 law_fr) (vx_cwSW 3 hts (gwSW a287 a288 a221 a289) rfl rfl rfl (by decide +kernel) ⟨by decide, by decide⟩) (gc_preS hK hP hD hS hA hE rfl) rfl rfl hl.1 rfl (lv_room (Nat.le_of_ble_eq_true rfl)) dL_law_644 ⟨by decide, by decide⟩) hP hD hS hA rfl (fun v1 sp2 sg3 H locs hp4 ha5 hb6 hP hD hS => ?_)
  obtain ⟨rfl, ho⟩ := hp4
  have ho : sg3 33 0 = nI 0 := (congrFun (ha5 33 (by decide)) 0).trans ho
  have hM : ∀ k j : Nat, k < 13 → (fun i => sg3 (gw_p [34, 35, 36, 37, 38, 39, 40, 41, 42, 43, 44, 45, 46] i)) k j = fm k j := law_mod hb6
  refine W.eq (g2 := F0 m 647 ls [.int (kMade (xs 1))]) rfl ?_
  refine lv_istore (lv' := [(5, .int (kMade (xs 1))), (0, .ref b), (1, .ref (ad 0)), (2, .ref (ad 34)), (3, .ref (ad 33)), (4, .int (nI 0))]) hx hb dL_law_647 hl (by decide) rfl (fun ls hl => ?_)
  refine lv_aload_n hx hb dL_law_649 rfl (lv_at hl 3 rfl) ?_
  refine lv_aload_n hx hb dL_law_650 rfl (lv_at hl 1 rfl) ?_
  refine lv_iload hx hb dL_law_651 (lv_at hl 5 rfl) ?_
  refine lv_iconst (v := (nI 1)) hx hb dL_law_653 (by decide) ?_
  refine lv_iadd hx hb dL_law_654 ?_
  refine gw_top (y := (nI 1)) (by decide) ?_
  refine va_sld hx hb hX hbl hbA hS (vp_in_nI (n := 1) (N := 5) (by decide) (by decide)) dL_law_655 ?_
  refine gw_top (y := xs 1) (by rw [nI_clamp (by decide)]) ?_
  refine gc_go (pl := [34, 35, 36, 37, 38, 39, 40, 41, 42, 43, 44, 45, 46]) (S2 := SM) (ad := ad) (sg := sg3) (va_runV (As := [.int (xs 1)]) (rest := []) ⟨hx, hb, hml, hown, hts⟩ (m_X3_made l hl9 D cI cJ (fun j => ad (gw_p [34, 35, 36, 37, 38, 39, 40, 41, 42, 43, 44, 45, 46] j)) (fun j => sg3 (gw_p [34, 35, 36, 37, 38, 39, 40, 41, 42, 43, 44, 45, 46] j)) _ (xs 1) hM) (cwV 1 hts (gwV a290 a291 a292 a87 a293) rfl rfl rfl (by decide +kernel) ⟨by decide, by decide⟩) (gc_preV hK hP hD hS hA hE rfl rfl rfl rfl) rfl rfl hl.1 rfl (lv_room (Nat.le_of_ble_eq_true rfl)) dL_law_656 ⟨by decide, by decide⟩) hP hD hS hA rfl (fun v7 sp8 sg9 H locs hp10 ha11 hb12 hP hD hS => ?_)
  obtain ⟨rfl, hc9⟩ := hp10
  have hc9 : sg9 34 0 = (kMade (xs 1)) := (congrFun (ha11 0 (by decide)) _).trans hc9
  have ho : sg9 33 0 = nI 0 := (congrFun (hb12 33 (by decide)) 0).trans ho
  refine W.eq (g2 := F0 m 659 ls [.int (nI 0)]) rfl ?_
  refine lv_istore (lv' := [(6, .int (nI 0)), (5, .int (kMade (xs 1))), (0, .ref b), (1, .ref (ad 0)), (2, .ref (ad 34)), (3, .ref (ad 33)), (4, .int (nI 0))]) hx hb dL_law_659 hl (by decide) rfl (fun ls hl => ?_)
  refine lv_aload_n hx hb dL_law_661 rfl (lv_at hl 4 rfl) ?_
  refine gc_go (pl := [34, 35, 36, 37, 38, 39, 40, 41, 42, 43, 44, 45, 46]) (S2 := SM) (ad := ad) (sg := sg9) (va_runV (As := []) (rest := []) ⟨hx, hb, hml, hown, hts⟩ (m_X3_thrown l hl9 D cI cJ (fun j => ad (gw_p [34, 35, 36, 37, 38, 39, 40, 41, 42, 43, 44, 45, 46] j)) (fun j => sg9 (gw_p [34, 35, 36, 37, 38, 39, 40, 41, 42, 43, 44, 45, 46] j)) _  ) (cwV 0 hts (gwV a227 a228 a229 a87 a230) rfl rfl rfl (by decide +kernel) ⟨by decide, by decide⟩) (gc_preV hK hP hD hS hA hE rfl rfl rfl rfl) rfl rfl hl.1 rfl (lv_room (Nat.le_of_ble_eq_true rfl)) dL_law_662 ⟨by decide, by decide⟩) hP hD hS hA rfl (fun v13 sp14 sg15 H locs hp16 ha17 hb18 hP hD hS => ?_)
  obtain ⟨rfl, hs9⟩ := hp16
  rw [gw_same hs9 ha17 hb18 rfl] at hP hD
  refine W.eq (g2 := F0 m 665 ls [.int (kMade (xs 1))]) (by show F0 m _ ls (Value.int (sg9 34 0) :: _) = _; rw [hc9]; rfl) ?_
  refine lv_iload hx hb dL_law_665 (lv_at hl 1 rfl) ?_
  refine lv_icmp_eq (tgt := 672) hx hb dL_law_667 (by decide) (fun hc19 => ?_) (fun hc19 => ?_)
  · refine lv_iload hx hb dL_law_672 (lv_at hl 1 rfl) ?_
    refine lv_if_ne (tgt := 689) hx hb dL_law_674 (by decide) (fun hc20 => ?_) (fun hc20 => ?_)
    · refine lv_goto (tgt := 860) hx hb dL_law_689 (by decide) ?_
      exact law_860 l hl9 C0 D cI cJ ad hK hE (by decide) (by decide) hS (lv_sub hl [2, 6] rfl)
    · refine lv_aload_n hx hb dL_law_677 rfl (lv_at hl 5 rfl) ?_
      refine lv_iconst (v := (nI 0)) hx hb dL_law_678 (by decide) ?_
      refine gw_lald hx hb hK hP 33 2 (n := 1) rfl rfl (i := 0) (by decide) (by decide) dL_law_679 ?_
      rw [ho]
      refine lv_iload hx hb dL_law_680 (lv_at hl 0 rfl) ?_
      refine lv_i2l hx hb dL_law_682 rfl ?_
      refine W.lcmp hx hb dL_law_683 ?_
      refine gw_top (y := nI 0) (by decide) ?_
      refine lv_if_eq (tgt := 689) hx hb dL_law_684 (by decide) (fun hc21 => ?_) (fun hc21 => ?_)
      · refine lv_goto (tgt := 860) hx hb dL_law_689 (by decide) ?_
        exact law_860 l hl9 C0 D cI cJ ad hK hE (by decide) (by decide) hS (lv_sub hl [2, 6] rfl)
      · exact absurd hc21 (by decide)
  · exact absurd rfl hc19
set_option maxRecDepth 100000 in
set_option maxHeartbeats 4000000 in
theorem law_saw {p : Program} {e : Env} {s : State} {m : MethodId} {below : List Frame} {meth : Method} {c : Code} (l : Launch) (hl9 : l.stackTraces = false) {b : Nat} {xs : Nat → Int32} (C0 : lw_At p s m meth c b 5 xs) (D : va_G) (cI : ClassId) (cJ : ClassId × ClassId) (ad : Nat → Nat) (hK : va_K D vwCl (tyS cI cJ) s) (hE : gc_ex gxT gxN (fun q : Nat => s.heap.size ≤ q) s s.heap) {H : Heap} {locs : List Loc} {ls : Array Slot} (hP : va_P D vwCl (gw cI cJ ad frL SL) H) (hD : va_D (fun q : Nat => s.heap.size ≤ q) (gw cI cJ ad frL SL)) (hS : va_S (fun q : Nat => s.heap.size ≤ q) s.heap H locs) (hl : lv_has ls 7 [(0, .ref b), (1, .ref (ad 0)), (2, .ref (ad 34)), (3, .ref (ad 33)), (4, .int (nI 0))]) : W p l e room_1 s m #[Value.ref b] below meth c H locs 47 288 (lw_Z below #[Value.ref b] s) (F0 m 692 ls []) := by
  obtain ⟨hx, hb, hr, hml, hown, hts, hX, hbl, hlocks, hgv⟩ := id C0
  have hown : s.vm.findClass RL = some m.cls := hown
  have hts : ∀ w ∈ wsAll, w.before #[Value.ref b] s = true := fun w h => hts w (List.mem_filter.mp h).1
  have hA : ∀ q : Nat, s.heap.size ≤ q → (fun q : Nat => s.heap.size ≤ q) q := fun _ h => h
  have hbA : ¬ (fun q : Nat => s.heap.size ≤ q) b := Nat.not_le.mpr hbl
  refine lv_aload_n hx hb dL_law_692 rfl (lv_at hl 1 rfl) ?_
  refine lv_aload_n hx hb dL_law_693 rfl (lv_at hl 3 rfl) ?_
  refine gc_go (pl := [0, 1, 2, 3, 4, 5, 6, 7, 8, 9, 10, 11, 12, 13, 14, 15, 16, 17, 18, 19, 20, 21, 22, 23, 24, 25, 26, 27, 28, 29, 30, 31, 32, 33]) (S2 := SW) (ad := ad) (sg := frL) (vx_runSW (As := [.ref (ad 0), .ref (ad 33)]) (rest := []) ⟨hx, hb, hml, hown, hts⟩ (m_L_saw l hl9 D cI cJ (fun j => ad (gw_p [0, 1, 2, 3, 4, 5, 6, 7, 8, 9, 10, 11, 12, 13, 14, 15, 16, 17, 18, 19, 20, 21, 22, 23, 24, 25, 26, 27, 28, 29, 30, 31, 32, 33] j)) (fun j => frL (gw_p [0, 1, 2, 3, 4, 5, 6, 7, 8, 9, 10, 11, 12, 13, 14, 15, 16, 17, 18, 19, 20, 21, 22, 23, 24, 25, 26, 27, 28, 29, 30, 31, 32, 33] j)) _  law_out0 law_fr) (vx_cwSW 2 hts (gwSW a294 a295 a221 a296) rfl rfl rfl (by decide +kernel) ⟨by decide, by decide⟩) (gc_preS hK hP hD hS hA hE rfl) rfl rfl hl.1 rfl (lv_room (Nat.le_of_ble_eq_true rfl)) dL_law_694 ⟨by decide, by decide⟩) hP hD hS hA rfl (fun v1 sp2 sg3 H locs hp4 ha5 hb6 hP hD hS => ?_)
  obtain ⟨rfl, ho⟩ := hp4
  have ho : sg3 33 0 = nI 0 := (congrFun (ha5 33 (by decide)) 0).trans ho
  have hM : ∀ k j : Nat, k < 13 → (fun i => sg3 (gw_p [34, 35, 36, 37, 38, 39, 40, 41, 42, 43, 44, 45, 46] i)) k j = fm k j := law_mod hb6
  refine W.eq (g2 := F0 m 697 ls [.int (nI 1)]) rfl ?_
  refine lv_istore (lv' := [(5, .int (nI 1)), (0, .ref b), (1, .ref (ad 0)), (2, .ref (ad 34)), (3, .ref (ad 33)), (4, .int (nI 0))]) hx hb dL_law_697 hl (by decide) rfl (fun ls hl => ?_)
  refine lv_aload_n hx hb dL_law_699 rfl (lv_at hl 3 rfl) ?_
  refine gc_go (pl := [34, 35, 36, 37, 38, 39, 40, 41, 42, 43, 44, 45, 46]) (S2 := SM) (ad := ad) (sg := sg3) (va_runV (As := []) (rest := []) ⟨hx, hb, hml, hown, hts⟩ (m_X3_saw l hl9 D cI cJ (fun j => ad (gw_p [34, 35, 36, 37, 38, 39, 40, 41, 42, 43, 44, 45, 46] j)) (fun j => sg3 (gw_p [34, 35, 36, 37, 38, 39, 40, 41, 42, 43, 44, 45, 46] j)) _  hM) (cwV 0 hts (gwV a297 a298 a299 a87 a300) rfl rfl rfl (by decide +kernel) ⟨by decide, by decide⟩) (gc_preV hK hP hD hS hA hE rfl rfl rfl rfl) rfl rfl hl.1 rfl (lv_room (Nat.le_of_ble_eq_true rfl)) dL_law_700 ⟨by decide, by decide⟩) hP hD hS hA rfl (fun v7 sp8 sg9 H locs hp10 ha11 hb12 hP hD hS => ?_)
  obtain ⟨rfl, hc9⟩ := hp10
  have hc9 : sg9 34 0 = (nI 1) := (congrFun (ha11 0 (by decide)) _).trans hc9
  have ho : sg9 33 0 = nI 0 := (congrFun (hb12 33 (by decide)) 0).trans ho
  refine W.eq (g2 := F0 m 703 ls [.int (nI 0)]) rfl ?_
  refine lv_istore (lv' := [(6, .int (nI 0)), (5, .int (nI 1)), (0, .ref b), (1, .ref (ad 0)), (2, .ref (ad 34)), (3, .ref (ad 33)), (4, .int (nI 0))]) hx hb dL_law_703 hl (by decide) rfl (fun ls hl => ?_)
  refine lv_aload_n hx hb dL_law_705 rfl (lv_at hl 4 rfl) ?_
  refine gc_go (pl := [34, 35, 36, 37, 38, 39, 40, 41, 42, 43, 44, 45, 46]) (S2 := SM) (ad := ad) (sg := sg9) (va_runV (As := []) (rest := []) ⟨hx, hb, hml, hown, hts⟩ (m_X3_thrown l hl9 D cI cJ (fun j => ad (gw_p [34, 35, 36, 37, 38, 39, 40, 41, 42, 43, 44, 45, 46] j)) (fun j => sg9 (gw_p [34, 35, 36, 37, 38, 39, 40, 41, 42, 43, 44, 45, 46] j)) _  ) (cwV 0 hts (gwV a227 a228 a229 a87 a230) rfl rfl rfl (by decide +kernel) ⟨by decide, by decide⟩) (gc_preV hK hP hD hS hA hE rfl rfl rfl rfl) rfl rfl hl.1 rfl (lv_room (Nat.le_of_ble_eq_true rfl)) dL_law_706 ⟨by decide, by decide⟩) hP hD hS hA rfl (fun v13 sp14 sg15 H locs hp16 ha17 hb18 hP hD hS => ?_)
  obtain ⟨rfl, hs9⟩ := hp16
  rw [gw_same hs9 ha17 hb18 rfl] at hP hD
  refine W.eq (g2 := F0 m 709 ls [.int (nI 1)]) (by show F0 m _ ls (Value.int (sg9 34 0) :: _) = _; rw [hc9]; rfl) ?_
  refine lv_iload hx hb dL_law_709 (lv_at hl 1 rfl) ?_
  refine lv_icmp_eq (tgt := 716) hx hb dL_law_711 (by decide) (fun hc19 => ?_) (fun hc19 => ?_)
  · refine lv_iload hx hb dL_law_716 (lv_at hl 1 rfl) ?_
    refine lv_if_ne (tgt := 733) hx hb dL_law_718 (by decide) (fun hc20 => ?_) (fun hc20 => ?_)
    · refine lv_goto (tgt := 860) hx hb dL_law_733 (by decide) ?_
      exact law_860 l hl9 C0 D cI cJ ad hK hE (by decide) (by decide) hS (lv_sub hl [2, 6] rfl)
    · refine lv_aload_n hx hb dL_law_721 rfl (lv_at hl 5 rfl) ?_
      refine lv_iconst (v := (nI 0)) hx hb dL_law_722 (by decide) ?_
      refine gw_lald hx hb hK hP 33 2 (n := 1) rfl rfl (i := 0) (by decide) (by decide) dL_law_723 ?_
      rw [ho]
      refine lv_iload hx hb dL_law_724 (lv_at hl 0 rfl) ?_
      refine lv_i2l hx hb dL_law_726 rfl ?_
      refine W.lcmp hx hb dL_law_727 ?_
      refine gw_top (y := nI 0) (by decide) ?_
      refine lv_if_eq (tgt := 733) hx hb dL_law_728 (by decide) (fun hc21 => ?_) (fun hc21 => ?_)
      · refine lv_goto (tgt := 860) hx hb dL_law_733 (by decide) ?_
        exact law_860 l hl9 C0 D cI cJ ad hK hE (by decide) (by decide) hS (lv_sub hl [2, 6] rfl)
      · exact absurd hc21 (by decide)
  · exact absurd rfl hc19
set_option maxRecDepth 100000 in
set_option maxHeartbeats 4000000 in
theorem law_mill {p : Program} {e : Env} {s : State} {m : MethodId} {below : List Frame} {meth : Method} {c : Code} (l : Launch) (hl9 : l.stackTraces = false) {b : Nat} {xs : Nat → Int32} (C0 : lw_At p s m meth c b 5 xs) (D : va_G) (cI : ClassId) (cJ : ClassId × ClassId) (ad : Nat → Nat) (hK : va_K D vwCl (tyS cI cJ) s) (hE : gc_ex gxT gxN (fun q : Nat => s.heap.size ≤ q) s s.heap) {H : Heap} {locs : List Loc} {ls : Array Slot} (hP : va_P D vwCl (gw cI cJ ad frL SL) H) (hD : va_D (fun q : Nat => s.heap.size ≤ q) (gw cI cJ ad frL SL)) (hS : va_S (fun q : Nat => s.heap.size ≤ q) s.heap H locs) (hl : lv_has ls 7 [(0, .ref b), (1, .ref (ad 0)), (2, .ref (ad 34)), (3, .ref (ad 33)), (4, .int (nI 0))]) : W p l e room_1 s m #[Value.ref b] below meth c H locs 47 288 (lw_Z below #[Value.ref b] s) (F0 m 736 ls []) := by
  obtain ⟨hx, hb, hr, hml, hown, hts, hX, hbl, hlocks, hgv⟩ := id C0
  have hown : s.vm.findClass RL = some m.cls := hown
  have hts : ∀ w ∈ wsAll, w.before #[Value.ref b] s = true := fun w h => hts w (List.mem_filter.mp h).1
  have hA : ∀ q : Nat, s.heap.size ≤ q → (fun q : Nat => s.heap.size ≤ q) q := fun _ h => h
  have hbA : ¬ (fun q : Nat => s.heap.size ≤ q) b := Nat.not_le.mpr hbl
  refine lv_aload_n hx hb dL_law_736 rfl (lv_at hl 1 rfl) ?_
  refine lv_aload_n hx hb dL_law_737 rfl (lv_at hl 0 rfl) ?_
  refine lv_iload hx hb dL_law_738 (lv_at hl 4 rfl) ?_
  refine lv_iconst (v := (nI 1)) hx hb dL_law_740 (by decide) ?_
  refine lv_iadd hx hb dL_law_741 ?_
  refine gw_top (y := (nI 1)) (by decide) ?_
  refine va_sld hx hb hX hbl hbA hS (vp_in_nI (n := 1) (N := 5) (by decide) (by decide)) dL_law_742 ?_
  refine gw_top (y := xs 1) (by rw [nI_clamp (by decide)]) ?_
  refine lv_aload_n hx hb dL_law_743 rfl (lv_at hl 3 rfl) ?_
  refine gc_go (pl := [0, 1, 2, 3, 4, 5, 6, 7, 8, 9, 10, 11, 12, 13, 14, 15, 16, 17, 18, 19, 20, 21, 22, 23, 24, 25, 26, 27, 28, 29, 30, 31, 32, 33]) (S2 := SW) (ad := ad) (sg := frL) (vx_runSW (As := [.ref (ad 0), .int (xs 1), .ref (ad 33)]) (rest := []) ⟨hx, hb, hml, hown, hts⟩ (m_L_mill l hl9 D cI cJ (fun j => ad (gw_p [0, 1, 2, 3, 4, 5, 6, 7, 8, 9, 10, 11, 12, 13, 14, 15, 16, 17, 18, 19, 20, 21, 22, 23, 24, 25, 26, 27, 28, 29, 30, 31, 32, 33] j)) (fun j => frL (gw_p [0, 1, 2, 3, 4, 5, 6, 7, 8, 9, 10, 11, 12, 13, 14, 15, 16, 17, 18, 19, 20, 21, 22, 23, 24, 25, 26, 27, 28, 29, 30, 31, 32, 33] j)) _ (xs 1) law_out0 law_fr) (vx_cwSW 3 hts (gwSW a301 a302 a221 a303) rfl rfl rfl (by decide +kernel) ⟨by decide, by decide⟩) (gc_preS hK hP hD hS hA hE rfl) rfl rfl hl.1 rfl (lv_room (Nat.le_of_ble_eq_true rfl)) dL_law_744 ⟨by decide, by decide⟩) hP hD hS hA rfl (fun v1 sp2 sg3 H locs hp4 ha5 hb6 hP hD hS => ?_)
  obtain ⟨rfl, ho⟩ := hp4
  have ho : sg3 33 0 = nI 0 := (congrFun (ha5 33 (by decide)) 0).trans ho
  have hM : ∀ k j : Nat, k < 13 → (fun i => sg3 (gw_p [34, 35, 36, 37, 38, 39, 40, 41, 42, 43, 44, 45, 46] i)) k j = fm k j := law_mod hb6
  refine W.eq (g2 := F0 m 747 ls [.int (kMill (xs 1))]) rfl ?_
  refine lv_istore (lv' := [(5, .int (kMill (xs 1))), (0, .ref b), (1, .ref (ad 0)), (2, .ref (ad 34)), (3, .ref (ad 33)), (4, .int (nI 0))]) hx hb dL_law_747 hl (by decide) rfl (fun ls hl => ?_)
  refine lv_aload_n hx hb dL_law_749 rfl (lv_at hl 3 rfl) ?_
  refine lv_aload_n hx hb dL_law_750 rfl (lv_at hl 1 rfl) ?_
  refine lv_iload hx hb dL_law_751 (lv_at hl 5 rfl) ?_
  refine lv_iconst (v := (nI 1)) hx hb dL_law_753 (by decide) ?_
  refine lv_iadd hx hb dL_law_754 ?_
  refine gw_top (y := (nI 1)) (by decide) ?_
  refine va_sld hx hb hX hbl hbA hS (vp_in_nI (n := 1) (N := 5) (by decide) (by decide)) dL_law_755 ?_
  refine gw_top (y := xs 1) (by rw [nI_clamp (by decide)]) ?_
  refine gc_go (pl := [34, 35, 36, 37, 38, 39, 40, 41, 42, 43, 44, 45, 46]) (S2 := SM) (ad := ad) (sg := sg3) (va_runV (As := [.int (xs 1)]) (rest := []) ⟨hx, hb, hml, hown, hts⟩ (m_X3_mill l hl9 D cI cJ (fun j => ad (gw_p [34, 35, 36, 37, 38, 39, 40, 41, 42, 43, 44, 45, 46] j)) (fun j => sg3 (gw_p [34, 35, 36, 37, 38, 39, 40, 41, 42, 43, 44, 45, 46] j)) _ (xs 1) hM) (cwV 1 hts (gwV a304 a305 a306 a87 a307) rfl rfl rfl (by decide +kernel) ⟨by decide, by decide⟩) (gc_preV hK hP hD hS hA hE rfl rfl rfl rfl) rfl rfl hl.1 rfl (lv_room (Nat.le_of_ble_eq_true rfl)) dL_law_756 ⟨by decide, by decide⟩) hP hD hS hA rfl (fun v7 sp8 sg9 H locs hp10 ha11 hb12 hP hD hS => ?_)
  obtain ⟨rfl, hc9⟩ := hp10
  have hc9 : sg9 34 0 = (kMill (xs 1)) := (congrFun (ha11 0 (by decide)) _).trans hc9
  have ho : sg9 33 0 = nI 0 := (congrFun (hb12 33 (by decide)) 0).trans ho
  refine W.eq (g2 := F0 m 759 ls [.int (nI 0)]) rfl ?_
  refine lv_istore (lv' := [(6, .int (nI 0)), (5, .int (kMill (xs 1))), (0, .ref b), (1, .ref (ad 0)), (2, .ref (ad 34)), (3, .ref (ad 33)), (4, .int (nI 0))]) hx hb dL_law_759 hl (by decide) rfl (fun ls hl => ?_)
  refine lv_aload_n hx hb dL_law_761 rfl (lv_at hl 4 rfl) ?_
  refine gc_go (pl := [34, 35, 36, 37, 38, 39, 40, 41, 42, 43, 44, 45, 46]) (S2 := SM) (ad := ad) (sg := sg9) (va_runV (As := []) (rest := []) ⟨hx, hb, hml, hown, hts⟩ (m_X3_thrown l hl9 D cI cJ (fun j => ad (gw_p [34, 35, 36, 37, 38, 39, 40, 41, 42, 43, 44, 45, 46] j)) (fun j => sg9 (gw_p [34, 35, 36, 37, 38, 39, 40, 41, 42, 43, 44, 45, 46] j)) _  ) (cwV 0 hts (gwV a227 a228 a229 a87 a230) rfl rfl rfl (by decide +kernel) ⟨by decide, by decide⟩) (gc_preV hK hP hD hS hA hE rfl rfl rfl rfl) rfl rfl hl.1 rfl (lv_room (Nat.le_of_ble_eq_true rfl)) dL_law_762 ⟨by decide, by decide⟩) hP hD hS hA rfl (fun v13 sp14 sg15 H locs hp16 ha17 hb18 hP hD hS => ?_)
  obtain ⟨rfl, hs9⟩ := hp16
  rw [gw_same hs9 ha17 hb18 rfl] at hP hD
  refine W.eq (g2 := F0 m 765 ls [.int (kMill (xs 1))]) (by show F0 m _ ls (Value.int (sg9 34 0) :: _) = _; rw [hc9]; rfl) ?_
  refine lv_iload hx hb dL_law_765 (lv_at hl 1 rfl) ?_
  refine lv_icmp_eq (tgt := 772) hx hb dL_law_767 (by decide) (fun hc19 => ?_) (fun hc19 => ?_)
  · refine lv_iload hx hb dL_law_772 (lv_at hl 1 rfl) ?_
    refine lv_if_ne (tgt := 789) hx hb dL_law_774 (by decide) (fun hc20 => ?_) (fun hc20 => ?_)
    · refine lv_goto (tgt := 860) hx hb dL_law_789 (by decide) ?_
      exact law_860 l hl9 C0 D cI cJ ad hK hE (by decide) (by decide) hS (lv_sub hl [2, 6] rfl)
    · refine lv_aload_n hx hb dL_law_777 rfl (lv_at hl 5 rfl) ?_
      refine lv_iconst (v := (nI 0)) hx hb dL_law_778 (by decide) ?_
      refine gw_lald hx hb hK hP 33 2 (n := 1) rfl rfl (i := 0) (by decide) (by decide) dL_law_779 ?_
      rw [ho]
      refine lv_iload hx hb dL_law_780 (lv_at hl 0 rfl) ?_
      refine lv_i2l hx hb dL_law_782 rfl ?_
      refine W.lcmp hx hb dL_law_783 ?_
      refine gw_top (y := nI 0) (by decide) ?_
      refine lv_if_eq (tgt := 789) hx hb dL_law_784 (by decide) (fun hc21 => ?_) (fun hc21 => ?_)
      · refine lv_goto (tgt := 860) hx hb dL_law_789 (by decide) ?_
        exact law_860 l hl9 C0 D cI cJ ad hK hE (by decide) (by decide) hS (lv_sub hl [2, 6] rfl)
      · exact absurd hc21 (by decide)
  · exact absurd rfl hc19
set_option maxRecDepth 100000 in
set_option maxHeartbeats 4000000 in
theorem law_cost {p : Program} {e : Env} {s : State} {m : MethodId} {below : List Frame} {meth : Method} {c : Code} (l : Launch) (hl9 : l.stackTraces = false) {b : Nat} {xs : Nat → Int32} (C0 : lw_At p s m meth c b 5 xs) (D : va_G) (cI : ClassId) (cJ : ClassId × ClassId) (ad : Nat → Nat) (hK : va_K D vwCl (tyS cI cJ) s) (hE : gc_ex gxT gxN (fun q : Nat => s.heap.size ≤ q) s s.heap) {H : Heap} {locs : List Loc} {ls : Array Slot} (hP : va_P D vwCl (gw cI cJ ad frL SL) H) (hD : va_D (fun q : Nat => s.heap.size ≤ q) (gw cI cJ ad frL SL)) (hS : va_S (fun q : Nat => s.heap.size ≤ q) s.heap H locs) (hl : lv_has ls 7 [(0, .ref b), (1, .ref (ad 0)), (2, .ref (ad 34)), (3, .ref (ad 33)), (4, .int (nI 0))]) : W p l e room_1 s m #[Value.ref b] below meth c H locs 47 288 (lw_Z below #[Value.ref b] s) (F0 m 792 ls []) := by
  obtain ⟨hx, hb, hr, hml, hown, hts, hX, hbl, hlocks, hgv⟩ := id C0
  have hown : s.vm.findClass RL = some m.cls := hown
  have hts : ∀ w ∈ wsAll, w.before #[Value.ref b] s = true := fun w h => hts w (List.mem_filter.mp h).1
  have hA : ∀ q : Nat, s.heap.size ≤ q → (fun q : Nat => s.heap.size ≤ q) q := fun _ h => h
  have hbA : ¬ (fun q : Nat => s.heap.size ≤ q) b := Nat.not_le.mpr hbl
  refine lv_aload_n hx hb dL_law_792 rfl (lv_at hl 1 rfl) ?_
  refine lv_aload_n hx hb dL_law_793 rfl (lv_at hl 0 rfl) ?_
  refine lv_iload hx hb dL_law_794 (lv_at hl 4 rfl) ?_
  refine lv_iconst (v := (nI 1)) hx hb dL_law_796 (by decide) ?_
  refine lv_iadd hx hb dL_law_797 ?_
  refine gw_top (y := (nI 1)) (by decide) ?_
  refine va_sld hx hb hX hbl hbA hS (vp_in_nI (n := 1) (N := 5) (by decide) (by decide)) dL_law_798 ?_
  refine gw_top (y := xs 1) (by rw [nI_clamp (by decide)]) ?_
  refine lv_aload_n hx hb dL_law_799 rfl (lv_at hl 0 rfl) ?_
  refine lv_iload hx hb dL_law_800 (lv_at hl 4 rfl) ?_
  refine lv_iconst (v := (nI 2)) hx hb dL_law_802 (by decide) ?_
  refine lv_iadd hx hb dL_law_803 ?_
  refine gw_top (y := (nI 2)) (by decide) ?_
  refine va_sld hx hb hX hbl hbA hS (vp_in_nI (n := 2) (N := 5) (by decide) (by decide)) dL_law_804 ?_
  refine gw_top (y := xs 2) (by rw [nI_clamp (by decide)]) ?_
  refine lv_aload_n hx hb dL_law_805 rfl (lv_at hl 3 rfl) ?_
  refine gc_go (pl := [0, 1, 2, 3, 4, 5, 6, 7, 8, 9, 10, 11, 12, 13, 14, 15, 16, 17, 18, 19, 20, 21, 22, 23, 24, 25, 26, 27, 28, 29, 30, 31, 32, 33]) (S2 := SW) (ad := ad) (sg := frL) (vx_runSW (As := [.ref (ad 0), .int (xs 1), .int (xs 2), .ref (ad 33)]) (rest := []) ⟨hx, hb, hml, hown, hts⟩ (m_L_cost l hl9 D cI cJ (fun j => ad (gw_p [0, 1, 2, 3, 4, 5, 6, 7, 8, 9, 10, 11, 12, 13, 14, 15, 16, 17, 18, 19, 20, 21, 22, 23, 24, 25, 26, 27, 28, 29, 30, 31, 32, 33] j)) (fun j => frL (gw_p [0, 1, 2, 3, 4, 5, 6, 7, 8, 9, 10, 11, 12, 13, 14, 15, 16, 17, 18, 19, 20, 21, 22, 23, 24, 25, 26, 27, 28, 29, 30, 31, 32, 33] j)) _ (xs 1) (xs 2) law_out0 law_fr) (vx_cwSW 4 hts (gwSW a308 a309 a221 a310) rfl rfl rfl (by decide +kernel) ⟨by decide, by decide⟩) (gc_preS hK hP hD hS hA hE rfl) rfl rfl hl.1 rfl (lv_room (Nat.le_of_ble_eq_true rfl)) dL_law_806 ⟨by decide, by decide⟩) hP hD hS hA rfl (fun v1 sp2 sg3 H locs hp4 ha5 hb6 hP hD hS => ?_)
  obtain ⟨rfl, ho⟩ := hp4
  have ho : sg3 33 0 = nI 0 := (congrFun (ha5 33 (by decide)) 0).trans ho
  have hM : ∀ k j : Nat, k < 13 → (fun i => sg3 (gw_p [34, 35, 36, 37, 38, 39, 40, 41, 42, 43, 44, 45, 46] i)) k j = fm k j := law_mod hb6
  refine W.eq (g2 := F0 m 809 ls [.int (kCost (xs 1) (xs 2))]) rfl ?_
  refine lv_istore (lv' := [(5, .int (kCost (xs 1) (xs 2))), (0, .ref b), (1, .ref (ad 0)), (2, .ref (ad 34)), (3, .ref (ad 33)), (4, .int (nI 0))]) hx hb dL_law_809 hl (by decide) rfl (fun ls hl => ?_)
  refine lv_aload_n hx hb dL_law_811 rfl (lv_at hl 3 rfl) ?_
  refine lv_aload_n hx hb dL_law_812 rfl (lv_at hl 1 rfl) ?_
  refine lv_iload hx hb dL_law_813 (lv_at hl 5 rfl) ?_
  refine lv_iconst (v := (nI 1)) hx hb dL_law_815 (by decide) ?_
  refine lv_iadd hx hb dL_law_816 ?_
  refine gw_top (y := (nI 1)) (by decide) ?_
  refine va_sld hx hb hX hbl hbA hS (vp_in_nI (n := 1) (N := 5) (by decide) (by decide)) dL_law_817 ?_
  refine gw_top (y := xs 1) (by rw [nI_clamp (by decide)]) ?_
  refine lv_aload_n hx hb dL_law_818 rfl (lv_at hl 1 rfl) ?_
  refine lv_iload hx hb dL_law_819 (lv_at hl 5 rfl) ?_
  refine lv_iconst (v := (nI 2)) hx hb dL_law_821 (by decide) ?_
  refine lv_iadd hx hb dL_law_822 ?_
  refine gw_top (y := (nI 2)) (by decide) ?_
  refine va_sld hx hb hX hbl hbA hS (vp_in_nI (n := 2) (N := 5) (by decide) (by decide)) dL_law_823 ?_
  refine gw_top (y := xs 2) (by rw [nI_clamp (by decide)]) ?_
  refine gc_go (pl := [34, 35, 36, 37, 38, 39, 40, 41, 42, 43, 44, 45, 46]) (S2 := SM) (ad := ad) (sg := sg3) (va_runV (As := [.int (xs 1), .int (xs 2)]) (rest := []) ⟨hx, hb, hml, hown, hts⟩ (m_X3_cost l hl9 D cI cJ (fun j => ad (gw_p [34, 35, 36, 37, 38, 39, 40, 41, 42, 43, 44, 45, 46] j)) (fun j => sg3 (gw_p [34, 35, 36, 37, 38, 39, 40, 41, 42, 43, 44, 45, 46] j)) _ (xs 1) (xs 2) hM) (cwV 2 hts (gwV a311 a312 a313 a87 a314) rfl rfl rfl (by decide +kernel) ⟨by decide, by decide⟩) (gc_preV hK hP hD hS hA hE rfl rfl rfl rfl) rfl rfl hl.1 rfl (lv_room (Nat.le_of_ble_eq_true rfl)) dL_law_824 ⟨by decide, by decide⟩) hP hD hS hA rfl (fun v7 sp8 sg9 H locs hp10 ha11 hb12 hP hD hS => ?_)
  obtain ⟨rfl, hc9⟩ := hp10
  have hc9 : sg9 34 0 = (kCost (xs 1) (xs 2)) := (congrFun (ha11 0 (by decide)) _).trans hc9
  have ho : sg9 33 0 = nI 0 := (congrFun (hb12 33 (by decide)) 0).trans ho
  refine W.eq (g2 := F0 m 827 ls [.int (nI 0)]) rfl ?_
  refine lv_istore (lv' := [(6, .int (nI 0)), (5, .int (kCost (xs 1) (xs 2))), (0, .ref b), (1, .ref (ad 0)), (2, .ref (ad 34)), (3, .ref (ad 33)), (4, .int (nI 0))]) hx hb dL_law_827 hl (by decide) rfl (fun ls hl => ?_)
  refine lv_aload_n hx hb dL_law_829 rfl (lv_at hl 4 rfl) ?_
  refine gc_go (pl := [34, 35, 36, 37, 38, 39, 40, 41, 42, 43, 44, 45, 46]) (S2 := SM) (ad := ad) (sg := sg9) (va_runV (As := []) (rest := []) ⟨hx, hb, hml, hown, hts⟩ (m_X3_thrown l hl9 D cI cJ (fun j => ad (gw_p [34, 35, 36, 37, 38, 39, 40, 41, 42, 43, 44, 45, 46] j)) (fun j => sg9 (gw_p [34, 35, 36, 37, 38, 39, 40, 41, 42, 43, 44, 45, 46] j)) _  ) (cwV 0 hts (gwV a227 a228 a229 a87 a230) rfl rfl rfl (by decide +kernel) ⟨by decide, by decide⟩) (gc_preV hK hP hD hS hA hE rfl rfl rfl rfl) rfl rfl hl.1 rfl (lv_room (Nat.le_of_ble_eq_true rfl)) dL_law_830 ⟨by decide, by decide⟩) hP hD hS hA rfl (fun v13 sp14 sg15 H locs hp16 ha17 hb18 hP hD hS => ?_)
  obtain ⟨rfl, hs9⟩ := hp16
  rw [gw_same hs9 ha17 hb18 rfl] at hP hD
  refine W.eq (g2 := F0 m 833 ls [.int (kCost (xs 1) (xs 2))]) (by show F0 m _ ls (Value.int (sg9 34 0) :: _) = _; rw [hc9]; rfl) ?_
  refine lv_iload hx hb dL_law_833 (lv_at hl 1 rfl) ?_
  refine lv_icmp_eq (tgt := 840) hx hb dL_law_835 (by decide) (fun hc19 => ?_) (fun hc19 => ?_)
  · refine lv_iload hx hb dL_law_840 (lv_at hl 1 rfl) ?_
    refine lv_if_ne (tgt := 857) hx hb dL_law_842 (by decide) (fun hc20 => ?_) (fun hc20 => ?_)
    · refine lv_goto (tgt := 860) hx hb dL_law_857 (by decide) ?_
      exact law_860 l hl9 C0 D cI cJ ad hK hE (by decide) (by decide) hS (lv_sub hl [2, 6] rfl)
    · refine lv_aload_n hx hb dL_law_845 rfl (lv_at hl 5 rfl) ?_
      refine lv_iconst (v := (nI 0)) hx hb dL_law_846 (by decide) ?_
      refine gw_lald hx hb hK hP 33 2 (n := 1) rfl rfl (i := 0) (by decide) (by decide) dL_law_847 ?_
      rw [ho]
      refine lv_iload hx hb dL_law_848 (lv_at hl 0 rfl) ?_
      refine lv_i2l hx hb dL_law_850 rfl ?_
      refine W.lcmp hx hb dL_law_851 ?_
      refine gw_top (y := nI 0) (by decide) ?_
      refine lv_if_eq (tgt := 857) hx hb dL_law_852 (by decide) (fun hc21 => ?_) (fun hc21 => ?_)
      · refine lv_goto (tgt := 860) hx hb dL_law_857 (by decide) ?_
        exact law_860 l hl9 C0 D cI cJ ad hK hE (by decide) (by decide) hS (lv_sub hl [2, 6] rfl)
      · exact absurd hc21 (by decide)
  · exact absurd rfl hc19
