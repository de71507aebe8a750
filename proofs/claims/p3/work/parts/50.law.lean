/-- the law's world when all is made -/
def frL (k j : Nat) : Int32 := if k < 33 then fr k j else if k = 33 then nI 0 else fm (k - 34) j
/-- what the law's loop keeps: the class's invariant, the reference's, and one number of patterns -/
def LI (sg : Nat → Nat → Int32) : Prop := IvG 1 9 6 sg ∧ IvM (fun j => sg (gw_p [34, 35, 36, 37, 38, 39, 40, 41, 42, 43, 44, 45, 46] j)) ∧ sg 1 9 = sg 34 3
theorem IvG.cong {y kp c : Nat} {a b : Nat → Nat → Int32} (h : IvG y kp c a) (e1 : b y = a y) (e2 : b c = a c) : IvG y kp c b := by
  refine ⟨?_, ?_⟩
  · rw [e1]; exact h.1
  · rw [e2]; exact h.2
theorem IvM.to {a b : Nat → Nat → Int32} (h : IvM a) (e1 : b 0 = a 0) (e2 : b 3 = a 3) : IvM b := by
  refine ⟨?_, ?_, ?_, ?_⟩
  · rw [e1]; exact h.1
  · rw [e2]; exact h.2.1
  · rw [e1]; exact h.2.2.1
  · rw [e1]; exact h.2.2.2
theorem IvM.cong {sg sg2 : Nat → Nat → Int32} (h : IvM (fun j => sg (gw_p [34, 35, 36, 37, 38, 39, 40, 41, 42, 43, 44, 45, 46] j))) (e1 : sg2 34 = sg 34) (e2 : sg2 37 = sg 37) : IvM (fun j => sg2 (gw_p [34, 35, 36, 37, 38, 39, 40, 41, 42, 43, 44, 45, 46] j)) := h.to e1 e2
theorem IvM.back {sg1 sg2 : Nat → Nat → Int32} {n : Nat} (h : IvM sg1) (h1 : ∀ j, j < n → sg2 (gw_p [34, 35, 36, 37, 38, 39, 40, 41, 42, 43, 44, 45, 46] j) = sg1 j) (hn : 3 < n := by decide) : IvM (fun j => sg2 (gw_p [34, 35, 36, 37, 38, 39, 40, 41, 42, 43, 44, 45, 46] j)) := h.to (h1 0 (by omega)) (h1 3 hn)
theorem law_link {sg sg2 sg3 sg1 : Nat → Nat → Int32} {k : Int32} (e1 : sg3 1 = sg2 1) (f34 : sg3 34 = sg1 0) (e34 : sg2 34 = sg 34) (hl : sg 1 9 = sg 34 3) (hc : sg1 0 0 = k)
    (ho : k = nI 0 → sg2 1 9 = sg 1 9 + 1) (hn : ¬ k = nI 0 → sg2 1 9 = sg 1 9) (mo : sg1 0 0 = nI 0 → sg1 0 3 = sg2 34 3 + 1) (mn : ¬ sg1 0 0 = nI 0 → sg1 0 3 = sg2 34 3) : sg3 1 9 = sg3 34 3 := by
  rw [e1, f34]
  by_cases h : k = nI 0
  · rw [ho h, mo (hc.trans h), e34, hl]
  · rw [hn h, mn (fun q => h (hc.symm.trans q)), e34, hl]
theorem law_in {L i : Nat} (hL : L ≤ 2560) (hi : i ≤ 2560) (h : ¬ (Int32.ofNat L - nI 5 < nI i)) : i + 5 ≤ L := by
  by_cases h5 : 5 ≤ L
  · have e : Int32.ofNat L - nI 5 = nI (L - 5) := by
      obtain ⟨k, rfl⟩ : ∃ k, L = k + 5 := ⟨L - 5, by omega⟩
      show nI (k + 5) - nI 5 = nI (k + 5 - 5)
      rw [show k + 5 - 5 = k by omega, ← nI_add, Int32.add_sub_cancel]
    rw [e] at h
    have h2 : ¬ (L - 5 < i) := fun q => h ((nI_ltI (by omega) (by omega)).mpr q)
    omega
  · exfalso
    apply h
    rw [Int32.lt_iff_toInt_lt, nI_toInt (show i < 2 ^ 31 by omega)]
    rcases (show L = 0 ∨ L = 1 ∨ L = 2 ∨ L = 3 ∨ L = 4 by omega) with rfl | rfl | rfl | rfl | rfl
    · have : (Int32.ofNat 0 - nI 5).toInt = -5 := by decide
      omega
    · have : (Int32.ofNat 1 - nI 5).toInt = -4 := by decide
      omega
    · have : (Int32.ofNat 2 - nI 5).toInt = -3 := by decide
      omega
    · have : (Int32.ofNat 3 - nI 5).toInt = -2 := by decide
      omega
    · have : (Int32.ofNat 4 - nI 5).toInt = -1 := by decide
      omega
theorem law_fresh : LI frL := by
  refine ⟨⟨⟨0, by decide, rfl⟩, fun i _ => ⟨0, by decide, rfl⟩⟩, ⟨⟨0, by decide, rfl⟩, fun i _ => ⟨0, by decide, rfl⟩, Or.inl rfl, Or.inl rfl⟩, rfl⟩
set_option maxRecDepth 100000 in
set_option maxHeartbeats 4000000 in
theorem law_out {p : Program} {e : Env} {s : State} {m : MethodId} {below : List Frame} {meth : Method} {c : Code} (l : Launch) (hl9 : l.stackTraces = false) {b L : Nat} {xs : Nat → Int32} (C0 : lw_At p s m meth c b L xs) (D : va_G) (cI : ClassId) (cJ : ClassId × ClassId) (ad : Nat → Nat) (hK : va_K D vwCl (tyS cI cJ) s) (hE : gc_ex gxT gxN (fun q : Nat => s.heap.size ≤ q) s s.heap) {H : Heap} {locs : List Loc} {pc : Nat} {ls : Array Slot} {k n : Nat} (hk : k ≤ 674287) (hn : n ≤ 7073243) (hS : va_S (fun q : Nat => s.heap.size ≤ q) s.heap H locs) (hd0 : decode code pc = .ok (.iconst 1, 1)) (hd1 : decode code (pc + 1) = .ok (.ireturn, 1)) : W p l e room_1 s m #[Value.ref b] below meth c H locs k n (lw_Z below #[Value.ref b] s) (F0 m pc ls []) := by
  obtain ⟨hx, hb, hr, hml, hown, hts, hX, hbl, hlocks, hgv⟩ := id C0
  refine va_forget (fun q hq => hS.2.2 q hq) ?_
  refine W.widen (k := 674287) (n := 7073243) hk hn ?_
  refine lv_iconst (v := 1) hx hb hd0 (by decide) ?_
  exact lw_ret hx hb hr hlocks hd1
set_option maxRecDepth 100000 in
set_option maxHeartbeats 4000000 in
theorem law_logs {p : Program} {e : Env} {s : State} {m : MethodId} {below : List Frame} {meth : Method} {c : Code} (l : Launch) (hl9 : l.stackTraces = false) {b L : Nat} {xs : Nat → Int32} (C0 : lw_At p s m meth c b L xs) (D : va_G) (cI : ClassId) (cJ : ClassId × ClassId) (ad : Nat → Nat) (hK : va_K D vwCl (tyS cI cJ) s) (hE : gc_ex gxT gxN (fun q : Nat => s.heap.size ≤ q) s s.heap) {Q : State → Prop} {i k n : Nat} (hi : i + 5 ≤ L) (hL : L ≤ 2560) (hk8 : k ≤ 4143) (hn8 : n ≤ 24864) {sg : Nat → Nat → Int32} {H : Heap} {locs : List Loc} {ls : Array Slot} (hJ : LI sg) (hP : va_P D vwCl (gw cI cJ ad sg SL) H) (hD : va_D (fun q : Nat => s.heap.size ≤ q) (gw cI cJ ad sg SL)) (hS : va_S (fun q : Nat => s.heap.size ≤ q) s.heap H locs) (hl : lv_has ls 7 [(0, .ref b), (1, .ref (ad 0)), (2, .ref (ad 34)), (3, .ref (ad 33)), (4, .int (nI i))]) (hnext : ∀ (sg2 : Nat → Nat → Int32) (H2 : Heap) (locs2 : List Loc) (ls2 : Array Slot), LI sg2 → va_P D vwCl (gw cI cJ ad sg2 SL) H2 → va_D (fun q : Nat => s.heap.size ≤ q) (gw cI cJ ad sg2 SL) → va_S (fun q : Nat => s.heap.size ≤ q) s.heap H2 locs2 → lv_has ls2 7 [(0, .ref b), (1, .ref (ad 0)), (2, .ref (ad 34)), (3, .ref (ad 33)), (4, .int (nI i))] → W p l e room_1 s m #[Value.ref b] below meth c H2 locs2 (k + 8) (n + 48) Q (F0 m 592 ls2 [])) : W p l e room_1 s m #[Value.ref b] below meth c H locs k n Q (F0 m 104 ls []) := by
  obtain ⟨hx, hb, hr, hml, hown, hts, hX, hbl, hlocks, hgv⟩ := id C0
  have hown : s.vm.findClass RL = some m.cls := hown
  have hts : ∀ w ∈ wsAll, w.before #[Value.ref b] s = true := fun w h => hts w (List.mem_filter.mp h).1
  have hA : ∀ q : Nat, s.heap.size ≤ q → (fun q : Nat => s.heap.size ≤ q) q := fun _ h => h
  have hbA : ¬ (fun q : Nat => s.heap.size ≤ q) b := Nat.not_le.mpr hbl
  have hrc : 4243 ≤ room_1.cells := by decide
  have hrs : 25864 ≤ room_1.slots := by decide
  refine lv_aload_n hx hb dL_law_104 rfl (lv_at hl 1 rfl) ?_
  refine lv_aload_n hx hb dL_law_105 rfl (lv_at hl 0 rfl) ?_
  refine lv_iload hx hb dL_law_106 (lv_at hl 4 rfl) ?_
  refine lv_iconst (v := (nI 1)) hx hb dL_law_108 (by decide) ?_
  refine lv_iadd hx hb dL_law_109 ?_
  refine gw_top (y := (nI (i + 1))) (nI_add _ _) ?_
  refine va_sld hx hb hX hbl hbA hS (vp_in_nI (n := i + 1) (N := L) (by omega) (by omega)) dL_law_110 ?_
  refine gw_top (y := xs (i + 1)) (by rw [nI_clamp (by omega)]) ?_
  refine lv_aload_n hx hb dL_law_111 rfl (lv_at hl 0 rfl) ?_
  refine lv_iload hx hb dL_law_112 (lv_at hl 4 rfl) ?_
  refine lv_iconst (v := (nI 2)) hx hb dL_law_114 (by decide) ?_
  refine lv_iadd hx hb dL_law_115 ?_
  refine gw_top (y := (nI (i + 2))) (nI_add _ _) ?_
  refine va_sld hx hb hX hbl hbA hS (vp_in_nI (n := i + 2) (N := L) (by omega) (by omega)) dL_law_116 ?_
  refine gw_top (y := xs (i + 2)) (by rw [nI_clamp (by omega)]) ?_
  refine lv_aload_n hx hb dL_law_117 rfl (lv_at hl 0 rfl) ?_
  refine lv_iload hx hb dL_law_118 (lv_at hl 4 rfl) ?_
  refine lv_iconst (v := (nI 3)) hx hb dL_law_120 (by decide) ?_
  refine lv_iadd hx hb dL_law_121 ?_
  refine gw_top (y := (nI (i + 3))) (nI_add _ _) ?_
  refine va_sld hx hb hX hbl hbA hS (vp_in_nI (n := i + 3) (N := L) (by omega) (by omega)) dL_law_122 ?_
  refine gw_top (y := xs (i + 3)) (by rw [nI_clamp (by omega)]) ?_
  refine gc_go (pl := [0, 1, 2, 3, 4, 5, 6, 7, 8, 9, 10, 11, 12, 13, 14, 15, 16, 17, 18, 19, 20, 21, 22, 23, 24, 25, 26, 27, 28, 29, 30, 31, 32, 33]) (S2 := SW) (ad := ad) (sg := sg) (vx_runSW (As := [.ref (ad 0), .int (xs (i + 1)), .int (xs (i + 2)), .int (xs (i + 3))]) (rest := []) ⟨hx, hb, hml, hown, hts⟩ (m_L_logs l hl9 D cI cJ (fun j => ad (gw_p [0, 1, 2, 3, 4, 5, 6, 7, 8, 9, 10, 11, 12, 13, 14, 15, 16, 17, 18, 19, 20, 21, 22, 23, 24, 25, 26, 27, 28, 29, 30, 31, 32, 33] j)) (fun j => sg (gw_p [0, 1, 2, 3, 4, 5, 6, 7, 8, 9, 10, 11, 12, 13, 14, 15, 16, 17, 18, 19, 20, 21, 22, 23, 24, 25, 26, 27, 28, 29, 30, 31, 32, 33] j)) _ (xs (i + 1)) (xs (i + 2)) (xs (i + 3)) hJ.1) (vx_cwSW 4 hts (gwSW a271 a272 a273 a274) rfl rfl rfl (by decide +kernel) ⟨by decide, by decide⟩) (gc_preS hK hP hD hS hA hE rfl) rfl rfl hl.1 rfl (lv_room (Nat.le_of_ble_eq_true rfl)) dL_law_123 ⟨by omega, by omega⟩) hP hD hS hA rfl (fun v1 sp2 sg3 H locs hp4 ha5 hb6 hP hD hS => ?_)
  obtain ⟨hk1, rfl⟩ := hp4
  have hk : KG 1 9 6 sg sg3 := KG.back (y := 1) (c := 6) hk1 ha5 (by decide) (by decide)
  have hG := hk.1
  have e34 : sg3 34 = sg 34 := hb6 34 (by decide)
  have e37 : sg3 37 = sg 37 := hb6 37 (by decide)
  have hM := IvM.cong hJ.2.1 e34 e37
  have hln : sg3 1 9 = sg3 34 3 := by rw [e34]; exact hk.2.trans hJ.2.2
  refine W.eq (g2 := F0 m 126 ls [.int (kLogs (xs (i + 1)) (xs (i + 2)) (xs (i + 3)))]) rfl ?_
  refine lv_istore (lv' := [(5, .int (kLogs (xs (i + 1)) (xs (i + 2)) (xs (i + 3)))), (0, .ref b), (1, .ref (ad 0)), (2, .ref (ad 34)), (3, .ref (ad 33)), (4, .int (nI i))]) hx hb dL_law_126 hl (by decide) rfl (fun ls hl => ?_)
  refine lv_aload_n hx hb dL_law_128 rfl (lv_at hl 3 rfl) ?_
  refine lv_aload_n hx hb dL_law_129 rfl (lv_at hl 1 rfl) ?_
  refine lv_iload hx hb dL_law_130 (lv_at hl 5 rfl) ?_
  refine lv_iconst (v := (nI 1)) hx hb dL_law_132 (by decide) ?_
  refine lv_iadd hx hb dL_law_133 ?_
  refine gw_top (y := (nI (i + 1))) (nI_add _ _) ?_
  refine va_sld hx hb hX hbl hbA hS (vp_in_nI (n := i + 1) (N := L) (by omega) (by omega)) dL_law_134 ?_
  refine gw_top (y := xs (i + 1)) (by rw [nI_clamp (by omega)]) ?_
  refine lv_aload_n hx hb dL_law_135 rfl (lv_at hl 1 rfl) ?_
  refine lv_iload hx hb dL_law_136 (lv_at hl 5 rfl) ?_
  refine lv_iconst (v := (nI 2)) hx hb dL_law_138 (by decide) ?_
  refine lv_iadd hx hb dL_law_139 ?_
  refine gw_top (y := (nI (i + 2))) (nI_add _ _) ?_
  refine va_sld hx hb hX hbl hbA hS (vp_in_nI (n := i + 2) (N := L) (by omega) (by omega)) dL_law_140 ?_
  refine gw_top (y := xs (i + 2)) (by rw [nI_clamp (by omega)]) ?_
  refine lv_aload_n hx hb dL_law_141 rfl (lv_at hl 1 rfl) ?_
  refine lv_iload hx hb dL_law_142 (lv_at hl 5 rfl) ?_
  refine lv_iconst (v := (nI 3)) hx hb dL_law_144 (by decide) ?_
  refine lv_iadd hx hb dL_law_145 ?_
  refine gw_top (y := (nI (i + 3))) (nI_add _ _) ?_
  refine va_sld hx hb hX hbl hbA hS (vp_in_nI (n := i + 3) (N := L) (by omega) (by omega)) dL_law_146 ?_
  refine gw_top (y := xs (i + 3)) (by rw [nI_clamp (by omega)]) ?_
  refine gc_go (pl := [34, 35, 36, 37, 38, 39, 40, 41, 42, 43, 44, 45, 46]) (S2 := SM) (ad := ad) (sg := sg3) (va_runV (As := [.int (xs (i + 1)), .int (xs (i + 2)), .int (xs (i + 3))]) (rest := []) ⟨hx, hb, hml, hown, hts⟩ (m_X3_logs l hl9 D cI cJ (fun j => ad (gw_p [34, 35, 36, 37, 38, 39, 40, 41, 42, 43, 44, 45, 46] j)) (fun j => sg3 (gw_p [34, 35, 36, 37, 38, 39, 40, 41, 42, 43, 44, 45, 46] j)) _ (xs (i + 1)) (xs (i + 2)) (xs (i + 3)) hM) (cwV 3 hts (gwV a275 a276 a277 a135 a278) rfl rfl rfl (by decide +kernel) ⟨by decide, by decide⟩) (gc_preV hK hP hD hS hA hE rfl rfl rfl rfl) rfl rfl hl.1 rfl (lv_room (Nat.le_of_ble_eq_true rfl)) dL_law_147 ⟨by omega, by omega⟩) hP hD hS hA rfl (fun v8 sp9 sg10 H locs hp11 ha12 hb13 hP hD hS => ?_)
  obtain ⟨hk1, rfl, hc9⟩ := hp11
  have e1 : sg10 1 = sg3 1 := hb13 1 (by decide)
  have e6 : sg10 6 = sg3 6 := hb13 6 (by decide)
  have e33 : sg10 33 = sg3 33 := hb13 33 (by decide)
  have hG2 : IvG 1 9 6 sg10 := IvG.cong hG e1 e6
  have f34 : sg10 34 = sp9 0 := ha12 0 (by decide)
  have hM2 := IvM.back hk1.1 ha12
  have hln2 : sg10 1 9 = sg10 34 3 := by rw [e1, f34, hk1.2]; exact hln
  have hln := hln2
  have hc8 : sg10 34 0 = (kLogs (xs (i + 1)) (xs (i + 2)) (xs (i + 3))) := by rw [f34, hc9]
  refine W.eq (g2 := F0 m 150 ls []) rfl ?_
  refine lv_goto (tgt := 592) hx hb dL_law_150 (by decide) ?_
  refine W.widen (k := k + 8) (n := n + 48) (by omega) (by omega) ?_
  exact hnext _ _ _ _ ⟨hG2, hM2, hln⟩ hP hD hS (lv_sub hl [1, 2, 3, 4, 5] rfl)
set_option maxRecDepth 100000 in
set_option maxHeartbeats 4000000 in
theorem law_pattern {p : Program} {e : Env} {s : State} {m : MethodId} {below : List Frame} {meth : Method} {c : Code} (l : Launch) (hl9 : l.stackTraces = false) {b L : Nat} {xs : Nat → Int32} (C0 : lw_At p s m meth c b L xs) (D : va_G) (cI : ClassId) (cJ : ClassId × ClassId) (ad : Nat → Nat) (hK : va_K D vwCl (tyS cI cJ) s) (hE : gc_ex gxT gxN (fun q : Nat => s.heap.size ≤ q) s s.heap) {Q : State → Prop} {i k n : Nat} (hi : i + 5 ≤ L) (hL : L ≤ 2560) (hk8 : k ≤ 4143) (hn8 : n ≤ 24864) {sg : Nat → Nat → Int32} {H : Heap} {locs : List Loc} {ls : Array Slot} (hJ : LI sg) (hP : va_P D vwCl (gw cI cJ ad sg SL) H) (hD : va_D (fun q : Nat => s.heap.size ≤ q) (gw cI cJ ad sg SL)) (hS : va_S (fun q : Nat => s.heap.size ≤ q) s.heap H locs) (hl : lv_has ls 7 [(0, .ref b), (1, .ref (ad 0)), (2, .ref (ad 34)), (3, .ref (ad 33)), (4, .int (nI i))]) (hnext : ∀ (sg2 : Nat → Nat → Int32) (H2 : Heap) (locs2 : List Loc) (ls2 : Array Slot), LI sg2 → va_P D vwCl (gw cI cJ ad sg2 SL) H2 → va_D (fun q : Nat => s.heap.size ≤ q) (gw cI cJ ad sg2 SL) → va_S (fun q : Nat => s.heap.size ≤ q) s.heap H2 locs2 → lv_has ls2 7 [(0, .ref b), (1, .ref (ad 0)), (2, .ref (ad 34)), (3, .ref (ad 33)), (4, .int (nI i))] → W p l e room_1 s m #[Value.ref b] below meth c H2 locs2 (k + 8) (n + 48) Q (F0 m 592 ls2 [])) : W p l e room_1 s m #[Value.ref b] below meth c H locs k n Q (F0 m 153 ls []) := by
  obtain ⟨hx, hb, hr, hml, hown, hts, hX, hbl, hlocks, hgv⟩ := id C0
  have hown : s.vm.findClass RL = some m.cls := hown
  have hts : ∀ w ∈ wsAll, w.before #[Value.ref b] s = true := fun w h => hts w (List.mem_filter.mp h).1
  have hA : ∀ q : Nat, s.heap.size ≤ q → (fun q : Nat => s.heap.size ≤ q) q := fun _ h => h
  have hbA : ¬ (fun q : Nat => s.heap.size ≤ q) b := Nat.not_le.mpr hbl
  have hrc : 4243 ≤ room_1.cells := by decide
  have hrs : 25864 ≤ room_1.slots := by decide
  refine lv_aload_n hx hb dL_law_153 rfl (lv_at hl 1 rfl) ?_
  refine lv_aload_n hx hb dL_law_154 rfl (lv_at hl 0 rfl) ?_
  refine lv_iload hx hb dL_law_155 (lv_at hl 4 rfl) ?_
  refine lv_iconst (v := (nI 1)) hx hb dL_law_157 (by decide) ?_
  refine lv_iadd hx hb dL_law_158 ?_
  refine gw_top (y := (nI (i + 1))) (nI_add _ _) ?_
  refine va_sld hx hb hX hbl hbA hS (vp_in_nI (n := i + 1) (N := L) (by omega) (by omega)) dL_law_159 ?_
  refine gw_top (y := xs (i + 1)) (by rw [nI_clamp (by omega)]) ?_
  refine lv_aload_n hx hb dL_law_160 rfl (lv_at hl 0 rfl) ?_
  refine lv_iload hx hb dL_law_161 (lv_at hl 4 rfl) ?_
  refine lv_iconst (v := (nI 2)) hx hb dL_law_163 (by decide) ?_
  refine lv_iadd hx hb dL_law_164 ?_
  refine gw_top (y := (nI (i + 2))) (nI_add _ _) ?_
  refine va_sld hx hb hX hbl hbA hS (vp_in_nI (n := i + 2) (N := L) (by omega) (by omega)) dL_law_165 ?_
  refine gw_top (y := xs (i + 2)) (by rw [nI_clamp (by omega)]) ?_
  refine lv_aload_n hx hb dL_law_166 rfl (lv_at hl 3 rfl) ?_
  refine gc_go (pl := [0, 1, 2, 3, 4, 5, 6, 7, 8, 9, 10, 11, 12, 13, 14, 15, 16, 17, 18, 19, 20, 21, 22, 23, 24, 25, 26, 27, 28, 29, 30, 31, 32, 33]) (S2 := SW) (ad := ad) (sg := sg) (vx_runSW (As := [.ref (ad 0), .int (xs (i + 1)), .int (xs (i + 2)), .ref (ad 33)]) (rest := []) ⟨hx, hb, hml, hown, hts⟩ (m_L_pattern l hl9 D cI cJ (fun j => ad (gw_p [0, 1, 2, 3, 4, 5, 6, 7, 8, 9, 10, 11, 12, 13, 14, 15, 16, 17, 18, 19, 20, 21, 22, 23, 24, 25, 26, 27, 28, 29, 30, 31, 32, 33] j)) (fun j => sg (gw_p [0, 1, 2, 3, 4, 5, 6, 7, 8, 9, 10, 11, 12, 13, 14, 15, 16, 17, 18, 19, 20, 21, 22, 23, 24, 25, 26, 27, 28, 29, 30, 31, 32, 33] j)) _ (xs (i + 1)) (xs (i + 2)) hJ.1) (vx_cwSW 4 hts (gwSW a279 a280 a273 a281) rfl rfl rfl (by decide +kernel) ⟨by decide, by decide⟩) (gc_preS hK hP hD hS hA hE rfl) rfl rfl hl.1 rfl (lv_room (Nat.le_of_ble_eq_true rfl)) dL_law_167 ⟨by omega, by omega⟩) hP hD hS hA rfl (fun v1 sp2 sg3 H locs hp4 ha5 hb6 hP hD hS => ?_)
  obtain ⟨hI1, rfl, hpo, hpn⟩ := hp4
  have hG : IvG 1 9 6 sg3 := IvG.back (y := 1) (c := 6) hI1 ha5 (by decide) (by decide)
  have hpo : (kPattern (sg 1 9) (xs (i + 1)) (xs (i + 2))) = nI 0 → sg3 1 9 = sg 1 9 + 1 ∧ sg3 33 0 = sg 1 9 := fun h => ⟨(congrFun (ha5 1 (by decide)) _).trans (hpo h).1, (congrFun (ha5 33 (by decide)) _).trans (hpo h).2⟩
  have hpn : ¬ (kPattern (sg 1 9) (xs (i + 1)) (xs (i + 2))) = nI 0 → sg3 1 9 = sg 1 9 := fun h => (congrFun (ha5 1 (by decide)) _).trans (hpn h)
  have e34 : sg3 34 = sg 34 := hb6 34 (by decide)
  have e37 : sg3 37 = sg 37 := hb6 37 (by decide)
  have hM := IvM.cong hJ.2.1 e34 e37
  refine W.eq (g2 := F0 m 170 ls [.int (kPattern (sg 1 9) (xs (i + 1)) (xs (i + 2)))]) rfl ?_
  refine lv_istore (lv' := [(5, .int (kPattern (sg 1 9) (xs (i + 1)) (xs (i + 2)))), (0, .ref b), (1, .ref (ad 0)), (2, .ref (ad 34)), (3, .ref (ad 33)), (4, .int (nI i))]) hx hb dL_law_170 hl (by decide) rfl (fun ls hl => ?_)
  refine lv_aload_n hx hb dL_law_172 rfl (lv_at hl 3 rfl) ?_
  refine lv_aload_n hx hb dL_law_173 rfl (lv_at hl 1 rfl) ?_
  refine lv_iload hx hb dL_law_174 (lv_at hl 5 rfl) ?_
  refine lv_iconst (v := (nI 1)) hx hb dL_law_176 (by decide) ?_
  refine lv_iadd hx hb dL_law_177 ?_
  refine gw_top (y := (nI (i + 1))) (nI_add _ _) ?_
  refine va_sld hx hb hX hbl hbA hS (vp_in_nI (n := i + 1) (N := L) (by omega) (by omega)) dL_law_178 ?_
  refine gw_top (y := xs (i + 1)) (by rw [nI_clamp (by omega)]) ?_
  refine lv_aload_n hx hb dL_law_179 rfl (lv_at hl 1 rfl) ?_
  refine lv_iload hx hb dL_law_180 (lv_at hl 5 rfl) ?_
  refine lv_iconst (v := (nI 2)) hx hb dL_law_182 (by decide) ?_
  refine lv_iadd hx hb dL_law_183 ?_
  refine gw_top (y := (nI (i + 2))) (nI_add _ _) ?_
  refine va_sld hx hb hX hbl hbA hS (vp_in_nI (n := i + 2) (N := L) (by omega) (by omega)) dL_law_184 ?_
  refine gw_top (y := xs (i + 2)) (by rw [nI_clamp (by omega)]) ?_
  refine gc_go (pl := [34, 35, 36, 37, 38, 39, 40, 41, 42, 43, 44, 45, 46]) (S2 := SM) (ad := ad) (sg := sg3) (va_runV (As := [.int (xs (i + 1)), .int (xs (i + 2))]) (rest := []) ⟨hx, hb, hml, hown, hts⟩ (m_X3_pattern l hl9 D cI cJ (fun j => ad (gw_p [34, 35, 36, 37, 38, 39, 40, 41, 42, 43, 44, 45, 46] j)) (fun j => sg3 (gw_p [34, 35, 36, 37, 38, 39, 40, 41, 42, 43, 44, 45, 46] j)) _ (xs (i + 1)) (xs (i + 2)) hM) (cwV 2 hts (gwV a282 a283 a284 a135 a285) rfl rfl rfl (by decide +kernel) ⟨by decide, by decide⟩) (gc_preV hK hP hD hS hA hE rfl rfl rfl rfl) rfl rfl hl.1 rfl (lv_room (Nat.le_of_ble_eq_true rfl)) dL_law_185 ⟨by omega, by omega⟩) hP hD hS hA rfl (fun v8 sp9 sg10 H locs hp11 ha12 hb13 hP hD hS => ?_)
  obtain ⟨hM1, hc9, hmo, hmn, r14, rfl⟩ := hp11
  have e1 : sg10 1 = sg3 1 := hb13 1 (by decide)
  have e6 : sg10 6 = sg3 6 := hb13 6 (by decide)
  have e33 : sg10 33 = sg3 33 := hb13 33 (by decide)
  have hG2 : IvG 1 9 6 sg10 := IvG.cong hG e1 e6
  have f34 : sg10 34 = sp9 0 := ha12 0 (by decide)
  have hM2 := IvM.back hM1 ha12
  have hc9 : sp9 0 0 = (kPattern (sg 1 9) (xs (i + 1)) (xs (i + 2))) := by rw [hc9]; show kPattern (sg3 34 3) _ _ = kPattern (sg 1 9) _ _; rw [e34, hJ.2.2]
  have hc8 : sg10 34 0 = (kPattern (sg 1 9) (xs (i + 1)) (xs (i + 2))) := by rw [f34]; exact hc9
  have hln : sg10 1 9 = sg10 34 3 := law_link  e1 f34 e34 hJ.2.2 hc9 (fun h => (hpo h).1) hpn (fun h => (hmo h).2) hmn
  have hv : (kPattern (sg 1 9) (xs (i + 1)) (xs (i + 2))) = nI 0 → r14 = sg 1 9 ∧ sg10 33 0 = sg 1 9 := fun h => ⟨(Value.int.inj (Option.some.inj (hmo (hc9.trans h)).1)).trans (show sg3 34 3 = sg 1 9 by rw [e34]; exact hJ.2.2.symm), by rw [e33]; exact (hpo h).2⟩
  refine W.eq (g2 := F0 m 188 ls [.int r14]) rfl ?_
  refine lv_istore (lv' := [(6, .int r14), (5, .int (kPattern (sg 1 9) (xs (i + 1)) (xs (i + 2)))), (0, .ref b), (1, .ref (ad 0)), (2, .ref (ad 34)), (3, .ref (ad 33)), (4, .int (nI i))]) hx hb dL_law_188 hl (by decide) rfl (fun ls hl => ?_)
  refine lv_aload_n hx hb dL_law_190 rfl (lv_at hl 4 rfl) ?_
  refine gc_go (pl := [34, 35, 36, 37, 38, 39, 40, 41, 42, 43, 44, 45, 46]) (S2 := SM) (ad := ad) (sg := sg10) (va_runV (As := []) (rest := []) ⟨hx, hb, hml, hown, hts⟩ (m_X3_thrown l hl9 D cI cJ (fun j => ad (gw_p [34, 35, 36, 37, 38, 39, 40, 41, 42, 43, 44, 45, 46] j)) (fun j => sg10 (gw_p [34, 35, 36, 37, 38, 39, 40, 41, 42, 43, 44, 45, 46] j)) _  ) (cwV 0 hts (gwV a286 a287 a288 a135 a289) rfl rfl rfl (by decide +kernel) ⟨by decide, by decide⟩) (gc_preV hK hP hD hS hA hE rfl rfl rfl rfl) rfl rfl hl.1 rfl (lv_room (Nat.le_of_ble_eq_true rfl)) dL_law_191 ⟨by omega, by omega⟩) hP hD hS hA rfl (fun v15 sp16 sg17 H locs hp18 ha19 hb20 hP hD hS => ?_)
  obtain ⟨rfl, hs9⟩ := hp18
  rw [gw_same hs9 ha19 hb20 rfl] at hP hD
  refine W.eq (g2 := F0 m 194 ls [.int (kPattern (sg 1 9) (xs (i + 1)) (xs (i + 2)))]) (by show F0 m _ ls (Value.int (sg10 34 0) :: _) = _; rw [hc8]; rfl) ?_
  refine lv_iload hx hb dL_law_194 (lv_at hl 1 rfl) ?_
  refine lv_icmp_eq (tgt := 201) hx hb dL_law_196 (by decide) (fun hc21 => ?_) (fun hc21 => ?_)
  · refine lv_iload hx hb dL_law_201 (lv_at hl 1 rfl) ?_
    refine lv_if_ne (tgt := 218) hx hb dL_law_203 (by decide) (fun hk0 => ?_) (fun hk0 => ?_)
    · refine lv_goto (tgt := 592) hx hb dL_law_218 (by decide) ?_
      refine W.widen (k := k + 8) (n := n + 48) (by omega) (by omega) ?_
      exact hnext _ _ _ _ ⟨hG2, hM2, hln⟩ hP hD hS (lv_sub hl [2, 3, 4, 5, 6] rfl)
    · refine lv_aload_n hx hb dL_law_206 rfl (lv_at hl 5 rfl) ?_
      refine lv_iconst (v := (nI 0)) hx hb dL_law_207 (by decide) ?_
      have hv9 := hv (hk0.trans nI_0.symm)
      refine gw_lald hx hb hK hP 33 2 (n := 1) rfl rfl (i := 0) (by decide) (by decide) dL_law_208 ?_
      rw [hv9.2]
      refine lv_iload hx hb dL_law_209 (lv_at hl 0 rfl) ?_
      refine lv_i2l hx hb dL_law_211 rfl ?_
      rw [hv9.1]
      refine W.lcmp hx hb dL_law_212 ?_
      refine gw_top (y := nI 0) (by simp [lg_cmp]; rfl) ?_
      refine lv_if_eq (tgt := 218) hx hb dL_law_213 (by decide) (fun hc22 => ?_) (fun hc22 => ?_)
      · refine lv_goto (tgt := 592) hx hb dL_law_218 (by decide) ?_
        refine W.widen (k := k + 8) (n := n + 48) (by omega) (by omega) ?_
        exact hnext _ _ _ _ ⟨hG2, hM2, hln⟩ hP hD hS (lv_sub hl [2, 3, 4, 5, 6] rfl)
      · exact absurd hc22 (by decide)
  · exact absurd rfl hc21
set_option maxRecDepth 100000 in
set_option maxHeartbeats 4000000 in
theorem law_gives {p : Program} {e : Env} {s : State} {m : MethodId} {below : List Frame} {meth : Method} {c : Code} (l : Launch) (hl9 : l.stackTraces = false) {b L : Nat} {xs : Nat → Int32} (C0 : lw_At p s m meth c b L xs) (D : va_G) (cI : ClassId) (cJ : ClassId × ClassId) (ad : Nat → Nat) (hK : va_K D vwCl (tyS cI cJ) s) (hE : gc_ex gxT gxN (fun q : Nat => s.heap.size ≤ q) s s.heap) {Q : State → Prop} {i k n : Nat} (hi : i + 5 ≤ L) (hL : L ≤ 2560) (hk8 : k ≤ 4143) (hn8 : n ≤ 24864) {sg : Nat → Nat → Int32} {H : Heap} {locs : List Loc} {ls : Array Slot} (hJ : LI sg) (hP : va_P D vwCl (gw cI cJ ad sg SL) H) (hD : va_D (fun q : Nat => s.heap.size ≤ q) (gw cI cJ ad sg SL)) (hS : va_S (fun q : Nat => s.heap.size ≤ q) s.heap H locs) (hl : lv_has ls 7 [(0, .ref b), (1, .ref (ad 0)), (2, .ref (ad 34)), (3, .ref (ad 33)), (4, .int (nI i))]) (hnext : ∀ (sg2 : Nat → Nat → Int32) (H2 : Heap) (locs2 : List Loc) (ls2 : Array Slot), LI sg2 → va_P D vwCl (gw cI cJ ad sg2 SL) H2 → va_D (fun q : Nat => s.heap.size ≤ q) (gw cI cJ ad sg2 SL) → va_S (fun q : Nat => s.heap.size ≤ q) s.heap H2 locs2 → lv_has ls2 7 [(0, .ref b), (1, .ref (ad 0)), (2, .ref (ad 34)), (3, .ref (ad 33)), (4, .int (nI i))] → W p l e room_1 s m #[Value.ref b] below meth c H2 locs2 (k + 8) (n + 48) Q (F0 m 592 ls2 [])) : W p l e room_1 s m #[Value.ref b] below meth c H locs k n Q (F0 m 221 ls []) := by
  obtain ⟨hx, hb, hr, hml, hown, hts, hX, hbl, hlocks, hgv⟩ := id C0
  have hown : s.vm.findClass RL = some m.cls := hown
  have hts : ∀ w ∈ wsAll, w.before #[Value.ref b] s = true := fun w h => hts w (List.mem_filter.mp h).1
  have hA : ∀ q : Nat, s.heap.size ≤ q → (fun q : Nat => s.heap.size ≤ q) q := fun _ h => h
  have hbA : ¬ (fun q : Nat => s.heap.size ≤ q) b := Nat.not_le.mpr hbl
  have hrc : 4243 ≤ room_1.cells := by decide
  have hrs : 25864 ≤ room_1.slots := by decide
  refine lv_aload_n hx hb dL_law_221 rfl (lv_at hl 1 rfl) ?_
  refine lv_aload_n hx hb dL_law_222 rfl (lv_at hl 0 rfl) ?_
  refine lv_iload hx hb dL_law_223 (lv_at hl 4 rfl) ?_
  refine lv_iconst (v := (nI 1)) hx hb dL_law_225 (by decide) ?_
  refine lv_iadd hx hb dL_law_226 ?_
  refine gw_top (y := (nI (i + 1))) (nI_add _ _) ?_
  refine va_sld hx hb hX hbl hbA hS (vp_in_nI (n := i + 1) (N := L) (by omega) (by omega)) dL_law_227 ?_
  refine gw_top (y := xs (i + 1)) (by rw [nI_clamp (by omega)]) ?_
  refine lv_aload_n hx hb dL_law_228 rfl (lv_at hl 0 rfl) ?_
  refine lv_iload hx hb dL_law_229 (lv_at hl 4 rfl) ?_
  refine lv_iconst (v := (nI 2)) hx hb dL_law_231 (by decide) ?_
  refine lv_iadd hx hb dL_law_232 ?_
  refine gw_top (y := (nI (i + 2))) (nI_add _ _) ?_
  refine va_sld hx hb hX hbl hbA hS (vp_in_nI (n := i + 2) (N := L) (by omega) (by omega)) dL_law_233 ?_
  refine gw_top (y := xs (i + 2)) (by rw [nI_clamp (by omega)]) ?_
  refine lv_aload_n hx hb dL_law_234 rfl (lv_at hl 0 rfl) ?_
  refine lv_iload hx hb dL_law_235 (lv_at hl 4 rfl) ?_
  refine lv_iconst (v := (nI 3)) hx hb dL_law_237 (by decide) ?_
  refine lv_iadd hx hb dL_law_238 ?_
  refine gw_top (y := (nI (i + 3))) (nI_add _ _) ?_
  refine va_sld hx hb hX hbl hbA hS (vp_in_nI (n := i + 3) (N := L) (by omega) (by omega)) dL_law_239 ?_
  refine gw_top (y := xs (i + 3)) (by rw [nI_clamp (by omega)]) ?_
  refine gc_go (pl := [0, 1, 2, 3, 4, 5, 6, 7, 8, 9, 10, 11, 12, 13, 14, 15, 16, 17, 18, 19, 20, 21, 22, 23, 24, 25, 26, 27, 28, 29, 30, 31, 32, 33]) (S2 := SW) (ad := ad) (sg := sg) (vx_runSW (As := [.ref (ad 0), .int (xs (i + 1)), .int (xs (i + 2)), .int (xs (i + 3))]) (rest := []) ⟨hx, hb, hml, hown, hts⟩ (m_L_gives l hl9 D cI cJ (fun j => ad (gw_p [0, 1, 2, 3, 4, 5, 6, 7, 8, 9, 10, 11, 12, 13, 14, 15, 16, 17, 18, 19, 20, 21, 22, 23, 24, 25, 26, 27, 28, 29, 30, 31, 32, 33] j)) (fun j => sg (gw_p [0, 1, 2, 3, 4, 5, 6, 7, 8, 9, 10, 11, 12, 13, 14, 15, 16, 17, 18, 19, 20, 21, 22, 23, 24, 25, 26, 27, 28, 29, 30, 31, 32, 33] j)) _ (xs (i + 1)) (xs (i + 2)) (xs (i + 3)) hJ.1) (vx_cwSW 4 hts (gwSW a290 a291 a273 a292) rfl rfl rfl (by decide +kernel) ⟨by decide, by decide⟩) (gc_preS hK hP hD hS hA hE rfl) rfl rfl hl.1 rfl (lv_room (Nat.le_of_ble_eq_true rfl)) dL_law_240 ⟨by omega, by omega⟩) hP hD hS hA rfl (fun v1 sp2 sg3 H locs hp4 ha5 hb6 hP hD hS => ?_)
  obtain ⟨hk1, rfl⟩ := hp4
  have hk : KG 1 9 6 sg sg3 := KG.back (y := 1) (c := 6) hk1 ha5 (by decide) (by decide)
  have hG := hk.1
  have e34 : sg3 34 = sg 34 := hb6 34 (by decide)
  have e37 : sg3 37 = sg 37 := hb6 37 (by decide)
  have hM := IvM.cong hJ.2.1 e34 e37
  have hln : sg3 1 9 = sg3 34 3 := by rw [e34]; exact hk.2.trans hJ.2.2
  refine W.eq (g2 := F0 m 243 ls [.int (kGives (sg 1 9) (xs (i + 1)) (xs (i + 2)) (xs (i + 3)))]) rfl ?_
  refine lv_istore (lv' := [(5, .int (kGives (sg 1 9) (xs (i + 1)) (xs (i + 2)) (xs (i + 3)))), (0, .ref b), (1, .ref (ad 0)), (2, .ref (ad 34)), (3, .ref (ad 33)), (4, .int (nI i))]) hx hb dL_law_243 hl (by decide) rfl (fun ls hl => ?_)
  refine lv_aload_n hx hb dL_law_245 rfl (lv_at hl 3 rfl) ?_
  refine lv_aload_n hx hb dL_law_246 rfl (lv_at hl 1 rfl) ?_
  refine lv_iload hx hb dL_law_247 (lv_at hl 5 rfl) ?_
  refine lv_iconst (v := (nI 1)) hx hb dL_law_249 (by decide) ?_
  refine lv_iadd hx hb dL_law_250 ?_
  refine gw_top (y := (nI (i + 1))) (nI_add _ _) ?_
  refine va_sld hx hb hX hbl hbA hS (vp_in_nI (n := i + 1) (N := L) (by omega) (by omega)) dL_law_251 ?_
  refine gw_top (y := xs (i + 1)) (by rw [nI_clamp (by omega)]) ?_
  refine lv_aload_n hx hb dL_law_252 rfl (lv_at hl 1 rfl) ?_
  refine lv_iload hx hb dL_law_253 (lv_at hl 5 rfl) ?_
  refine lv_iconst (v := (nI 2)) hx hb dL_law_255 (by decide) ?_
  refine lv_iadd hx hb dL_law_256 ?_
  refine gw_top (y := (nI (i + 2))) (nI_add _ _) ?_
  refine va_sld hx hb hX hbl hbA hS (vp_in_nI (n := i + 2) (N := L) (by omega) (by omega)) dL_law_257 ?_
  refine gw_top (y := xs (i + 2)) (by rw [nI_clamp (by omega)]) ?_
  refine lv_aload_n hx hb dL_law_258 rfl (lv_at hl 1 rfl) ?_
  refine lv_iload hx hb dL_law_259 (lv_at hl 5 rfl) ?_
  refine lv_iconst (v := (nI 3)) hx hb dL_law_261 (by decide) ?_
  refine lv_iadd hx hb dL_law_262 ?_
  refine gw_top (y := (nI (i + 3))) (nI_add _ _) ?_
  refine va_sld hx hb hX hbl hbA hS (vp_in_nI (n := i + 3) (N := L) (by omega) (by omega)) dL_law_263 ?_
  refine gw_top (y := xs (i + 3)) (by rw [nI_clamp (by omega)]) ?_
  refine gc_go (pl := [34, 35, 36, 37, 38, 39, 40, 41, 42, 43, 44, 45, 46]) (S2 := SM) (ad := ad) (sg := sg3) (va_runV (As := [.int (xs (i + 1)), .int (xs (i + 2)), .int (xs (i + 3))]) (rest := []) ⟨hx, hb, hml, hown, hts⟩ (m_X3_gives l hl9 D cI cJ (fun j => ad (gw_p [34, 35, 36, 37, 38, 39, 40, 41, 42, 43, 44, 45, 46] j)) (fun j => sg3 (gw_p [34, 35, 36, 37, 38, 39, 40, 41, 42, 43, 44, 45, 46] j)) _ (xs (i + 1)) (xs (i + 2)) (xs (i + 3)) hM) (cwV 3 hts (gwV a293 a294 a295 a135 a296) rfl rfl rfl (by decide +kernel) ⟨by decide, by decide⟩) (gc_preV hK hP hD hS hA hE rfl rfl rfl rfl) rfl rfl hl.1 rfl (lv_room (Nat.le_of_ble_eq_true rfl)) dL_law_264 ⟨by omega, by omega⟩) hP hD hS hA rfl (fun v8 sp9 sg10 H locs hp11 ha12 hb13 hP hD hS => ?_)
  obtain ⟨hk1, rfl, hc9⟩ := hp11
  have e1 : sg10 1 = sg3 1 := hb13 1 (by decide)
  have e6 : sg10 6 = sg3 6 := hb13 6 (by decide)
  have e33 : sg10 33 = sg3 33 := hb13 33 (by decide)
  have hG2 : IvG 1 9 6 sg10 := IvG.cong hG e1 e6
  have f34 : sg10 34 = sp9 0 := ha12 0 (by decide)
  have hM2 := IvM.back hk1.1 ha12
  have hln2 : sg10 1 9 = sg10 34 3 := by rw [e1, f34, hk1.2]; exact hln
  have hln := hln2
  have hc8 : sg10 34 0 = (kGives (sg 1 9) (xs (i + 1)) (xs (i + 2)) (xs (i + 3))) := by rw [f34, hc9]; show kGives (sg3 34 3) _ _ _ = _; rw [e34, hJ.2.2]
  refine W.eq (g2 := F0 m 267 ls []) rfl ?_
  refine lv_goto (tgt := 592) hx hb dL_law_267 (by decide) ?_
  refine W.widen (k := k + 8) (n := n + 48) (by omega) (by omega) ?_
  exact hnext _ _ _ _ ⟨hG2, hM2, hln⟩ hP hD hS (lv_sub hl [1, 2, 3, 4, 5] rfl)
set_option maxRecDepth 100000 in
set_option maxHeartbeats 4000000 in
theorem law_order {p : Program} {e : Env} {s : State} {m : MethodId} {below : List Frame} {meth : Method} {c : Code} (l : Launch) (hl9 : l.stackTraces = false) {b L : Nat} {xs : Nat → Int32} (C0 : lw_At p s m meth c b L xs) (D : va_G) (cI : ClassId) (cJ : ClassId × ClassId) (ad : Nat → Nat) (hK : va_K D vwCl (tyS cI cJ) s) (hE : gc_ex gxT gxN (fun q : Nat => s.heap.size ≤ q) s s.heap) {Q : State → Prop} {i k n : Nat} (hi : i + 5 ≤ L) (hL : L ≤ 2560) (hk8 : k ≤ 4143) (hn8 : n ≤ 24864) {sg : Nat → Nat → Int32} {H : Heap} {locs : List Loc} {ls : Array Slot} (hJ : LI sg) (hP : va_P D vwCl (gw cI cJ ad sg SL) H) (hD : va_D (fun q : Nat => s.heap.size ≤ q) (gw cI cJ ad sg SL)) (hS : va_S (fun q : Nat => s.heap.size ≤ q) s.heap H locs) (hl : lv_has ls 7 [(0, .ref b), (1, .ref (ad 0)), (2, .ref (ad 34)), (3, .ref (ad 33)), (4, .int (nI i))]) (hnext : ∀ (sg2 : Nat → Nat → Int32) (H2 : Heap) (locs2 : List Loc) (ls2 : Array Slot), LI sg2 → va_P D vwCl (gw cI cJ ad sg2 SL) H2 → va_D (fun q : Nat => s.heap.size ≤ q) (gw cI cJ ad sg2 SL) → va_S (fun q : Nat => s.heap.size ≤ q) s.heap H2 locs2 → lv_has ls2 7 [(0, .ref b), (1, .ref (ad 0)), (2, .ref (ad 34)), (3, .ref (ad 33)), (4, .int (nI i))] → W p l e room_1 s m #[Value.ref b] below meth c H2 locs2 (k + 8) (n + 48) Q (F0 m 592 ls2 [])) : W p l e room_1 s m #[Value.ref b] below meth c H locs k n Q (F0 m 270 ls []) := by
  obtain ⟨hx, hb, hr, hml, hown, hts, hX, hbl, hlocks, hgv⟩ := id C0
  have hown : s.vm.findClass RL = some m.cls := hown
  have hts : ∀ w ∈ wsAll, w.before #[Value.ref b] s = true := fun w h => hts w (List.mem_filter.mp h).1
  have hA : ∀ q : Nat, s.heap.size ≤ q → (fun q : Nat => s.heap.size ≤ q) q := fun _ h => h
  have hbA : ¬ (fun q : Nat => s.heap.size ≤ q) b := Nat.not_le.mpr hbl
  have hrc : 4243 ≤ room_1.cells := by decide
  have hrs : 25864 ≤ room_1.slots := by decide
  refine lv_aload_n hx hb dL_law_270 rfl (lv_at hl 1 rfl) ?_
  refine lv_aload_n hx hb dL_law_271 rfl (lv_at hl 0 rfl) ?_
  refine lv_iload hx hb dL_law_272 (lv_at hl 4 rfl) ?_
  refine lv_iconst (v := (nI 1)) hx hb dL_law_274 (by decide) ?_
  refine lv_iadd hx hb dL_law_275 ?_
  refine gw_top (y := (nI (i + 1))) (nI_add _ _) ?_
  refine va_sld hx hb hX hbl hbA hS (vp_in_nI (n := i + 1) (N := L) (by omega) (by omega)) dL_law_276 ?_
  refine gw_top (y := xs (i + 1)) (by rw [nI_clamp (by omega)]) ?_
  refine lv_aload_n hx hb dL_law_277 rfl (lv_at hl 0 rfl) ?_
  refine lv_iload hx hb dL_law_278 (lv_at hl 4 rfl) ?_
  refine lv_iconst (v := (nI 2)) hx hb dL_law_280 (by decide) ?_
  refine lv_iadd hx hb dL_law_281 ?_
  refine gw_top (y := (nI (i + 2))) (nI_add _ _) ?_
  refine va_sld hx hb hX hbl hbA hS (vp_in_nI (n := i + 2) (N := L) (by omega) (by omega)) dL_law_282 ?_
  refine gw_top (y := xs (i + 2)) (by rw [nI_clamp (by omega)]) ?_
  refine lv_aload_n hx hb dL_law_283 rfl (lv_at hl 0 rfl) ?_
  refine lv_iload hx hb dL_law_284 (lv_at hl 4 rfl) ?_
  refine lv_iconst (v := (nI 3)) hx hb dL_law_286 (by decide) ?_
  refine lv_iadd hx hb dL_law_287 ?_
  refine gw_top (y := (nI (i + 3))) (nI_add _ _) ?_
  refine va_sld hx hb hX hbl hbA hS (vp_in_nI (n := i + 3) (N := L) (by omega) (by omega)) dL_law_288 ?_
  refine gw_top (y := xs (i + 3)) (by rw [nI_clamp (by omega)]) ?_
  refine lv_aload_n hx hb dL_law_289 rfl (lv_at hl 0 rfl) ?_
  refine lv_iload hx hb dL_law_290 (lv_at hl 4 rfl) ?_
  refine lv_iconst (v := (nI 4)) hx hb dL_law_292 (by decide) ?_
  refine lv_iadd hx hb dL_law_293 ?_
  refine gw_top (y := (nI (i + 4))) (nI_add _ _) ?_
  refine va_sld hx hb hX hbl hbA hS (vp_in_nI (n := i + 4) (N := L) (by omega) (by omega)) dL_law_294 ?_
  refine gw_top (y := xs (i + 4)) (by rw [nI_clamp (by omega)]) ?_
  refine gc_go (pl := [0, 1, 2, 3, 4, 5, 6, 7, 8, 9, 10, 11, 12, 13, 14, 15, 16, 17, 18, 19, 20, 21, 22, 23, 24, 25, 26, 27, 28, 29, 30, 31, 32, 33]) (S2 := SW) (ad := ad) (sg := sg) (vx_runSW (As := [.ref (ad 0), .int (xs (i + 1)), .int (xs (i + 2)), .int (xs (i + 3)), .int (xs (i + 4))]) (rest := []) ⟨hx, hb, hml, hown, hts⟩ (m_L_order l hl9 D cI cJ (fun j => ad (gw_p [0, 1, 2, 3, 4, 5, 6, 7, 8, 9, 10, 11, 12, 13, 14, 15, 16, 17, 18, 19, 20, 21, 22, 23, 24, 25, 26, 27, 28, 29, 30, 31, 32, 33] j)) (fun j => sg (gw_p [0, 1, 2, 3, 4, 5, 6, 7, 8, 9, 10, 11, 12, 13, 14, 15, 16, 17, 18, 19, 20, 21, 22, 23, 24, 25, 26, 27, 28, 29, 30, 31, 32, 33] j)) _ (xs (i + 1)) (xs (i + 2)) (xs (i + 3)) (xs (i + 4)) hJ.1) (vx_cwSW 5 hts (gwSW a297 a298 a273 a299) rfl rfl rfl (by decide +kernel) ⟨by decide, by decide⟩) (gc_preS hK hP hD hS hA hE rfl) rfl rfl hl.1 rfl (lv_room (Nat.le_of_ble_eq_true rfl)) dL_law_295 ⟨by omega, by omega⟩) hP hD hS hA rfl (fun v1 sp2 sg3 H locs hp4 ha5 hb6 hP hD hS => ?_)
  obtain ⟨hk1, rfl⟩ := hp4
  have hk : KG 1 9 6 sg sg3 := KG.back (y := 1) (c := 6) hk1 ha5 (by decide) (by decide)
  have hG := hk.1
  have e34 : sg3 34 = sg 34 := hb6 34 (by decide)
  have e37 : sg3 37 = sg 37 := hb6 37 (by decide)
  have hM := IvM.cong hJ.2.1 e34 e37
  have hln : sg3 1 9 = sg3 34 3 := by rw [e34]; exact hk.2.trans hJ.2.2
  refine W.eq (g2 := F0 m 298 ls [.int (kOrder (xs (i + 1)) (xs (i + 2)) (xs (i + 3)) (xs (i + 4)))]) rfl ?_
  refine lv_istore (lv' := [(5, .int (kOrder (xs (i + 1)) (xs (i + 2)) (xs (i + 3)) (xs (i + 4)))), (0, .ref b), (1, .ref (ad 0)), (2, .ref (ad 34)), (3, .ref (ad 33)), (4, .int (nI i))]) hx hb dL_law_298 hl (by decide) rfl (fun ls hl => ?_)
  refine lv_aload_n hx hb dL_law_300 rfl (lv_at hl 3 rfl) ?_
  refine lv_aload_n hx hb dL_law_301 rfl (lv_at hl 1 rfl) ?_
  refine lv_iload hx hb dL_law_302 (lv_at hl 5 rfl) ?_
  refine lv_iconst (v := (nI 1)) hx hb dL_law_304 (by decide) ?_
  refine lv_iadd hx hb dL_law_305 ?_
  refine gw_top (y := (nI (i + 1))) (nI_add _ _) ?_
  refine va_sld hx hb hX hbl hbA hS (vp_in_nI (n := i + 1) (N := L) (by omega) (by omega)) dL_law_306 ?_
  refine gw_top (y := xs (i + 1)) (by rw [nI_clamp (by omega)]) ?_
  refine lv_aload_n hx hb dL_law_307 rfl (lv_at hl 1 rfl) ?_
  refine lv_iload hx hb dL_law_308 (lv_at hl 5 rfl) ?_
  refine lv_iconst (v := (nI 2)) hx hb dL_law_310 (by decide) ?_
  refine lv_iadd hx hb dL_law_311 ?_
  refine gw_top (y := (nI (i + 2))) (nI_add _ _) ?_
  refine va_sld hx hb hX hbl hbA hS (vp_in_nI (n := i + 2) (N := L) (by omega) (by omega)) dL_law_312 ?_
  refine gw_top (y := xs (i + 2)) (by rw [nI_clamp (by omega)]) ?_
  refine lv_aload_n hx hb dL_law_313 rfl (lv_at hl 1 rfl) ?_
  refine lv_iload hx hb dL_law_314 (lv_at hl 5 rfl) ?_
  refine lv_iconst (v := (nI 3)) hx hb dL_law_316 (by decide) ?_
  refine lv_iadd hx hb dL_law_317 ?_
  refine gw_top (y := (nI (i + 3))) (nI_add _ _) ?_
  refine va_sld hx hb hX hbl hbA hS (vp_in_nI (n := i + 3) (N := L) (by omega) (by omega)) dL_law_318 ?_
  refine gw_top (y := xs (i + 3)) (by rw [nI_clamp (by omega)]) ?_
  refine lv_aload_n hx hb dL_law_319 rfl (lv_at hl 1 rfl) ?_
  refine lv_iload hx hb dL_law_320 (lv_at hl 5 rfl) ?_
  refine lv_iconst (v := (nI 4)) hx hb dL_law_322 (by decide) ?_
  refine lv_iadd hx hb dL_law_323 ?_
  refine gw_top (y := (nI (i + 4))) (nI_add _ _) ?_
  refine va_sld hx hb hX hbl hbA hS (vp_in_nI (n := i + 4) (N := L) (by omega) (by omega)) dL_law_324 ?_
  refine gw_top (y := xs (i + 4)) (by rw [nI_clamp (by omega)]) ?_
  refine gc_go (pl := [34, 35, 36, 37, 38, 39, 40, 41, 42, 43, 44, 45, 46]) (S2 := SM) (ad := ad) (sg := sg3) (va_runV (As := [.int (xs (i + 1)), .int (xs (i + 2)), .int (xs (i + 3)), .int (xs (i + 4))]) (rest := []) ⟨hx, hb, hml, hown, hts⟩ (m_X3_order l hl9 D cI cJ (fun j => ad (gw_p [34, 35, 36, 37, 38, 39, 40, 41, 42, 43, 44, 45, 46] j)) (fun j => sg3 (gw_p [34, 35, 36, 37, 38, 39, 40, 41, 42, 43, 44, 45, 46] j)) _ (xs (i + 1)) (xs (i + 2)) (xs (i + 3)) (xs (i + 4)) hM) (cwV 4 hts (gwV a300 a301 a302 a135 a303) rfl rfl rfl (by decide +kernel) ⟨by decide, by decide⟩) (gc_preV hK hP hD hS hA hE rfl rfl rfl rfl) rfl rfl hl.1 rfl (lv_room (Nat.le_of_ble_eq_true rfl)) dL_law_325 ⟨by omega, by omega⟩) hP hD hS hA rfl (fun v8 sp9 sg10 H locs hp11 ha12 hb13 hP hD hS => ?_)
  obtain ⟨hk1, rfl, hc9⟩ := hp11
  have e1 : sg10 1 = sg3 1 := hb13 1 (by decide)
  have e6 : sg10 6 = sg3 6 := hb13 6 (by decide)
  have e33 : sg10 33 = sg3 33 := hb13 33 (by decide)
  have hG2 : IvG 1 9 6 sg10 := IvG.cong hG e1 e6
  have f34 : sg10 34 = sp9 0 := ha12 0 (by decide)
  have hM2 := IvM.back hk1.1 ha12
  have hln2 : sg10 1 9 = sg10 34 3 := by rw [e1, f34, hk1.2]; exact hln
  have hln := hln2
  have hc8 : sg10 34 0 = (kOrder (xs (i + 1)) (xs (i + 2)) (xs (i + 3)) (xs (i + 4))) := by rw [f34, hc9]
  refine W.eq (g2 := F0 m 328 ls []) rfl ?_
  refine lv_goto (tgt := 592) hx hb dL_law_328 (by decide) ?_
  refine W.widen (k := k + 8) (n := n + 48) (by omega) (by omega) ?_
  exact hnext _ _ _ _ ⟨hG2, hM2, hln⟩ hP hD hS (lv_sub hl [1, 2, 3, 4, 5] rfl)
set_option maxRecDepth 100000 in
set_option maxHeartbeats 4000000 in
theorem law_hours {p : Program} {e : Env} {s : State} {m : MethodId} {below : List Frame} {meth : Method} {c : Code} (l : Launch) (hl9 : l.stackTraces = false) {b L : Nat} {xs : Nat → Int32} (C0 : lw_At p s m meth c b L xs) (D : va_G) (cI : ClassId) (cJ : ClassId × ClassId) (ad : Nat → Nat) (hK : va_K D vwCl (tyS cI cJ) s) (hE : gc_ex gxT gxN (fun q : Nat => s.heap.size ≤ q) s s.heap) {Q : State → Prop} {i k n : Nat} (hi : i + 5 ≤ L) (hL : L ≤ 2560) (hk8 : k ≤ 4143) (hn8 : n ≤ 24864) {sg : Nat → Nat → Int32} {H : Heap} {locs : List Loc} {ls : Array Slot} (hJ : LI sg) (hP : va_P D vwCl (gw cI cJ ad sg SL) H) (hD : va_D (fun q : Nat => s.heap.size ≤ q) (gw cI cJ ad sg SL)) (hS : va_S (fun q : Nat => s.heap.size ≤ q) s.heap H locs) (hl : lv_has ls 7 [(0, .ref b), (1, .ref (ad 0)), (2, .ref (ad 34)), (3, .ref (ad 33)), (4, .int (nI i))]) (hnext : ∀ (sg2 : Nat → Nat → Int32) (H2 : Heap) (locs2 : List Loc) (ls2 : Array Slot), LI sg2 → va_P D vwCl (gw cI cJ ad sg2 SL) H2 → va_D (fun q : Nat => s.heap.size ≤ q) (gw cI cJ ad sg2 SL) → va_S (fun q : Nat => s.heap.size ≤ q) s.heap H2 locs2 → lv_has ls2 7 [(0, .ref b), (1, .ref (ad 0)), (2, .ref (ad 34)), (3, .ref (ad 33)), (4, .int (nI i))] → W p l e room_1 s m #[Value.ref b] below meth c H2 locs2 (k + 8) (n + 48) Q (F0 m 592 ls2 [])) : W p l e room_1 s m #[Value.ref b] below meth c H locs k n Q (F0 m 331 ls []) := by
  obtain ⟨hx, hb, hr, hml, hown, hts, hX, hbl, hlocks, hgv⟩ := id C0
  have hown : s.vm.findClass RL = some m.cls := hown
  have hts : ∀ w ∈ wsAll, w.before #[Value.ref b] s = true := fun w h => hts w (List.mem_filter.mp h).1
  have hA : ∀ q : Nat, s.heap.size ≤ q → (fun q : Nat => s.heap.size ≤ q) q := fun _ h => h
  have hbA : ¬ (fun q : Nat => s.heap.size ≤ q) b := Nat.not_le.mpr hbl
  have hrc : 4243 ≤ room_1.cells := by decide
  have hrs : 25864 ≤ room_1.slots := by decide
  refine lv_aload_n hx hb dL_law_331 rfl (lv_at hl 1 rfl) ?_
  refine lv_aload_n hx hb dL_law_332 rfl (lv_at hl 0 rfl) ?_
  refine lv_iload hx hb dL_law_333 (lv_at hl 4 rfl) ?_
  refine lv_iconst (v := (nI 1)) hx hb dL_law_335 (by decide) ?_
  refine lv_iadd hx hb dL_law_336 ?_
  refine gw_top (y := (nI (i + 1))) (nI_add _ _) ?_
  refine va_sld hx hb hX hbl hbA hS (vp_in_nI (n := i + 1) (N := L) (by omega) (by omega)) dL_law_337 ?_
  refine gw_top (y := xs (i + 1)) (by rw [nI_clamp (by omega)]) ?_
  refine lv_aload_n hx hb dL_law_338 rfl (lv_at hl 0 rfl) ?_
  refine lv_iload hx hb dL_law_339 (lv_at hl 4 rfl) ?_
  refine lv_iconst (v := (nI 2)) hx hb dL_law_341 (by decide) ?_
  refine lv_iadd hx hb dL_law_342 ?_
  refine gw_top (y := (nI (i + 2))) (nI_add _ _) ?_
  refine va_sld hx hb hX hbl hbA hS (vp_in_nI (n := i + 2) (N := L) (by omega) (by omega)) dL_law_343 ?_
  refine gw_top (y := xs (i + 2)) (by rw [nI_clamp (by omega)]) ?_
  refine gc_go (pl := [0, 1, 2, 3, 4, 5, 6, 7, 8, 9, 10, 11, 12, 13, 14, 15, 16, 17, 18, 19, 20, 21, 22, 23, 24, 25, 26, 27, 28, 29, 30, 31, 32, 33]) (S2 := SW) (ad := ad) (sg := sg) (vx_runSW (As := [.ref (ad 0), .int (xs (i + 1)), .int (xs (i + 2))]) (rest := []) ⟨hx, hb, hml, hown, hts⟩ (m_L_hours l hl9 D cI cJ (fun j => ad (gw_p [0, 1, 2, 3, 4, 5, 6, 7, 8, 9, 10, 11, 12, 13, 14, 15, 16, 17, 18, 19, 20, 21, 22, 23, 24, 25, 26, 27, 28, 29, 30, 31, 32, 33] j)) (fun j => sg (gw_p [0, 1, 2, 3, 4, 5, 6, 7, 8, 9, 10, 11, 12, 13, 14, 15, 16, 17, 18, 19, 20, 21, 22, 23, 24, 25, 26, 27, 28, 29, 30, 31, 32, 33] j)) _ (xs (i + 1)) (xs (i + 2)) hJ.1) (vx_cwSW 3 hts (gwSW a304 a305 a273 a306) rfl rfl rfl (by decide +kernel) ⟨by decide, by decide⟩) (gc_preS hK hP hD hS hA hE rfl) rfl rfl hl.1 rfl (lv_room (Nat.le_of_ble_eq_true rfl)) dL_law_344 ⟨by omega, by omega⟩) hP hD hS hA rfl (fun v1 sp2 sg3 H locs hp4 ha5 hb6 hP hD hS => ?_)
  obtain ⟨hk1, rfl⟩ := hp4
  have hk : KG 1 9 6 sg sg3 := KG.back (y := 1) (c := 6) hk1 ha5 (by decide) (by decide)
  have hG := hk.1
  have e34 : sg3 34 = sg 34 := hb6 34 (by decide)
  have e37 : sg3 37 = sg 37 := hb6 37 (by decide)
  have hM := IvM.cong hJ.2.1 e34 e37
  have hln : sg3 1 9 = sg3 34 3 := by rw [e34]; exact hk.2.trans hJ.2.2
  refine W.eq (g2 := F0 m 347 ls [.int (kHours (xs (i + 1)) (xs (i + 2)))]) rfl ?_
  refine lv_istore (lv' := [(5, .int (kHours (xs (i + 1)) (xs (i + 2)))), (0, .ref b), (1, .ref (ad 0)), (2, .ref (ad 34)), (3, .ref (ad 33)), (4, .int (nI i))]) hx hb dL_law_347 hl (by decide) rfl (fun ls hl => ?_)
  refine lv_aload_n hx hb dL_law_349 rfl (lv_at hl 3 rfl) ?_
  refine lv_aload_n hx hb dL_law_350 rfl (lv_at hl 1 rfl) ?_
  refine lv_iload hx hb dL_law_351 (lv_at hl 5 rfl) ?_
  refine lv_iconst (v := (nI 1)) hx hb dL_law_353 (by decide) ?_
  refine lv_iadd hx hb dL_law_354 ?_
  refine gw_top (y := (nI (i + 1))) (nI_add _ _) ?_
  refine va_sld hx hb hX hbl hbA hS (vp_in_nI (n := i + 1) (N := L) (by omega) (by omega)) dL_law_355 ?_
  refine gw_top (y := xs (i + 1)) (by rw [nI_clamp (by omega)]) ?_
  refine lv_aload_n hx hb dL_law_356 rfl (lv_at hl 1 rfl) ?_
  refine lv_iload hx hb dL_law_357 (lv_at hl 5 rfl) ?_
  refine lv_iconst (v := (nI 2)) hx hb dL_law_359 (by decide) ?_
  refine lv_iadd hx hb dL_law_360 ?_
  refine gw_top (y := (nI (i + 2))) (nI_add _ _) ?_
  refine va_sld hx hb hX hbl hbA hS (vp_in_nI (n := i + 2) (N := L) (by omega) (by omega)) dL_law_361 ?_
  refine gw_top (y := xs (i + 2)) (by rw [nI_clamp (by omega)]) ?_
  refine gc_go (pl := [34, 35, 36, 37, 38, 39, 40, 41, 42, 43, 44, 45, 46]) (S2 := SM) (ad := ad) (sg := sg3) (va_runV (As := [.int (xs (i + 1)), .int (xs (i + 2))]) (rest := []) ⟨hx, hb, hml, hown, hts⟩ (m_X3_hours l hl9 D cI cJ (fun j => ad (gw_p [34, 35, 36, 37, 38, 39, 40, 41, 42, 43, 44, 45, 46] j)) (fun j => sg3 (gw_p [34, 35, 36, 37, 38, 39, 40, 41, 42, 43, 44, 45, 46] j)) _ (xs (i + 1)) (xs (i + 2)) hM) (cwV 2 hts (gwV a307 a308 a309 a135 a310) rfl rfl rfl (by decide +kernel) ⟨by decide, by decide⟩) (gc_preV hK hP hD hS hA hE rfl rfl rfl rfl) rfl rfl hl.1 rfl (lv_room (Nat.le_of_ble_eq_true rfl)) dL_law_362 ⟨by omega, by omega⟩) hP hD hS hA rfl (fun v8 sp9 sg10 H locs hp11 ha12 hb13 hP hD hS => ?_)
  obtain ⟨hk1, rfl, hc9⟩ := hp11
  have e1 : sg10 1 = sg3 1 := hb13 1 (by decide)
  have e6 : sg10 6 = sg3 6 := hb13 6 (by decide)
  have e33 : sg10 33 = sg3 33 := hb13 33 (by decide)
  have hG2 : IvG 1 9 6 sg10 := IvG.cong hG e1 e6
  have f34 : sg10 34 = sp9 0 := ha12 0 (by decide)
  have hM2 := IvM.back hk1.1 ha12
  have hln2 : sg10 1 9 = sg10 34 3 := by rw [e1, f34, hk1.2]; exact hln
  have hln := hln2
  have hc8 : sg10 34 0 = (kHours (xs (i + 1)) (xs (i + 2))) := by rw [f34, hc9]
  refine W.eq (g2 := F0 m 365 ls []) rfl ?_
  refine lv_goto (tgt := 592) hx hb dL_law_365 (by decide) ?_
  refine W.widen (k := k + 8) (n := n + 48) (by omega) (by omega) ?_
  exact hnext _ _ _ _ ⟨hG2, hM2, hln⟩ hP hD hS (lv_sub hl [1, 2, 3, 4, 5] rfl)
set_option maxRecDepth 100000 in
set_option maxHeartbeats 4000000 in
theorem law_run {p : Program} {e : Env} {s : State} {m : MethodId} {below : List Frame} {meth : Method} {c : Code} (l : Launch) (hl9 : l.stackTraces = false) {b L : Nat} {xs : Nat → Int32} (C0 : lw_At p s m meth c b L xs) (D : va_G) (cI : ClassId) (cJ : ClassId × ClassId) (ad : Nat → Nat) (hK : va_K D vwCl (tyS cI cJ) s) (hE : gc_ex gxT gxN (fun q : Nat => s.heap.size ≤ q) s s.heap) {Q : State → Prop} {i k n : Nat} (hi : i + 5 ≤ L) (hL : L ≤ 2560) (hk8 : k ≤ 4143) (hn8 : n ≤ 24864) {sg : Nat → Nat → Int32} {H : Heap} {locs : List Loc} {ls : Array Slot} (hJ : LI sg) (hP : va_P D vwCl (gw cI cJ ad sg SL) H) (hD : va_D (fun q : Nat => s.heap.size ≤ q) (gw cI cJ ad sg SL)) (hS : va_S (fun q : Nat => s.heap.size ≤ q) s.heap H locs) (hl : lv_has ls 7 [(0, .ref b), (1, .ref (ad 0)), (2, .ref (ad 34)), (3, .ref (ad 33)), (4, .int (nI i))]) (hnext : ∀ (sg2 : Nat → Nat → Int32) (H2 : Heap) (locs2 : List Loc) (ls2 : Array Slot), LI sg2 → va_P D vwCl (gw cI cJ ad sg2 SL) H2 → va_D (fun q : Nat => s.heap.size ≤ q) (gw cI cJ ad sg2 SL) → va_S (fun q : Nat => s.heap.size ≤ q) s.heap H2 locs2 → lv_has ls2 7 [(0, .ref b), (1, .ref (ad 0)), (2, .ref (ad 34)), (3, .ref (ad 33)), (4, .int (nI i))] → W p l e room_1 s m #[Value.ref b] below meth c H2 locs2 (k + 8) (n + 48) Q (F0 m 592 ls2 [])) : W p l e room_1 s m #[Value.ref b] below meth c H locs k n Q (F0 m 368 ls []) := by
  obtain ⟨hx, hb, hr, hml, hown, hts, hX, hbl, hlocks, hgv⟩ := id C0
  have hown : s.vm.findClass RL = some m.cls := hown
  have hts : ∀ w ∈ wsAll, w.before #[Value.ref b] s = true := fun w h => hts w (List.mem_filter.mp h).1
  have hA : ∀ q : Nat, s.heap.size ≤ q → (fun q : Nat => s.heap.size ≤ q) q := fun _ h => h
  have hbA : ¬ (fun q : Nat => s.heap.size ≤ q) b := Nat.not_le.mpr hbl
  have hrc : 4243 ≤ room_1.cells := by decide
  have hrs : 25864 ≤ room_1.slots := by decide
  refine lv_aload_n hx hb dL_law_368 rfl (lv_at hl 1 rfl) ?_
  refine lv_aload_n hx hb dL_law_369 rfl (lv_at hl 0 rfl) ?_
  refine lv_iload hx hb dL_law_370 (lv_at hl 4 rfl) ?_
  refine lv_iconst (v := (nI 1)) hx hb dL_law_372 (by decide) ?_
  refine lv_iadd hx hb dL_law_373 ?_
  refine gw_top (y := (nI (i + 1))) (nI_add _ _) ?_
  refine va_sld hx hb hX hbl hbA hS (vp_in_nI (n := i + 1) (N := L) (by omega) (by omega)) dL_law_374 ?_
  refine gw_top (y := xs (i + 1)) (by rw [nI_clamp (by omega)]) ?_
  refine lv_aload_n hx hb dL_law_375 rfl (lv_at hl 3 rfl) ?_
  refine gc_go (pl := [0, 1, 2, 3, 4, 5, 6, 7, 8, 9, 10, 11, 12, 13, 14, 15, 16, 17, 18, 19, 20, 21, 22, 23, 24, 25, 26, 27, 28, 29, 30, 31, 32, 33]) (S2 := SW) (ad := ad) (sg := sg) (vx_runSW (As := [.ref (ad 0), .int (xs (i + 1)), .ref (ad 33)]) (rest := []) ⟨hx, hb, hml, hown, hts⟩ (m_L_run l hl9 D cI cJ (fun j => ad (gw_p [0, 1, 2, 3, 4, 5, 6, 7, 8, 9, 10, 11, 12, 13, 14, 15, 16, 17, 18, 19, 20, 21, 22, 23, 24, 25, 26, 27, 28, 29, 30, 31, 32, 33] j)) (fun j => sg (gw_p [0, 1, 2, 3, 4, 5, 6, 7, 8, 9, 10, 11, 12, 13, 14, 15, 16, 17, 18, 19, 20, 21, 22, 23, 24, 25, 26, 27, 28, 29, 30, 31, 32, 33] j)) _ (xs (i + 1)) hJ.1) (vx_cwSW 3 hts (gwSW a311 a312 a273 a313) rfl rfl rfl (by decide +kernel) ⟨by decide, by decide⟩) (gc_preS hK hP hD hS hA hE rfl) rfl rfl hl.1 rfl (lv_room (Nat.le_of_ble_eq_true rfl)) dL_law_376 ⟨by omega, by omega⟩) hP hD hS hA rfl (fun v1 sp2 sg3 H locs hp4 ha5 hb6 hP hD hS => ?_)
  obtain ⟨hk1, r7, rfl⟩ := hp4
  have hk : KG 1 9 6 sg sg3 := KG.back (y := 1) (c := 6) hk1 ha5 (by decide) (by decide)
  have hG := hk.1
  have e34 : sg3 34 = sg 34 := hb6 34 (by decide)
  have e37 : sg3 37 = sg 37 := hb6 37 (by decide)
  have hM := IvM.cong hJ.2.1 e34 e37
  have hln : sg3 1 9 = sg3 34 3 := by rw [e34]; exact hk.2.trans hJ.2.2
  refine W.eq (g2 := F0 m 379 ls [.int r7]) rfl ?_
  refine lv_istore (lv' := [(5, .int r7), (0, .ref b), (1, .ref (ad 0)), (2, .ref (ad 34)), (3, .ref (ad 33)), (4, .int (nI i))]) hx hb dL_law_379 hl (by decide) rfl (fun ls hl => ?_)
  refine lv_aload_n hx hb dL_law_381 rfl (lv_at hl 3 rfl) ?_
  refine lv_aload_n hx hb dL_law_382 rfl (lv_at hl 1 rfl) ?_
  refine lv_iload hx hb dL_law_383 (lv_at hl 5 rfl) ?_
  refine lv_iconst (v := (nI 1)) hx hb dL_law_385 (by decide) ?_
  refine lv_iadd hx hb dL_law_386 ?_
  refine gw_top (y := (nI (i + 1))) (nI_add _ _) ?_
  refine va_sld hx hb hX hbl hbA hS (vp_in_nI (n := i + 1) (N := L) (by omega) (by omega)) dL_law_387 ?_
  refine gw_top (y := xs (i + 1)) (by rw [nI_clamp (by omega)]) ?_
  refine gc_go (pl := [34, 35, 36, 37, 38, 39, 40, 41, 42, 43, 44, 45, 46]) (S2 := SM) (ad := ad) (sg := sg3) (va_runV (As := [.int (xs (i + 1))]) (rest := []) ⟨hx, hb, hml, hown, hts⟩ (m_X3_run l hl9 D cI cJ (fun j => ad (gw_p [34, 35, 36, 37, 38, 39, 40, 41, 42, 43, 44, 45, 46] j)) (fun j => sg3 (gw_p [34, 35, 36, 37, 38, 39, 40, 41, 42, 43, 44, 45, 46] j)) _ (xs (i + 1)) hM) (cwV 1 hts (gwV a314 a315 a316 a135 a317) rfl rfl rfl (by decide +kernel) ⟨by decide, by decide⟩) (gc_preV hK hP hD hS hA hE rfl rfl rfl rfl) rfl rfl hl.1 rfl (lv_room (Nat.le_of_ble_eq_true rfl)) dL_law_388 ⟨by omega, by omega⟩) hP hD hS hA rfl (fun v8 sp9 sg10 H locs hp11 ha12 hb13 hP hD hS => ?_)
  obtain ⟨hk1, r14, rfl⟩ := hp11
  have e1 : sg10 1 = sg3 1 := hb13 1 (by decide)
  have e6 : sg10 6 = sg3 6 := hb13 6 (by decide)
  have e33 : sg10 33 = sg3 33 := hb13 33 (by decide)
  have hG2 : IvG 1 9 6 sg10 := IvG.cong hG e1 e6
  have f34 : sg10 34 = sp9 0 := ha12 0 (by decide)
  have hM2 := IvM.back hk1.1 ha12
  have hln2 : sg10 1 9 = sg10 34 3 := by rw [e1, f34, hk1.2]; exact hln
  have hln := hln2
  refine W.eq (g2 := F0 m 391 ls [.int r14]) rfl ?_
  refine lv_istore (lv' := [(6, .int r14), (5, .int r7), (0, .ref b), (1, .ref (ad 0)), (2, .ref (ad 34)), (3, .ref (ad 33)), (4, .int (nI i))]) hx hb dL_law_391 hl (by decide) rfl (fun ls hl => ?_)
  refine lv_goto (tgt := 592) hx hb dL_law_393 (by decide) ?_
  refine W.widen (k := k + 8) (n := n + 48) (by omega) (by omega) ?_
  exact hnext _ _ _ _ ⟨hG2, hM2, hln⟩ hP hD hS (lv_sub hl [2, 3, 4, 5, 6] rfl)
set_option maxRecDepth 100000 in
set_option maxHeartbeats 4000000 in
theorem law_search {p : Program} {e : Env} {s : State} {m : MethodId} {below : List Frame} {meth : Method} {c : Code} (l : Launch) (hl9 : l.stackTraces = false) {b L : Nat} {xs : Nat → Int32} (C0 : lw_At p s m meth c b L xs) (D : va_G) (cI : ClassId) (cJ : ClassId × ClassId) (ad : Nat → Nat) (hK : va_K D vwCl (tyS cI cJ) s) (hE : gc_ex gxT gxN (fun q : Nat => s.heap.size ≤ q) s s.heap) {Q : State → Prop} {i k n : Nat} (hi : i + 5 ≤ L) (hL : L ≤ 2560) (hk8 : k ≤ 4143) (hn8 : n ≤ 24864) {sg : Nat → Nat → Int32} {H : Heap} {locs : List Loc} {ls : Array Slot} (hJ : LI sg) (hP : va_P D vwCl (gw cI cJ ad sg SL) H) (hD : va_D (fun q : Nat => s.heap.size ≤ q) (gw cI cJ ad sg SL)) (hS : va_S (fun q : Nat => s.heap.size ≤ q) s.heap H locs) (hl : lv_has ls 7 [(0, .ref b), (1, .ref (ad 0)), (2, .ref (ad 34)), (3, .ref (ad 33)), (4, .int (nI i))]) (hnext : ∀ (sg2 : Nat → Nat → Int32) (H2 : Heap) (locs2 : List Loc) (ls2 : Array Slot), LI sg2 → va_P D vwCl (gw cI cJ ad sg2 SL) H2 → va_D (fun q : Nat => s.heap.size ≤ q) (gw cI cJ ad sg2 SL) → va_S (fun q : Nat => s.heap.size ≤ q) s.heap H2 locs2 → lv_has ls2 7 [(0, .ref b), (1, .ref (ad 0)), (2, .ref (ad 34)), (3, .ref (ad 33)), (4, .int (nI i))] → W p l e room_1 s m #[Value.ref b] below meth c H2 locs2 (k + 8) (n + 48) Q (F0 m 592 ls2 [])) : W p l e room_1 s m #[Value.ref b] below meth c H locs k n Q (F0 m 396 ls []) := by
  obtain ⟨hx, hb, hr, hml, hown, hts, hX, hbl, hlocks, hgv⟩ := id C0
  have hown : s.vm.findClass RL = some m.cls := hown
  have hts : ∀ w ∈ wsAll, w.before #[Value.ref b] s = true := fun w h => hts w (List.mem_filter.mp h).1
  have hA : ∀ q : Nat, s.heap.size ≤ q → (fun q : Nat => s.heap.size ≤ q) q := fun _ h => h
  have hbA : ¬ (fun q : Nat => s.heap.size ≤ q) b := Nat.not_le.mpr hbl
  have hrc : 4243 ≤ room_1.cells := by decide
  have hrs : 25864 ≤ room_1.slots := by decide
  refine lv_aload_n hx hb dL_law_396 rfl (lv_at hl 1 rfl) ?_
  refine lv_aload_n hx hb dL_law_397 rfl (lv_at hl 0 rfl) ?_
  refine lv_iload hx hb dL_law_398 (lv_at hl 4 rfl) ?_
  refine lv_iconst (v := (nI 1)) hx hb dL_law_400 (by decide) ?_
  refine lv_iadd hx hb dL_law_401 ?_
  refine gw_top (y := (nI (i + 1))) (nI_add _ _) ?_
  refine va_sld hx hb hX hbl hbA hS (vp_in_nI (n := i + 1) (N := L) (by omega) (by omega)) dL_law_402 ?_
  refine gw_top (y := xs (i + 1)) (by rw [nI_clamp (by omega)]) ?_
  refine lv_aload_n hx hb dL_law_403 rfl (lv_at hl 3 rfl) ?_
  refine gc_go (pl := [0, 1, 2, 3, 4, 5, 6, 7, 8, 9, 10, 11, 12, 13, 14, 15, 16, 17, 18, 19, 20, 21, 22, 23, 24, 25, 26, 27, 28, 29, 30, 31, 32, 33]) (S2 := SW) (ad := ad) (sg := sg) (vx_runSW (As := [.ref (ad 0), .int (xs (i + 1)), .ref (ad 33)]) (rest := []) ⟨hx, hb, hml, hown, hts⟩ (m_L_search l hl9 D cI cJ (fun j => ad (gw_p [0, 1, 2, 3, 4, 5, 6, 7, 8, 9, 10, 11, 12, 13, 14, 15, 16, 17, 18, 19, 20, 21, 22, 23, 24, 25, 26, 27, 28, 29, 30, 31, 32, 33] j)) (fun j => sg (gw_p [0, 1, 2, 3, 4, 5, 6, 7, 8, 9, 10, 11, 12, 13, 14, 15, 16, 17, 18, 19, 20, 21, 22, 23, 24, 25, 26, 27, 28, 29, 30, 31, 32, 33] j)) _ (xs (i + 1)) hJ.1) (vx_cwSW 3 hts (gwSW a318 a319 a273 a320) rfl rfl rfl (by decide +kernel) ⟨by decide, by decide⟩) (gc_preS hK hP hD hS hA hE rfl) rfl rfl hl.1 rfl (lv_room (Nat.le_of_ble_eq_true rfl)) dL_law_404 ⟨by omega, by omega⟩) hP hD hS hA rfl (fun v1 sp2 sg3 H locs hp4 ha5 hb6 hP hD hS => ?_)
  obtain ⟨hk1, r7, rfl⟩ := hp4
  have hk : KG 1 9 6 sg sg3 := KG.back (y := 1) (c := 6) hk1 ha5 (by decide) (by decide)
  have hG := hk.1
  have e34 : sg3 34 = sg 34 := hb6 34 (by decide)
  have e37 : sg3 37 = sg 37 := hb6 37 (by decide)
  have hM := IvM.cong hJ.2.1 e34 e37
  have hln : sg3 1 9 = sg3 34 3 := by rw [e34]; exact hk.2.trans hJ.2.2
  refine W.eq (g2 := F0 m 407 ls [.int r7]) rfl ?_
  refine lv_istore (lv' := [(5, .int r7), (0, .ref b), (1, .ref (ad 0)), (2, .ref (ad 34)), (3, .ref (ad 33)), (4, .int (nI i))]) hx hb dL_law_407 hl (by decide) rfl (fun ls hl => ?_)
  refine lv_aload_n hx hb dL_law_409 rfl (lv_at hl 3 rfl) ?_
  refine lv_aload_n hx hb dL_law_410 rfl (lv_at hl 1 rfl) ?_
  refine lv_iload hx hb dL_law_411 (lv_at hl 5 rfl) ?_
  refine lv_iconst (v := (nI 1)) hx hb dL_law_413 (by decide) ?_
  refine lv_iadd hx hb dL_law_414 ?_
  refine gw_top (y := (nI (i + 1))) (nI_add _ _) ?_
  refine va_sld hx hb hX hbl hbA hS (vp_in_nI (n := i + 1) (N := L) (by omega) (by omega)) dL_law_415 ?_
  refine gw_top (y := xs (i + 1)) (by rw [nI_clamp (by omega)]) ?_
  refine gc_go (pl := [34, 35, 36, 37, 38, 39, 40, 41, 42, 43, 44, 45, 46]) (S2 := SM) (ad := ad) (sg := sg3) (va_runV (As := [.int (xs (i + 1))]) (rest := []) ⟨hx, hb, hml, hown, hts⟩ (m_X3_search l hl9 D cI cJ (fun j => ad (gw_p [34, 35, 36, 37, 38, 39, 40, 41, 42, 43, 44, 45, 46] j)) (fun j => sg3 (gw_p [34, 35, 36, 37, 38, 39, 40, 41, 42, 43, 44, 45, 46] j)) _ (xs (i + 1)) hM) (cwV 1 hts (gwV a321 a322 a323 a135 a324) rfl rfl rfl (by decide +kernel) ⟨by decide, by decide⟩) (gc_preV hK hP hD hS hA hE rfl rfl rfl rfl) rfl rfl hl.1 rfl (lv_room (Nat.le_of_ble_eq_true rfl)) dL_law_416 ⟨by omega, by omega⟩) hP hD hS hA rfl (fun v8 sp9 sg10 H locs hp11 ha12 hb13 hP hD hS => ?_)
  obtain ⟨hk1, r14, rfl⟩ := hp11
  have e1 : sg10 1 = sg3 1 := hb13 1 (by decide)
  have e6 : sg10 6 = sg3 6 := hb13 6 (by decide)
  have e33 : sg10 33 = sg3 33 := hb13 33 (by decide)
  have hG2 : IvG 1 9 6 sg10 := IvG.cong hG e1 e6
  have f34 : sg10 34 = sp9 0 := ha12 0 (by decide)
  have hM2 := IvM.back hk1.1 ha12
  have hln2 : sg10 1 9 = sg10 34 3 := by rw [e1, f34, hk1.2]; exact hln
  have hln := hln2
  refine W.eq (g2 := F0 m 419 ls [.int r14]) rfl ?_
  refine lv_istore (lv' := [(6, .int r14), (5, .int r7), (0, .ref b), (1, .ref (ad 0)), (2, .ref (ad 34)), (3, .ref (ad 33)), (4, .int (nI i))]) hx hb dL_law_419 hl (by decide) rfl (fun ls hl => ?_)
  refine lv_goto (tgt := 592) hx hb dL_law_421 (by decide) ?_
  refine W.widen (k := k + 8) (n := n + 48) (by omega) (by omega) ?_
  exact hnext _ _ _ _ ⟨hG2, hM2, hln⟩ hP hD hS (lv_sub hl [2, 3, 4, 5, 6] rfl)
set_option maxRecDepth 100000 in
set_option maxHeartbeats 4000000 in
theorem law_used {p : Program} {e : Env} {s : State} {m : MethodId} {below : List Frame} {meth : Method} {c : Code} (l : Launch) (hl9 : l.stackTraces = false) {b L : Nat} {xs : Nat → Int32} (C0 : lw_At p s m meth c b L xs) (D : va_G) (cI : ClassId) (cJ : ClassId × ClassId) (ad : Nat → Nat) (hK : va_K D vwCl (tyS cI cJ) s) (hE : gc_ex gxT gxN (fun q : Nat => s.heap.size ≤ q) s s.heap) {Q : State → Prop} {i k n : Nat} (hi : i + 5 ≤ L) (hL : L ≤ 2560) (hk8 : k ≤ 4143) (hn8 : n ≤ 24864) {sg : Nat → Nat → Int32} {H : Heap} {locs : List Loc} {ls : Array Slot} (hJ : LI sg) (hP : va_P D vwCl (gw cI cJ ad sg SL) H) (hD : va_D (fun q : Nat => s.heap.size ≤ q) (gw cI cJ ad sg SL)) (hS : va_S (fun q : Nat => s.heap.size ≤ q) s.heap H locs) (hl : lv_has ls 7 [(0, .ref b), (1, .ref (ad 0)), (2, .ref (ad 34)), (3, .ref (ad 33)), (4, .int (nI i))]) (hnext : ∀ (sg2 : Nat → Nat → Int32) (H2 : Heap) (locs2 : List Loc) (ls2 : Array Slot), LI sg2 → va_P D vwCl (gw cI cJ ad sg2 SL) H2 → va_D (fun q : Nat => s.heap.size ≤ q) (gw cI cJ ad sg2 SL) → va_S (fun q : Nat => s.heap.size ≤ q) s.heap H2 locs2 → lv_has ls2 7 [(0, .ref b), (1, .ref (ad 0)), (2, .ref (ad 34)), (3, .ref (ad 33)), (4, .int (nI i))] → W p l e room_1 s m #[Value.ref b] below meth c H2 locs2 (k + 8) (n + 48) Q (F0 m 592 ls2 [])) : W p l e room_1 s m #[Value.ref b] below meth c H locs k n Q (F0 m 424 ls []) := by
  obtain ⟨hx, hb, hr, hml, hown, hts, hX, hbl, hlocks, hgv⟩ := id C0
  have hown : s.vm.findClass RL = some m.cls := hown
  have hts : ∀ w ∈ wsAll, w.before #[Value.ref b] s = true := fun w h => hts w (List.mem_filter.mp h).1
  have hA : ∀ q : Nat, s.heap.size ≤ q → (fun q : Nat => s.heap.size ≤ q) q := fun _ h => h
  have hbA : ¬ (fun q : Nat => s.heap.size ≤ q) b := Nat.not_le.mpr hbl
  have hrc : 4243 ≤ room_1.cells := by decide
  have hrs : 25864 ≤ room_1.slots := by decide
  refine lv_aload_n hx hb dL_law_424 rfl (lv_at hl 1 rfl) ?_
  refine lv_aload_n hx hb dL_law_425 rfl (lv_at hl 0 rfl) ?_
  refine lv_iload hx hb dL_law_426 (lv_at hl 4 rfl) ?_
  refine lv_iconst (v := (nI 1)) hx hb dL_law_428 (by decide) ?_
  refine lv_iadd hx hb dL_law_429 ?_
  refine gw_top (y := (nI (i + 1))) (nI_add _ _) ?_
  refine va_sld hx hb hX hbl hbA hS (vp_in_nI (n := i + 1) (N := L) (by omega) (by omega)) dL_law_430 ?_
  refine gw_top (y := xs (i + 1)) (by rw [nI_clamp (by omega)]) ?_
  refine lv_aload_n hx hb dL_law_431 rfl (lv_at hl 3 rfl) ?_
  refine gc_go (pl := [0, 1, 2, 3, 4, 5, 6, 7, 8, 9, 10, 11, 12, 13, 14, 15, 16, 17, 18, 19, 20, 21, 22, 23, 24, 25, 26, 27, 28, 29, 30, 31, 32, 33]) (S2 := SW) (ad := ad) (sg := sg) (vx_runSW (As := [.ref (ad 0), .int (xs (i + 1)), .ref (ad 33)]) (rest := []) ⟨hx, hb, hml, hown, hts⟩ (m_L_used l hl9 D cI cJ (fun j => ad (gw_p [0, 1, 2, 3, 4, 5, 6, 7, 8, 9, 10, 11, 12, 13, 14, 15, 16, 17, 18, 19, 20, 21, 22, 23, 24, 25, 26, 27, 28, 29, 30, 31, 32, 33] j)) (fun j => sg (gw_p [0, 1, 2, 3, 4, 5, 6, 7, 8, 9, 10, 11, 12, 13, 14, 15, 16, 17, 18, 19, 20, 21, 22, 23, 24, 25, 26, 27, 28, 29, 30, 31, 32, 33] j)) _ (xs (i + 1)) hJ.1) (vx_cwSW 3 hts (gwSW a325 a326 a273 a327) rfl rfl rfl (by decide +kernel) ⟨by decide, by decide⟩) (gc_preS hK hP hD hS hA hE rfl) rfl rfl hl.1 rfl (lv_room (Nat.le_of_ble_eq_true rfl)) dL_law_432 ⟨by omega, by omega⟩) hP hD hS hA rfl (fun v1 sp2 sg3 H locs hp4 ha5 hb6 hP hD hS => ?_)
  obtain ⟨hk1, r7, rfl⟩ := hp4
  have hk : KG 1 9 6 sg sg3 := KG.back (y := 1) (c := 6) hk1 ha5 (by decide) (by decide)
  have hG := hk.1
  have e34 : sg3 34 = sg 34 := hb6 34 (by decide)
  have e37 : sg3 37 = sg 37 := hb6 37 (by decide)
  have hM := IvM.cong hJ.2.1 e34 e37
  have hln : sg3 1 9 = sg3 34 3 := by rw [e34]; exact hk.2.trans hJ.2.2
  refine W.eq (g2 := F0 m 435 ls [.int r7]) rfl ?_
  refine lv_istore (lv' := [(5, .int r7), (0, .ref b), (1, .ref (ad 0)), (2, .ref (ad 34)), (3, .ref (ad 33)), (4, .int (nI i))]) hx hb dL_law_435 hl (by decide) rfl (fun ls hl => ?_)
  refine lv_aload_n hx hb dL_law_437 rfl (lv_at hl 3 rfl) ?_
  refine lv_aload_n hx hb dL_law_438 rfl (lv_at hl 1 rfl) ?_
  refine lv_iload hx hb dL_law_439 (lv_at hl 5 rfl) ?_
  refine lv_iconst (v := (nI 1)) hx hb dL_law_441 (by decide) ?_
  refine lv_iadd hx hb dL_law_442 ?_
  refine gw_top (y := (nI (i + 1))) (nI_add _ _) ?_
  refine va_sld hx hb hX hbl hbA hS (vp_in_nI (n := i + 1) (N := L) (by omega) (by omega)) dL_law_443 ?_
  refine gw_top (y := xs (i + 1)) (by rw [nI_clamp (by omega)]) ?_
  refine gc_go (pl := [34, 35, 36, 37, 38, 39, 40, 41, 42, 43, 44, 45, 46]) (S2 := SM) (ad := ad) (sg := sg3) (va_runV (As := [.int (xs (i + 1))]) (rest := []) ⟨hx, hb, hml, hown, hts⟩ (m_X3_used l hl9 D cI cJ (fun j => ad (gw_p [34, 35, 36, 37, 38, 39, 40, 41, 42, 43, 44, 45, 46] j)) (fun j => sg3 (gw_p [34, 35, 36, 37, 38, 39, 40, 41, 42, 43, 44, 45, 46] j)) _ (xs (i + 1)) hM) (cwV 1 hts (gwV a328 a329 a330 a135 a331) rfl rfl rfl (by decide +kernel) ⟨by decide, by decide⟩) (gc_preV hK hP hD hS hA hE rfl rfl rfl rfl) rfl rfl hl.1 rfl (lv_room (Nat.le_of_ble_eq_true rfl)) dL_law_444 ⟨by omega, by omega⟩) hP hD hS hA rfl (fun v8 sp9 sg10 H locs hp11 ha12 hb13 hP hD hS => ?_)
  obtain ⟨hk1, r14, rfl⟩ := hp11
  have e1 : sg10 1 = sg3 1 := hb13 1 (by decide)
  have e6 : sg10 6 = sg3 6 := hb13 6 (by decide)
  have e33 : sg10 33 = sg3 33 := hb13 33 (by decide)
  have hG2 : IvG 1 9 6 sg10 := IvG.cong hG e1 e6
  have f34 : sg10 34 = sp9 0 := ha12 0 (by decide)
  have hM2 := IvM.back hk1.1 ha12
  have hln2 : sg10 1 9 = sg10 34 3 := by rw [e1, f34, hk1.2]; exact hln
  have hln := hln2
  refine W.eq (g2 := F0 m 447 ls [.int r14]) rfl ?_
  refine lv_istore (lv' := [(6, .int r14), (5, .int r7), (0, .ref b), (1, .ref (ad 0)), (2, .ref (ad 34)), (3, .ref (ad 33)), (4, .int (nI i))]) hx hb dL_law_447 hl (by decide) rfl (fun ls hl => ?_)
  refine lv_goto (tgt := 592) hx hb dL_law_449 (by decide) ?_
  refine W.widen (k := k + 8) (n := n + 48) (by omega) (by omega) ?_
  exact hnext _ _ _ _ ⟨hG2, hM2, hln⟩ hP hD hS (lv_sub hl [2, 3, 4, 5, 6] rfl)
set_option maxRecDepth 100000 in
set_option maxHeartbeats 4000000 in
theorem law_best {p : Program} {e : Env} {s : State} {m : MethodId} {below : List Frame} {meth : Method} {c : Code} (l : Launch) (hl9 : l.stackTraces = false) {b L : Nat} {xs : Nat → Int32} (C0 : lw_At p s m meth c b L xs) (D : va_G) (cI : ClassId) (cJ : ClassId × ClassId) (ad : Nat → Nat) (hK : va_K D vwCl (tyS cI cJ) s) (hE : gc_ex gxT gxN (fun q : Nat => s.heap.size ≤ q) s s.heap) {Q : State → Prop} {i k n : Nat} (hi : i + 5 ≤ L) (hL : L ≤ 2560) (hk8 : k ≤ 4143) (hn8 : n ≤ 24864) {sg : Nat → Nat → Int32} {H : Heap} {locs : List Loc} {ls : Array Slot} (hJ : LI sg) (hP : va_P D vwCl (gw cI cJ ad sg SL) H) (hD : va_D (fun q : Nat => s.heap.size ≤ q) (gw cI cJ ad sg SL)) (hS : va_S (fun q : Nat => s.heap.size ≤ q) s.heap H locs) (hl : lv_has ls 7 [(0, .ref b), (1, .ref (ad 0)), (2, .ref (ad 34)), (3, .ref (ad 33)), (4, .int (nI i))]) (hnext : ∀ (sg2 : Nat → Nat → Int32) (H2 : Heap) (locs2 : List Loc) (ls2 : Array Slot), LI sg2 → va_P D vwCl (gw cI cJ ad sg2 SL) H2 → va_D (fun q : Nat => s.heap.size ≤ q) (gw cI cJ ad sg2 SL) → va_S (fun q : Nat => s.heap.size ≤ q) s.heap H2 locs2 → lv_has ls2 7 [(0, .ref b), (1, .ref (ad 0)), (2, .ref (ad 34)), (3, .ref (ad 33)), (4, .int (nI i))] → W p l e room_1 s m #[Value.ref b] below meth c H2 locs2 (k + 8) (n + 48) Q (F0 m 592 ls2 [])) : W p l e room_1 s m #[Value.ref b] below meth c H locs k n Q (F0 m 452 ls []) := by
  obtain ⟨hx, hb, hr, hml, hown, hts, hX, hbl, hlocks, hgv⟩ := id C0
  have hown : s.vm.findClass RL = some m.cls := hown
  have hts : ∀ w ∈ wsAll, w.before #[Value.ref b] s = true := fun w h => hts w (List.mem_filter.mp h).1
  have hA : ∀ q : Nat, s.heap.size ≤ q → (fun q : Nat => s.heap.size ≤ q) q := fun _ h => h
  have hbA : ¬ (fun q : Nat => s.heap.size ≤ q) b := Nat.not_le.mpr hbl
  have hrc : 4243 ≤ room_1.cells := by decide
  have hrs : 25864 ≤ room_1.slots := by decide
  refine lv_aload_n hx hb dL_law_452 rfl (lv_at hl 1 rfl) ?_
  refine lv_aload_n hx hb dL_law_453 rfl (lv_at hl 0 rfl) ?_
  refine lv_iload hx hb dL_law_454 (lv_at hl 4 rfl) ?_
  refine lv_iconst (v := (nI 1)) hx hb dL_law_456 (by decide) ?_
  refine lv_iadd hx hb dL_law_457 ?_
  refine gw_top (y := (nI (i + 1))) (nI_add _ _) ?_
  refine va_sld hx hb hX hbl hbA hS (vp_in_nI (n := i + 1) (N := L) (by omega) (by omega)) dL_law_458 ?_
  refine gw_top (y := xs (i + 1)) (by rw [nI_clamp (by omega)]) ?_
  refine lv_aload_n hx hb dL_law_459 rfl (lv_at hl 3 rfl) ?_
  refine gc_go (pl := [0, 1, 2, 3, 4, 5, 6, 7, 8, 9, 10, 11, 12, 13, 14, 15, 16, 17, 18, 19, 20, 21, 22, 23, 24, 25, 26, 27, 28, 29, 30, 31, 32, 33]) (S2 := SW) (ad := ad) (sg := sg) (vx_runSW (As := [.ref (ad 0), .int (xs (i + 1)), .ref (ad 33)]) (rest := []) ⟨hx, hb, hml, hown, hts⟩ (m_L_best l hl9 D cI cJ (fun j => ad (gw_p [0, 1, 2, 3, 4, 5, 6, 7, 8, 9, 10, 11, 12, 13, 14, 15, 16, 17, 18, 19, 20, 21, 22, 23, 24, 25, 26, 27, 28, 29, 30, 31, 32, 33] j)) (fun j => sg (gw_p [0, 1, 2, 3, 4, 5, 6, 7, 8, 9, 10, 11, 12, 13, 14, 15, 16, 17, 18, 19, 20, 21, 22, 23, 24, 25, 26, 27, 28, 29, 30, 31, 32, 33] j)) _ (xs (i + 1)) hJ.1) (vx_cwSW 3 hts (gwSW a332 a333 a273 a334) rfl rfl rfl (by decide +kernel) ⟨by decide, by decide⟩) (gc_preS hK hP hD hS hA hE rfl) rfl rfl hl.1 rfl (lv_room (Nat.le_of_ble_eq_true rfl)) dL_law_460 ⟨by omega, by omega⟩) hP hD hS hA rfl (fun v1 sp2 sg3 H locs hp4 ha5 hb6 hP hD hS => ?_)
  obtain ⟨hk1, r7, rfl⟩ := hp4
  have hk : KG 1 9 6 sg sg3 := KG.back (y := 1) (c := 6) hk1 ha5 (by decide) (by decide)
  have hG := hk.1
  have e34 : sg3 34 = sg 34 := hb6 34 (by decide)
  have e37 : sg3 37 = sg 37 := hb6 37 (by decide)
  have hM := IvM.cong hJ.2.1 e34 e37
  have hln : sg3 1 9 = sg3 34 3 := by rw [e34]; exact hk.2.trans hJ.2.2
  refine W.eq (g2 := F0 m 463 ls [.int r7]) rfl ?_
  refine lv_istore (lv' := [(5, .int r7), (0, .ref b), (1, .ref (ad 0)), (2, .ref (ad 34)), (3, .ref (ad 33)), (4, .int (nI i))]) hx hb dL_law_463 hl (by decide) rfl (fun ls hl => ?_)
  refine lv_aload_n hx hb dL_law_465 rfl (lv_at hl 3 rfl) ?_
  refine lv_aload_n hx hb dL_law_466 rfl (lv_at hl 1 rfl) ?_
  refine lv_iload hx hb dL_law_467 (lv_at hl 5 rfl) ?_
  refine lv_iconst (v := (nI 1)) hx hb dL_law_469 (by decide) ?_
  refine lv_iadd hx hb dL_law_470 ?_
  refine gw_top (y := (nI (i + 1))) (nI_add _ _) ?_
  refine va_sld hx hb hX hbl hbA hS (vp_in_nI (n := i + 1) (N := L) (by omega) (by omega)) dL_law_471 ?_
  refine gw_top (y := xs (i + 1)) (by rw [nI_clamp (by omega)]) ?_
  refine gc_go (pl := [34, 35, 36, 37, 38, 39, 40, 41, 42, 43, 44, 45, 46]) (S2 := SM) (ad := ad) (sg := sg3) (va_runV (As := [.int (xs (i + 1))]) (rest := []) ⟨hx, hb, hml, hown, hts⟩ (m_X3_best l hl9 D cI cJ (fun j => ad (gw_p [34, 35, 36, 37, 38, 39, 40, 41, 42, 43, 44, 45, 46] j)) (fun j => sg3 (gw_p [34, 35, 36, 37, 38, 39, 40, 41, 42, 43, 44, 45, 46] j)) _ (xs (i + 1)) hM) (cwV 1 hts (gwV a335 a336 a337 a135 a338) rfl rfl rfl (by decide +kernel) ⟨by decide, by decide⟩) (gc_preV hK hP hD hS hA hE rfl rfl rfl rfl) rfl rfl hl.1 rfl (lv_room (Nat.le_of_ble_eq_true rfl)) dL_law_472 ⟨by omega, by omega⟩) hP hD hS hA rfl (fun v8 sp9 sg10 H locs hp11 ha12 hb13 hP hD hS => ?_)
  obtain ⟨hk1, r14, rfl⟩ := hp11
  have e1 : sg10 1 = sg3 1 := hb13 1 (by decide)
  have e6 : sg10 6 = sg3 6 := hb13 6 (by decide)
  have e33 : sg10 33 = sg3 33 := hb13 33 (by decide)
  have hG2 : IvG 1 9 6 sg10 := IvG.cong hG e1 e6
  have f34 : sg10 34 = sp9 0 := ha12 0 (by decide)
  have hM2 := IvM.back hk1.1 ha12
  have hln2 : sg10 1 9 = sg10 34 3 := by rw [e1, f34, hk1.2]; exact hln
  have hln := hln2
  refine W.eq (g2 := F0 m 475 ls [.int r14]) rfl ?_
  refine lv_istore (lv' := [(6, .int r14), (5, .int r7), (0, .ref b), (1, .ref (ad 0)), (2, .ref (ad 34)), (3, .ref (ad 33)), (4, .int (nI i))]) hx hb dL_law_475 hl (by decide) rfl (fun ls hl => ?_)
  refine lv_goto (tgt := 592) hx hb dL_law_477 (by decide) ?_
  refine W.widen (k := k + 8) (n := n + 48) (by omega) (by omega) ?_
  exact hnext _ _ _ _ ⟨hG2, hM2, hln⟩ hP hD hS (lv_sub hl [2, 3, 4, 5, 6] rfl)
set_option maxRecDepth 100000 in
set_option maxHeartbeats 4000000 in
theorem law_made {p : Program} {e : Env} {s : State} {m : MethodId} {below : List Frame} {meth : Method} {c : Code} (l : Launch) (hl9 : l.stackTraces = false) {b L : Nat} {xs : Nat → Int32} (C0 : lw_At p s m meth c b L xs) (D : va_G) (cI : ClassId) (cJ : ClassId × ClassId) (ad : Nat → Nat) (hK : va_K D vwCl (tyS cI cJ) s) (hE : gc_ex gxT gxN (fun q : Nat => s.heap.size ≤ q) s s.heap) {Q : State → Prop} {i k n : Nat} (hi : i + 5 ≤ L) (hL : L ≤ 2560) (hk8 : k ≤ 4143) (hn8 : n ≤ 24864) {sg : Nat → Nat → Int32} {H : Heap} {locs : List Loc} {ls : Array Slot} (hJ : LI sg) (hP : va_P D vwCl (gw cI cJ ad sg SL) H) (hD : va_D (fun q : Nat => s.heap.size ≤ q) (gw cI cJ ad sg SL)) (hS : va_S (fun q : Nat => s.heap.size ≤ q) s.heap H locs) (hl : lv_has ls 7 [(0, .ref b), (1, .ref (ad 0)), (2, .ref (ad 34)), (3, .ref (ad 33)), (4, .int (nI i))]) (hnext : ∀ (sg2 : Nat → Nat → Int32) (H2 : Heap) (locs2 : List Loc) (ls2 : Array Slot), LI sg2 → va_P D vwCl (gw cI cJ ad sg2 SL) H2 → va_D (fun q : Nat => s.heap.size ≤ q) (gw cI cJ ad sg2 SL) → va_S (fun q : Nat => s.heap.size ≤ q) s.heap H2 locs2 → lv_has ls2 7 [(0, .ref b), (1, .ref (ad 0)), (2, .ref (ad 34)), (3, .ref (ad 33)), (4, .int (nI i))] → W p l e room_1 s m #[Value.ref b] below meth c H2 locs2 (k + 8) (n + 48) Q (F0 m 592 ls2 [])) : W p l e room_1 s m #[Value.ref b] below meth c H locs k n Q (F0 m 480 ls []) := by
  obtain ⟨hx, hb, hr, hml, hown, hts, hX, hbl, hlocks, hgv⟩ := id C0
  have hown : s.vm.findClass RL = some m.cls := hown
  have hts : ∀ w ∈ wsAll, w.before #[Value.ref b] s = true := fun w h => hts w (List.mem_filter.mp h).1
  have hA : ∀ q : Nat, s.heap.size ≤ q → (fun q : Nat => s.heap.size ≤ q) q := fun _ h => h
  have hbA : ¬ (fun q : Nat => s.heap.size ≤ q) b := Nat.not_le.mpr hbl
  have hrc : 4243 ≤ room_1.cells := by decide
  have hrs : 25864 ≤ room_1.slots := by decide
  refine lv_aload_n hx hb dL_law_480 rfl (lv_at hl 1 rfl) ?_
  refine lv_aload_n hx hb dL_law_481 rfl (lv_at hl 0 rfl) ?_
  refine lv_iload hx hb dL_law_482 (lv_at hl 4 rfl) ?_
  refine lv_iconst (v := (nI 1)) hx hb dL_law_484 (by decide) ?_
  refine lv_iadd hx hb dL_law_485 ?_
  refine gw_top (y := (nI (i + 1))) (nI_add _ _) ?_
  refine va_sld hx hb hX hbl hbA hS (vp_in_nI (n := i + 1) (N := L) (by omega) (by omega)) dL_law_486 ?_
  refine gw_top (y := xs (i + 1)) (by rw [nI_clamp (by omega)]) ?_
  refine lv_aload_n hx hb dL_law_487 rfl (lv_at hl 3 rfl) ?_
  refine gc_go (pl := [0, 1, 2, 3, 4, 5, 6, 7, 8, 9, 10, 11, 12, 13, 14, 15, 16, 17, 18, 19, 20, 21, 22, 23, 24, 25, 26, 27, 28, 29, 30, 31, 32, 33]) (S2 := SW) (ad := ad) (sg := sg) (vx_runSW (As := [.ref (ad 0), .int (xs (i + 1)), .ref (ad 33)]) (rest := []) ⟨hx, hb, hml, hown, hts⟩ (m_L_made l hl9 D cI cJ (fun j => ad (gw_p [0, 1, 2, 3, 4, 5, 6, 7, 8, 9, 10, 11, 12, 13, 14, 15, 16, 17, 18, 19, 20, 21, 22, 23, 24, 25, 26, 27, 28, 29, 30, 31, 32, 33] j)) (fun j => sg (gw_p [0, 1, 2, 3, 4, 5, 6, 7, 8, 9, 10, 11, 12, 13, 14, 15, 16, 17, 18, 19, 20, 21, 22, 23, 24, 25, 26, 27, 28, 29, 30, 31, 32, 33] j)) _ (xs (i + 1)) hJ.1) (vx_cwSW 3 hts (gwSW a339 a340 a273 a341) rfl rfl rfl (by decide +kernel) ⟨by decide, by decide⟩) (gc_preS hK hP hD hS hA hE rfl) rfl rfl hl.1 rfl (lv_room (Nat.le_of_ble_eq_true rfl)) dL_law_488 ⟨by omega, by omega⟩) hP hD hS hA rfl (fun v1 sp2 sg3 H locs hp4 ha5 hb6 hP hD hS => ?_)
  obtain ⟨hk1, r7, rfl⟩ := hp4
  have hk : KG 1 9 6 sg sg3 := KG.back (y := 1) (c := 6) hk1 ha5 (by decide) (by decide)
  have hG := hk.1
  have e34 : sg3 34 = sg 34 := hb6 34 (by decide)
  have e37 : sg3 37 = sg 37 := hb6 37 (by decide)
  have hM := IvM.cong hJ.2.1 e34 e37
  have hln : sg3 1 9 = sg3 34 3 := by rw [e34]; exact hk.2.trans hJ.2.2
  refine W.eq (g2 := F0 m 491 ls [.int r7]) rfl ?_
  refine lv_istore (lv' := [(5, .int r7), (0, .ref b), (1, .ref (ad 0)), (2, .ref (ad 34)), (3, .ref (ad 33)), (4, .int (nI i))]) hx hb dL_law_491 hl (by decide) rfl (fun ls hl => ?_)
  refine lv_aload_n hx hb dL_law_493 rfl (lv_at hl 3 rfl) ?_
  refine lv_aload_n hx hb dL_law_494 rfl (lv_at hl 1 rfl) ?_
  refine lv_iload hx hb dL_law_495 (lv_at hl 5 rfl) ?_
  refine lv_iconst (v := (nI 1)) hx hb dL_law_497 (by decide) ?_
  refine lv_iadd hx hb dL_law_498 ?_
  refine gw_top (y := (nI (i + 1))) (nI_add _ _) ?_
  refine va_sld hx hb hX hbl hbA hS (vp_in_nI (n := i + 1) (N := L) (by omega) (by omega)) dL_law_499 ?_
  refine gw_top (y := xs (i + 1)) (by rw [nI_clamp (by omega)]) ?_
  refine gc_go (pl := [34, 35, 36, 37, 38, 39, 40, 41, 42, 43, 44, 45, 46]) (S2 := SM) (ad := ad) (sg := sg3) (va_runV (As := [.int (xs (i + 1))]) (rest := []) ⟨hx, hb, hml, hown, hts⟩ (m_X3_made l hl9 D cI cJ (fun j => ad (gw_p [34, 35, 36, 37, 38, 39, 40, 41, 42, 43, 44, 45, 46] j)) (fun j => sg3 (gw_p [34, 35, 36, 37, 38, 39, 40, 41, 42, 43, 44, 45, 46] j)) _ (xs (i + 1)) hM) (cwV 1 hts (gwV a342 a343 a344 a135 a345) rfl rfl rfl (by decide +kernel) ⟨by decide, by decide⟩) (gc_preV hK hP hD hS hA hE rfl rfl rfl rfl) rfl rfl hl.1 rfl (lv_room (Nat.le_of_ble_eq_true rfl)) dL_law_500 ⟨by omega, by omega⟩) hP hD hS hA rfl (fun v8 sp9 sg10 H locs hp11 ha12 hb13 hP hD hS => ?_)
  obtain ⟨hk1, r14, rfl⟩ := hp11
  have e1 : sg10 1 = sg3 1 := hb13 1 (by decide)
  have e6 : sg10 6 = sg3 6 := hb13 6 (by decide)
  have e33 : sg10 33 = sg3 33 := hb13 33 (by decide)
  have hG2 : IvG 1 9 6 sg10 := IvG.cong hG e1 e6
  have f34 : sg10 34 = sp9 0 := ha12 0 (by decide)
  have hM2 := IvM.back hk1.1 ha12
  have hln2 : sg10 1 9 = sg10 34 3 := by rw [e1, f34, hk1.2]; exact hln
  have hln := hln2
  refine W.eq (g2 := F0 m 503 ls [.int r14]) rfl ?_
  refine lv_istore (lv' := [(6, .int r14), (5, .int r7), (0, .ref b), (1, .ref (ad 0)), (2, .ref (ad 34)), (3, .ref (ad 33)), (4, .int (nI i))]) hx hb dL_law_503 hl (by decide) rfl (fun ls hl => ?_)
  refine lv_goto (tgt := 592) hx hb dL_law_505 (by decide) ?_
  refine W.widen (k := k + 8) (n := n + 48) (by omega) (by omega) ?_
  exact hnext _ _ _ _ ⟨hG2, hM2, hln⟩ hP hD hS (lv_sub hl [2, 3, 4, 5, 6] rfl)
set_option maxRecDepth 100000 in
set_option maxHeartbeats 4000000 in
theorem law_saw {p : Program} {e : Env} {s : State} {m : MethodId} {below : List Frame} {meth : Method} {c : Code} (l : Launch) (hl9 : l.stackTraces = false) {b L : Nat} {xs : Nat → Int32} (C0 : lw_At p s m meth c b L xs) (D : va_G) (cI : ClassId) (cJ : ClassId × ClassId) (ad : Nat → Nat) (hK : va_K D vwCl (tyS cI cJ) s) (hE : gc_ex gxT gxN (fun q : Nat => s.heap.size ≤ q) s s.heap) {Q : State → Prop} {i k n : Nat} (hi : i + 5 ≤ L) (hL : L ≤ 2560) (hk8 : k ≤ 4143) (hn8 : n ≤ 24864) {sg : Nat → Nat → Int32} {H : Heap} {locs : List Loc} {ls : Array Slot} (hJ : LI sg) (hP : va_P D vwCl (gw cI cJ ad sg SL) H) (hD : va_D (fun q : Nat => s.heap.size ≤ q) (gw cI cJ ad sg SL)) (hS : va_S (fun q : Nat => s.heap.size ≤ q) s.heap H locs) (hl : lv_has ls 7 [(0, .ref b), (1, .ref (ad 0)), (2, .ref (ad 34)), (3, .ref (ad 33)), (4, .int (nI i))]) (hnext : ∀ (sg2 : Nat → Nat → Int32) (H2 : Heap) (locs2 : List Loc) (ls2 : Array Slot), LI sg2 → va_P D vwCl (gw cI cJ ad sg2 SL) H2 → va_D (fun q : Nat => s.heap.size ≤ q) (gw cI cJ ad sg2 SL) → va_S (fun q : Nat => s.heap.size ≤ q) s.heap H2 locs2 → lv_has ls2 7 [(0, .ref b), (1, .ref (ad 0)), (2, .ref (ad 34)), (3, .ref (ad 33)), (4, .int (nI i))] → W p l e room_1 s m #[Value.ref b] below meth c H2 locs2 (k + 8) (n + 48) Q (F0 m 592 ls2 [])) : W p l e room_1 s m #[Value.ref b] below meth c H locs k n Q (F0 m 508 ls []) := by
  obtain ⟨hx, hb, hr, hml, hown, hts, hX, hbl, hlocks, hgv⟩ := id C0
  have hown : s.vm.findClass RL = some m.cls := hown
  have hts : ∀ w ∈ wsAll, w.before #[Value.ref b] s = true := fun w h => hts w (List.mem_filter.mp h).1
  have hA : ∀ q : Nat, s.heap.size ≤ q → (fun q : Nat => s.heap.size ≤ q) q := fun _ h => h
  have hbA : ¬ (fun q : Nat => s.heap.size ≤ q) b := Nat.not_le.mpr hbl
  have hrc : 4243 ≤ room_1.cells := by decide
  have hrs : 25864 ≤ room_1.slots := by decide
  refine lv_aload_n hx hb dL_law_508 rfl (lv_at hl 1 rfl) ?_
  refine lv_aload_n hx hb dL_law_509 rfl (lv_at hl 3 rfl) ?_
  refine gc_go (pl := [0, 1, 2, 3, 4, 5, 6, 7, 8, 9, 10, 11, 12, 13, 14, 15, 16, 17, 18, 19, 20, 21, 22, 23, 24, 25, 26, 27, 28, 29, 30, 31, 32, 33]) (S2 := SW) (ad := ad) (sg := sg) (vx_runSW (As := [.ref (ad 0), .ref (ad 33)]) (rest := []) ⟨hx, hb, hml, hown, hts⟩ (m_L_saw l hl9 D cI cJ (fun j => ad (gw_p [0, 1, 2, 3, 4, 5, 6, 7, 8, 9, 10, 11, 12, 13, 14, 15, 16, 17, 18, 19, 20, 21, 22, 23, 24, 25, 26, 27, 28, 29, 30, 31, 32, 33] j)) (fun j => sg (gw_p [0, 1, 2, 3, 4, 5, 6, 7, 8, 9, 10, 11, 12, 13, 14, 15, 16, 17, 18, 19, 20, 21, 22, 23, 24, 25, 26, 27, 28, 29, 30, 31, 32, 33] j)) _  hJ.1) (vx_cwSW 2 hts (gwSW a346 a347 a273 a348) rfl rfl rfl (by decide +kernel) ⟨by decide, by decide⟩) (gc_preS hK hP hD hS hA hE rfl) rfl rfl hl.1 rfl (lv_room (Nat.le_of_ble_eq_true rfl)) dL_law_510 ⟨by omega, by omega⟩) hP hD hS hA rfl (fun v1 sp2 sg3 H locs hp4 ha5 hb6 hP hD hS => ?_)
  obtain ⟨hk1, r7, rfl⟩ := hp4
  have hk : KG 1 9 6 sg sg3 := KG.back (y := 1) (c := 6) hk1 ha5 (by decide) (by decide)
  have hG := hk.1
  have e34 : sg3 34 = sg 34 := hb6 34 (by decide)
  have e37 : sg3 37 = sg 37 := hb6 37 (by decide)
  have hM := IvM.cong hJ.2.1 e34 e37
  have hln : sg3 1 9 = sg3 34 3 := by rw [e34]; exact hk.2.trans hJ.2.2
  refine W.eq (g2 := F0 m 513 ls [.int r7]) rfl ?_
  refine lv_istore (lv' := [(5, .int r7), (0, .ref b), (1, .ref (ad 0)), (2, .ref (ad 34)), (3, .ref (ad 33)), (4, .int (nI i))]) hx hb dL_law_513 hl (by decide) rfl (fun ls hl => ?_)
  refine lv_aload_n hx hb dL_law_515 rfl (lv_at hl 3 rfl) ?_
  refine gc_go (pl := [34, 35, 36, 37, 38, 39, 40, 41, 42, 43, 44, 45, 46]) (S2 := SM) (ad := ad) (sg := sg3) (va_runV (As := []) (rest := []) ⟨hx, hb, hml, hown, hts⟩ (m_X3_saw l hl9 D cI cJ (fun j => ad (gw_p [34, 35, 36, 37, 38, 39, 40, 41, 42, 43, 44, 45, 46] j)) (fun j => sg3 (gw_p [34, 35, 36, 37, 38, 39, 40, 41, 42, 43, 44, 45, 46] j)) _  hM) (cwV 0 hts (gwV a349 a350 a351 a135 a352) rfl rfl rfl (by decide +kernel) ⟨by decide, by decide⟩) (gc_preV hK hP hD hS hA hE rfl rfl rfl rfl) rfl rfl hl.1 rfl (lv_room (Nat.le_of_ble_eq_true rfl)) dL_law_516 ⟨by omega, by omega⟩) hP hD hS hA rfl (fun v8 sp9 sg10 H locs hp11 ha12 hb13 hP hD hS => ?_)
  obtain ⟨hk1, r14, rfl⟩ := hp11
  have e1 : sg10 1 = sg3 1 := hb13 1 (by decide)
  have e6 : sg10 6 = sg3 6 := hb13 6 (by decide)
  have e33 : sg10 33 = sg3 33 := hb13 33 (by decide)
  have hG2 : IvG 1 9 6 sg10 := IvG.cong hG e1 e6
  have f34 : sg10 34 = sp9 0 := ha12 0 (by decide)
  have hM2 := IvM.back hk1.1 ha12
  have hln2 : sg10 1 9 = sg10 34 3 := by rw [e1, f34, hk1.2]; exact hln
  have hln := hln2
  refine W.eq (g2 := F0 m 519 ls [.int r14]) rfl ?_
  refine lv_istore (lv' := [(6, .int r14), (5, .int r7), (0, .ref b), (1, .ref (ad 0)), (2, .ref (ad 34)), (3, .ref (ad 33)), (4, .int (nI i))]) hx hb dL_law_519 hl (by decide) rfl (fun ls hl => ?_)
  refine lv_goto (tgt := 592) hx hb dL_law_521 (by decide) ?_
  refine W.widen (k := k + 8) (n := n + 48) (by omega) (by omega) ?_
  exact hnext _ _ _ _ ⟨hG2, hM2, hln⟩ hP hD hS (lv_sub hl [2, 3, 4, 5, 6] rfl)
set_option maxRecDepth 100000 in
set_option maxHeartbeats 4000000 in
theorem law_mill {p : Program} {e : Env} {s : State} {m : MethodId} {below : List Frame} {meth : Method} {c : Code} (l : Launch) (hl9 : l.stackTraces = false) {b L : Nat} {xs : Nat → Int32} (C0 : lw_At p s m meth c b L xs) (D : va_G) (cI : ClassId) (cJ : ClassId × ClassId) (ad : Nat → Nat) (hK : va_K D vwCl (tyS cI cJ) s) (hE : gc_ex gxT gxN (fun q : Nat => s.heap.size ≤ q) s s.heap) {Q : State → Prop} {i k n : Nat} (hi : i + 5 ≤ L) (hL : L ≤ 2560) (hk8 : k ≤ 4143) (hn8 : n ≤ 24864) {sg : Nat → Nat → Int32} {H : Heap} {locs : List Loc} {ls : Array Slot} (hJ : LI sg) (hP : va_P D vwCl (gw cI cJ ad sg SL) H) (hD : va_D (fun q : Nat => s.heap.size ≤ q) (gw cI cJ ad sg SL)) (hS : va_S (fun q : Nat => s.heap.size ≤ q) s.heap H locs) (hl : lv_has ls 7 [(0, .ref b), (1, .ref (ad 0)), (2, .ref (ad 34)), (3, .ref (ad 33)), (4, .int (nI i))]) (hnext : ∀ (sg2 : Nat → Nat → Int32) (H2 : Heap) (locs2 : List Loc) (ls2 : Array Slot), LI sg2 → va_P D vwCl (gw cI cJ ad sg2 SL) H2 → va_D (fun q : Nat => s.heap.size ≤ q) (gw cI cJ ad sg2 SL) → va_S (fun q : Nat => s.heap.size ≤ q) s.heap H2 locs2 → lv_has ls2 7 [(0, .ref b), (1, .ref (ad 0)), (2, .ref (ad 34)), (3, .ref (ad 33)), (4, .int (nI i))] → W p l e room_1 s m #[Value.ref b] below meth c H2 locs2 (k + 8) (n + 48) Q (F0 m 592 ls2 [])) : W p l e room_1 s m #[Value.ref b] below meth c H locs k n Q (F0 m 524 ls []) := by
  obtain ⟨hx, hb, hr, hml, hown, hts, hX, hbl, hlocks, hgv⟩ := id C0
  have hown : s.vm.findClass RL = some m.cls := hown
  have hts : ∀ w ∈ wsAll, w.before #[Value.ref b] s = true := fun w h => hts w (List.mem_filter.mp h).1
  have hA : ∀ q : Nat, s.heap.size ≤ q → (fun q : Nat => s.heap.size ≤ q) q := fun _ h => h
  have hbA : ¬ (fun q : Nat => s.heap.size ≤ q) b := Nat.not_le.mpr hbl
  have hrc : 4243 ≤ room_1.cells := by decide
  have hrs : 25864 ≤ room_1.slots := by decide
  refine lv_aload_n hx hb dL_law_524 rfl (lv_at hl 1 rfl) ?_
  refine lv_aload_n hx hb dL_law_525 rfl (lv_at hl 0 rfl) ?_
  refine lv_iload hx hb dL_law_526 (lv_at hl 4 rfl) ?_
  refine lv_iconst (v := (nI 1)) hx hb dL_law_528 (by decide) ?_
  refine lv_iadd hx hb dL_law_529 ?_
  refine gw_top (y := (nI (i + 1))) (nI_add _ _) ?_
  refine va_sld hx hb hX hbl hbA hS (vp_in_nI (n := i + 1) (N := L) (by omega) (by omega)) dL_law_530 ?_
  refine gw_top (y := xs (i + 1)) (by rw [nI_clamp (by omega)]) ?_
  refine lv_aload_n hx hb dL_law_531 rfl (lv_at hl 3 rfl) ?_
  refine gc_go (pl := [0, 1, 2, 3, 4, 5, 6, 7, 8, 9, 10, 11, 12, 13, 14, 15, 16, 17, 18, 19, 20, 21, 22, 23, 24, 25, 26, 27, 28, 29, 30, 31, 32, 33]) (S2 := SW) (ad := ad) (sg := sg) (vx_runSW (As := [.ref (ad 0), .int (xs (i + 1)), .ref (ad 33)]) (rest := []) ⟨hx, hb, hml, hown, hts⟩ (m_L_mill l hl9 D cI cJ (fun j => ad (gw_p [0, 1, 2, 3, 4, 5, 6, 7, 8, 9, 10, 11, 12, 13, 14, 15, 16, 17, 18, 19, 20, 21, 22, 23, 24, 25, 26, 27, 28, 29, 30, 31, 32, 33] j)) (fun j => sg (gw_p [0, 1, 2, 3, 4, 5, 6, 7, 8, 9, 10, 11, 12, 13, 14, 15, 16, 17, 18, 19, 20, 21, 22, 23, 24, 25, 26, 27, 28, 29, 30, 31, 32, 33] j)) _ (xs (i + 1)) hJ.1) (vx_cwSW 3 hts (gwSW a353 a354 a273 a355) rfl rfl rfl (by decide +kernel) ⟨by decide, by decide⟩) (gc_preS hK hP hD hS hA hE rfl) rfl rfl hl.1 rfl (lv_room (Nat.le_of_ble_eq_true rfl)) dL_law_532 ⟨by omega, by omega⟩) hP hD hS hA rfl (fun v1 sp2 sg3 H locs hp4 ha5 hb6 hP hD hS => ?_)
  obtain ⟨hk1, r7, rfl⟩ := hp4
  have hk : KG 1 9 6 sg sg3 := KG.back (y := 1) (c := 6) hk1 ha5 (by decide) (by decide)
  have hG := hk.1
  have e34 : sg3 34 = sg 34 := hb6 34 (by decide)
  have e37 : sg3 37 = sg 37 := hb6 37 (by decide)
  have hM := IvM.cong hJ.2.1 e34 e37
  have hln : sg3 1 9 = sg3 34 3 := by rw [e34]; exact hk.2.trans hJ.2.2
  refine W.eq (g2 := F0 m 535 ls [.int r7]) rfl ?_
  refine lv_istore (lv' := [(5, .int r7), (0, .ref b), (1, .ref (ad 0)), (2, .ref (ad 34)), (3, .ref (ad 33)), (4, .int (nI i))]) hx hb dL_law_535 hl (by decide) rfl (fun ls hl => ?_)
  refine lv_aload_n hx hb dL_law_537 rfl (lv_at hl 3 rfl) ?_
  refine lv_aload_n hx hb dL_law_538 rfl (lv_at hl 1 rfl) ?_
  refine lv_iload hx hb dL_law_539 (lv_at hl 5 rfl) ?_
  refine lv_iconst (v := (nI 1)) hx hb dL_law_541 (by decide) ?_
  refine lv_iadd hx hb dL_law_542 ?_
  refine gw_top (y := (nI (i + 1))) (nI_add _ _) ?_
  refine va_sld hx hb hX hbl hbA hS (vp_in_nI (n := i + 1) (N := L) (by omega) (by omega)) dL_law_543 ?_
  refine gw_top (y := xs (i + 1)) (by rw [nI_clamp (by omega)]) ?_
  refine gc_go (pl := [34, 35, 36, 37, 38, 39, 40, 41, 42, 43, 44, 45, 46]) (S2 := SM) (ad := ad) (sg := sg3) (va_runV (As := [.int (xs (i + 1))]) (rest := []) ⟨hx, hb, hml, hown, hts⟩ (m_X3_mill l hl9 D cI cJ (fun j => ad (gw_p [34, 35, 36, 37, 38, 39, 40, 41, 42, 43, 44, 45, 46] j)) (fun j => sg3 (gw_p [34, 35, 36, 37, 38, 39, 40, 41, 42, 43, 44, 45, 46] j)) _ (xs (i + 1)) hM) (cwV 1 hts (gwV a356 a357 a358 a135 a359) rfl rfl rfl (by decide +kernel) ⟨by decide, by decide⟩) (gc_preV hK hP hD hS hA hE rfl rfl rfl rfl) rfl rfl hl.1 rfl (lv_room (Nat.le_of_ble_eq_true rfl)) dL_law_544 ⟨by omega, by omega⟩) hP hD hS hA rfl (fun v8 sp9 sg10 H locs hp11 ha12 hb13 hP hD hS => ?_)
  obtain ⟨hk1, r14, rfl⟩ := hp11
  have e1 : sg10 1 = sg3 1 := hb13 1 (by decide)
  have e6 : sg10 6 = sg3 6 := hb13 6 (by decide)
  have e33 : sg10 33 = sg3 33 := hb13 33 (by decide)
  have hG2 : IvG 1 9 6 sg10 := IvG.cong hG e1 e6
  have f34 : sg10 34 = sp9 0 := ha12 0 (by decide)
  have hM2 := IvM.back hk1.1 ha12
  have hln2 : sg10 1 9 = sg10 34 3 := by rw [e1, f34, hk1.2]; exact hln
  have hln := hln2
  refine W.eq (g2 := F0 m 547 ls [.int r14]) rfl ?_
  refine lv_istore (lv' := [(6, .int r14), (5, .int r7), (0, .ref b), (1, .ref (ad 0)), (2, .ref (ad 34)), (3, .ref (ad 33)), (4, .int (nI i))]) hx hb dL_law_547 hl (by decide) rfl (fun ls hl => ?_)
  refine lv_goto (tgt := 592) hx hb dL_law_549 (by decide) ?_
  refine W.widen (k := k + 8) (n := n + 48) (by omega) (by omega) ?_
  exact hnext _ _ _ _ ⟨hG2, hM2, hln⟩ hP hD hS (lv_sub hl [2, 3, 4, 5, 6] rfl)
set_option maxRecDepth 100000 in
set_option maxHeartbeats 4000000 in
theorem law_cost {p : Program} {e : Env} {s : State} {m : MethodId} {below : List Frame} {meth : Method} {c : Code} (l : Launch) (hl9 : l.stackTraces = false) {b L : Nat} {xs : Nat → Int32} (C0 : lw_At p s m meth c b L xs) (D : va_G) (cI : ClassId) (cJ : ClassId × ClassId) (ad : Nat → Nat) (hK : va_K D vwCl (tyS cI cJ) s) (hE : gc_ex gxT gxN (fun q : Nat => s.heap.size ≤ q) s s.heap) {Q : State → Prop} {i k n : Nat} (hi : i + 5 ≤ L) (hL : L ≤ 2560) (hk8 : k ≤ 4143) (hn8 : n ≤ 24864) {sg : Nat → Nat → Int32} {H : Heap} {locs : List Loc} {ls : Array Slot} (hJ : LI sg) (hP : va_P D vwCl (gw cI cJ ad sg SL) H) (hD : va_D (fun q : Nat => s.heap.size ≤ q) (gw cI cJ ad sg SL)) (hS : va_S (fun q : Nat => s.heap.size ≤ q) s.heap H locs) (hl : lv_has ls 7 [(0, .ref b), (1, .ref (ad 0)), (2, .ref (ad 34)), (3, .ref (ad 33)), (4, .int (nI i))]) (hnext : ∀ (sg2 : Nat → Nat → Int32) (H2 : Heap) (locs2 : List Loc) (ls2 : Array Slot), LI sg2 → va_P D vwCl (gw cI cJ ad sg2 SL) H2 → va_D (fun q : Nat => s.heap.size ≤ q) (gw cI cJ ad sg2 SL) → va_S (fun q : Nat => s.heap.size ≤ q) s.heap H2 locs2 → lv_has ls2 7 [(0, .ref b), (1, .ref (ad 0)), (2, .ref (ad 34)), (3, .ref (ad 33)), (4, .int (nI i))] → W p l e room_1 s m #[Value.ref b] below meth c H2 locs2 (k + 8) (n + 48) Q (F0 m 592 ls2 [])) : W p l e room_1 s m #[Value.ref b] below meth c H locs k n Q (F0 m 552 ls []) := by
  obtain ⟨hx, hb, hr, hml, hown, hts, hX, hbl, hlocks, hgv⟩ := id C0
  have hown : s.vm.findClass RL = some m.cls := hown
  have hts : ∀ w ∈ wsAll, w.before #[Value.ref b] s = true := fun w h => hts w (List.mem_filter.mp h).1
  have hA : ∀ q : Nat, s.heap.size ≤ q → (fun q : Nat => s.heap.size ≤ q) q := fun _ h => h
  have hbA : ¬ (fun q : Nat => s.heap.size ≤ q) b := Nat.not_le.mpr hbl
  have hrc : 4243 ≤ room_1.cells := by decide
  have hrs : 25864 ≤ room_1.slots := by decide
  refine lv_aload_n hx hb dL_law_552 rfl (lv_at hl 1 rfl) ?_
  refine lv_aload_n hx hb dL_law_553 rfl (lv_at hl 0 rfl) ?_
  refine lv_iload hx hb dL_law_554 (lv_at hl 4 rfl) ?_
  refine lv_iconst (v := (nI 1)) hx hb dL_law_556 (by decide) ?_
  refine lv_iadd hx hb dL_law_557 ?_
  refine gw_top (y := (nI (i + 1))) (nI_add _ _) ?_
  refine va_sld hx hb hX hbl hbA hS (vp_in_nI (n := i + 1) (N := L) (by omega) (by omega)) dL_law_558 ?_
  refine gw_top (y := xs (i + 1)) (by rw [nI_clamp (by omega)]) ?_
  refine lv_aload_n hx hb dL_law_559 rfl (lv_at hl 0 rfl) ?_
  refine lv_iload hx hb dL_law_560 (lv_at hl 4 rfl) ?_
  refine lv_iconst (v := (nI 2)) hx hb dL_law_562 (by decide) ?_
  refine lv_iadd hx hb dL_law_563 ?_
  refine gw_top (y := (nI (i + 2))) (nI_add _ _) ?_
  refine va_sld hx hb hX hbl hbA hS (vp_in_nI (n := i + 2) (N := L) (by omega) (by omega)) dL_law_564 ?_
  refine gw_top (y := xs (i + 2)) (by rw [nI_clamp (by omega)]) ?_
  refine lv_aload_n hx hb dL_law_565 rfl (lv_at hl 3 rfl) ?_
  refine gc_go (pl := [0, 1, 2, 3, 4, 5, 6, 7, 8, 9, 10, 11, 12, 13, 14, 15, 16, 17, 18, 19, 20, 21, 22, 23, 24, 25, 26, 27, 28, 29, 30, 31, 32, 33]) (S2 := SW) (ad := ad) (sg := sg) (vx_runSW (As := [.ref (ad 0), .int (xs (i + 1)), .int (xs (i + 2)), .ref (ad 33)]) (rest := []) ⟨hx, hb, hml, hown, hts⟩ (m_L_cost l hl9 D cI cJ (fun j => ad (gw_p [0, 1, 2, 3, 4, 5, 6, 7, 8, 9, 10, 11, 12, 13, 14, 15, 16, 17, 18, 19, 20, 21, 22, 23, 24, 25, 26, 27, 28, 29, 30, 31, 32, 33] j)) (fun j => sg (gw_p [0, 1, 2, 3, 4, 5, 6, 7, 8, 9, 10, 11, 12, 13, 14, 15, 16, 17, 18, 19, 20, 21, 22, 23, 24, 25, 26, 27, 28, 29, 30, 31, 32, 33] j)) _ (xs (i + 1)) (xs (i + 2)) hJ.1) (vx_cwSW 4 hts (gwSW a360 a361 a273 a362) rfl rfl rfl (by decide +kernel) ⟨by decide, by decide⟩) (gc_preS hK hP hD hS hA hE rfl) rfl rfl hl.1 rfl (lv_room (Nat.le_of_ble_eq_true rfl)) dL_law_566 ⟨by omega, by omega⟩) hP hD hS hA rfl (fun v1 sp2 sg3 H locs hp4 ha5 hb6 hP hD hS => ?_)
  obtain ⟨hk1, r7, rfl⟩ := hp4
  have hk : KG 1 9 6 sg sg3 := KG.back (y := 1) (c := 6) hk1 ha5 (by decide) (by decide)
  have hG := hk.1
  have e34 : sg3 34 = sg 34 := hb6 34 (by decide)
  have e37 : sg3 37 = sg 37 := hb6 37 (by decide)
  have hM := IvM.cong hJ.2.1 e34 e37
  have hln : sg3 1 9 = sg3 34 3 := by rw [e34]; exact hk.2.trans hJ.2.2
  refine W.eq (g2 := F0 m 569 ls [.int r7]) rfl ?_
  refine lv_istore (lv' := [(5, .int r7), (0, .ref b), (1, .ref (ad 0)), (2, .ref (ad 34)), (3, .ref (ad 33)), (4, .int (nI i))]) hx hb dL_law_569 hl (by decide) rfl (fun ls hl => ?_)
  refine lv_aload_n hx hb dL_law_571 rfl (lv_at hl 3 rfl) ?_
  refine lv_aload_n hx hb dL_law_572 rfl (lv_at hl 1 rfl) ?_
  refine lv_iload hx hb dL_law_573 (lv_at hl 5 rfl) ?_
  refine lv_iconst (v := (nI 1)) hx hb dL_law_575 (by decide) ?_
  refine lv_iadd hx hb dL_law_576 ?_
  refine gw_top (y := (nI (i + 1))) (nI_add _ _) ?_
  refine va_sld hx hb hX hbl hbA hS (vp_in_nI (n := i + 1) (N := L) (by omega) (by omega)) dL_law_577 ?_
  refine gw_top (y := xs (i + 1)) (by rw [nI_clamp (by omega)]) ?_
  refine lv_aload_n hx hb dL_law_578 rfl (lv_at hl 1 rfl) ?_
  refine lv_iload hx hb dL_law_579 (lv_at hl 5 rfl) ?_
  refine lv_iconst (v := (nI 2)) hx hb dL_law_581 (by decide) ?_
  refine lv_iadd hx hb dL_law_582 ?_
  refine gw_top (y := (nI (i + 2))) (nI_add _ _) ?_
  refine va_sld hx hb hX hbl hbA hS (vp_in_nI (n := i + 2) (N := L) (by omega) (by omega)) dL_law_583 ?_
  refine gw_top (y := xs (i + 2)) (by rw [nI_clamp (by omega)]) ?_
  refine gc_go (pl := [34, 35, 36, 37, 38, 39, 40, 41, 42, 43, 44, 45, 46]) (S2 := SM) (ad := ad) (sg := sg3) (va_runV (As := [.int (xs (i + 1)), .int (xs (i + 2))]) (rest := []) ⟨hx, hb, hml, hown, hts⟩ (m_X3_cost l hl9 D cI cJ (fun j => ad (gw_p [34, 35, 36, 37, 38, 39, 40, 41, 42, 43, 44, 45, 46] j)) (fun j => sg3 (gw_p [34, 35, 36, 37, 38, 39, 40, 41, 42, 43, 44, 45, 46] j)) _ (xs (i + 1)) (xs (i + 2)) hM) (cwV 2 hts (gwV a363 a364 a365 a135 a366) rfl rfl rfl (by decide +kernel) ⟨by decide, by decide⟩) (gc_preV hK hP hD hS hA hE rfl rfl rfl rfl) rfl rfl hl.1 rfl (lv_room (Nat.le_of_ble_eq_true rfl)) dL_law_584 ⟨by omega, by omega⟩) hP hD hS hA rfl (fun v8 sp9 sg10 H locs hp11 ha12 hb13 hP hD hS => ?_)
  obtain ⟨hk1, r14, rfl⟩ := hp11
  have e1 : sg10 1 = sg3 1 := hb13 1 (by decide)
  have e6 : sg10 6 = sg3 6 := hb13 6 (by decide)
  have e33 : sg10 33 = sg3 33 := hb13 33 (by decide)
  have hG2 : IvG 1 9 6 sg10 := IvG.cong hG e1 e6
  have f34 : sg10 34 = sp9 0 := ha12 0 (by decide)
  have hM2 := IvM.back hk1.1 ha12
  have hln2 : sg10 1 9 = sg10 34 3 := by rw [e1, f34, hk1.2]; exact hln
  have hln := hln2
  refine W.eq (g2 := F0 m 587 ls [.int r14]) rfl ?_
  refine lv_istore (lv' := [(6, .int r14), (5, .int r7), (0, .ref b), (1, .ref (ad 0)), (2, .ref (ad 34)), (3, .ref (ad 33)), (4, .int (nI i))]) hx hb dL_law_587 hl (by decide) rfl (fun ls hl => ?_)
  refine lv_goto (tgt := 592) hx hb dL_law_589 (by decide) ?_
  refine W.widen (k := k + 8) (n := n + 48) (by omega) (by omega) ?_
  exact hnext _ _ _ _ ⟨hG2, hM2, hln⟩ hP hD hS (lv_sub hl [2, 3, 4, 5, 6] rfl)
set_option maxRecDepth 100000 in
set_option maxHeartbeats 4000000 in
theorem law_loop {p : Program} {e : Env} {s : State} {m : MethodId} {below : List Frame} {meth : Method} {c : Code} (l : Launch) (hl9 : l.stackTraces = false) {b L : Nat} {xs : Nat → Int32} (C0 : lw_At p s m meth c b L xs) (D : va_G) (cI : ClassId) (cJ : ClassId × ClassId) (ad : Nat → Nat) (hK : va_K D vwCl (tyS cI cJ) s) (hE : gc_ex gxT gxN (fun q : Nat => s.heap.size ≤ q) s s.heap) (hL : L ≤ 2560) : ∀ (f t k n : Nat) (sg : Nat → Nat → Int32) (H : Heap) (locs : List Loc) (ls : Array Slot), L + 5 - 5 * t = f → 5 * t ≤ L → k ≤ 47 + 8 * t → n ≤ 288 + 48 * t → LI sg → va_P D vwCl (gw cI cJ ad sg SL) H → va_D (fun q : Nat => s.heap.size ≤ q) (gw cI cJ ad sg SL) → va_S (fun q : Nat => s.heap.size ≤ q) s.heap H locs → lv_has ls 7 [(0, .ref b), (1, .ref (ad 0)), (2, .ref (ad 34)), (3, .ref (ad 33)), (4, .int (nI (5 * t)))] → W p l e room_1 s m #[Value.ref b] below meth c H locs k n (lw_Z below #[Value.ref b] s) (F0 m 23 ls []) := by
  obtain ⟨hx, hb, hr, hml, hown, hts, hX, hbl, hlocks, hgv⟩ := id C0
  have hown : s.vm.findClass RL = some m.cls := hown
  have hts : ∀ w ∈ wsAll, w.before #[Value.ref b] s = true := fun w h => hts w (List.mem_filter.mp h).1
  have hA : ∀ q : Nat, s.heap.size ≤ q → (fun q : Nat => s.heap.size ≤ q) q := fun _ h => h
  have hbA : ¬ (fun q : Nat => s.heap.size ≤ q) b := Nat.not_le.mpr hbl
  have hrc : 4243 ≤ room_1.cells := by decide
  have hrs : 25864 ≤ room_1.slots := by decide
  intro f
  induction f using Nat.strongRecOn with
  | ind f ih =>
  intro t k n sg H locs ls hf ht hk8 hn8 hJ hP hD hS hl
  refine lv_iload hx hb dL_law_23 (lv_at hl 4 rfl) ?_
  refine lv_aload_n hx hb dL_law_25 rfl (lv_at hl 0 rfl) ?_
  refine va_slen hx hb hX hbl hbA hS dL_law_26 ?_
  refine lv_iconst (v := nI 5) hx hb dL_law_27 (by decide) ?_
  refine lv_isub hx hb dL_law_28 ?_
  refine lv_icmp_gt (tgt := 598) hx hb dL_law_29 (by decide) (fun hc => ?_) (fun hc => ?_)
  · exact law_out l hl9 C0 D cI cJ ad hK hE (by omega) (by omega) hS dL_law_598 dL_law_599
  have hi := law_in hL (by omega) hc
  refine lv_aload_n hx hb dL_law_32 rfl (lv_at hl 0 rfl) ?_
  refine lv_iload hx hb dL_law_33 (lv_at hl 4 rfl) ?_
  refine va_sld hx hb hX hbl hbA hS (vp_in_nI (n := 5 * t) (N := L) (by omega) (by omega)) dL_law_35 ?_
  refine lv_bipush (v := nI 15) hx hb dL_law_36 (by decide) ?_
  refine lv_iand hx hb dL_law_38 ?_
  refine lv_topi (fun v hv => ?_)
  have hnext : ∀ (sg2 : Nat → Nat → Int32) (H2 : Heap) (locs2 : List Loc) (ls2 : Array Slot), LI sg2 → va_P D vwCl (gw cI cJ ad sg2 SL) H2 → va_D (fun q : Nat => s.heap.size ≤ q) (gw cI cJ ad sg2 SL) → va_S (fun q : Nat => s.heap.size ≤ q) s.heap H2 locs2 → lv_has ls2 7 [(0, .ref b), (1, .ref (ad 0)), (2, .ref (ad 34)), (3, .ref (ad 33)), (4, .int (nI (5 * t)))] → W p l e room_1 s m #[Value.ref b] below meth c H2 locs2 (k + 8) (n + 48) (lw_Z below #[Value.ref b] s) (F0 m 592 ls2 []) := by
    intro sg2 H2 locs2 ls2 hJ2 hP2 hD2 hS2 hl2
    refine lv_iinc (k := 4) (v := nI (5 * (t + 1))) (lv' := [(4, .int (nI (5 * (t + 1)))), (0, .ref b), (1, .ref (ad 0)), (2, .ref (ad 34)), (3, .ref (ad 33))]) hx hb dL_law_592 hl2 rfl (nI_add (5 * t) 5) (by decide) rfl (fun ls hl => ?_)
    refine lv_goto (tgt := 23) hx hb dL_law_595 (by decide) ?_
    exact ih _ (by omega) (t + 1) (k + 8) (n + 48) sg2 H2 locs2 ls rfl (by omega) (by omega) (by omega) hJ2 hP2 hD2 hS2 (lv_sub hl [1, 2, 3, 4, 0] rfl)
  rcases (show v.toInt = 0 ∨ v.toInt = 1 ∨ v.toInt = 2 ∨ v.toInt = 3 ∨ v.toInt = 4 ∨ v.toInt = 5 ∨ v.toInt = 6 ∨ v.toInt = 7 ∨ v.toInt = 8 ∨ v.toInt = 9 ∨ v.toInt = 10 ∨ v.toInt = 11 ∨ v.toInt = 12 ∨ (v.toInt < 0 ∨ 12 < v.toInt) by omega) with h | h | h | h | h | h | h | h | h | h | h | h | h | h
  · exact lv_tableIn (tgt := 104) (off := 65) hx hb dL_law_39 (by rw [h]; decide) (by rw [h]; decide) (by rw [h]; rfl) (by decide) (law_logs l hl9 C0 D cI cJ ad hK hE hi hL (by omega) (by omega) hJ hP hD hS hl hnext)
  · exact lv_tableIn (tgt := 153) (off := 114) hx hb dL_law_39 (by rw [h]; decide) (by rw [h]; decide) (by rw [h]; rfl) (by decide) (law_pattern l hl9 C0 D cI cJ ad hK hE hi hL (by omega) (by omega) hJ hP hD hS hl hnext)
  · exact lv_tableIn (tgt := 221) (off := 182) hx hb dL_law_39 (by rw [h]; decide) (by rw [h]; decide) (by rw [h]; rfl) (by decide) (law_gives l hl9 C0 D cI cJ ad hK hE hi hL (by omega) (by omega) hJ hP hD hS hl hnext)
  · exact lv_tableIn (tgt := 270) (off := 231) hx hb dL_law_39 (by rw [h]; decide) (by rw [h]; decide) (by rw [h]; rfl) (by decide) (law_order l hl9 C0 D cI cJ ad hK hE hi hL (by omega) (by omega) hJ hP hD hS hl hnext)
  · exact lv_tableIn (tgt := 331) (off := 292) hx hb dL_law_39 (by rw [h]; decide) (by rw [h]; decide) (by rw [h]; rfl) (by decide) (law_hours l hl9 C0 D cI cJ ad hK hE hi hL (by omega) (by omega) hJ hP hD hS hl hnext)
  · exact lv_tableIn (tgt := 368) (off := 329) hx hb dL_law_39 (by rw [h]; decide) (by rw [h]; decide) (by rw [h]; rfl) (by decide) (law_run l hl9 C0 D cI cJ ad hK hE hi hL (by omega) (by omega) hJ hP hD hS hl hnext)
  · exact lv_tableIn (tgt := 396) (off := 357) hx hb dL_law_39 (by rw [h]; decide) (by rw [h]; decide) (by rw [h]; rfl) (by decide) (law_search l hl9 C0 D cI cJ ad hK hE hi hL (by omega) (by omega) hJ hP hD hS hl hnext)
  · exact lv_tableIn (tgt := 424) (off := 385) hx hb dL_law_39 (by rw [h]; decide) (by rw [h]; decide) (by rw [h]; rfl) (by decide) (law_used l hl9 C0 D cI cJ ad hK hE hi hL (by omega) (by omega) hJ hP hD hS hl hnext)
  · exact lv_tableIn (tgt := 452) (off := 413) hx hb dL_law_39 (by rw [h]; decide) (by rw [h]; decide) (by rw [h]; rfl) (by decide) (law_best l hl9 C0 D cI cJ ad hK hE hi hL (by omega) (by omega) hJ hP hD hS hl hnext)
  · exact lv_tableIn (tgt := 480) (off := 441) hx hb dL_law_39 (by rw [h]; decide) (by rw [h]; decide) (by rw [h]; rfl) (by decide) (law_made l hl9 C0 D cI cJ ad hK hE hi hL (by omega) (by omega) hJ hP hD hS hl hnext)
  · exact lv_tableIn (tgt := 508) (off := 469) hx hb dL_law_39 (by rw [h]; decide) (by rw [h]; decide) (by rw [h]; rfl) (by decide) (law_saw l hl9 C0 D cI cJ ad hK hE hi hL (by omega) (by omega) hJ hP hD hS hl hnext)
  · exact lv_tableIn (tgt := 524) (off := 485) hx hb dL_law_39 (by rw [h]; decide) (by rw [h]; decide) (by rw [h]; rfl) (by decide) (law_mill l hl9 C0 D cI cJ ad hK hE hi hL (by omega) (by omega) hJ hP hD hS hl hnext)
  · exact lv_tableIn (tgt := 552) (off := 513) hx hb dL_law_39 (by rw [h]; decide) (by rw [h]; decide) (by rw [h]; rfl) (by decide) (law_cost l hl9 C0 D cI cJ ad hK hE hi hL (by omega) (by omega) hJ hP hD hS hl hnext)
  · exact lv_tableOut (tgt := 592) hx hb dL_law_39 h (by decide) (W.widen (k := k + 8) (n := n + 48) (by omega) (by omega) (hnext sg H locs ls hJ hP hD hS hl))
