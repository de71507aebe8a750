theorem mu_over {args : Array Value} {s : State} (h : (Cond.arrayOver (.array .int)).before args s = true) : ∃ cI cJ : ClassId, mu_A s cJ cI := by
  have h : (Cond.arrayOver (.array .int)).holds args s none s [] = true := h
  simp only [Cond.holds, Cond.value, beq_iff_eq] at h
  cases hc : s.vm.findClass (FieldType.array .int).toString with
  | none => simp [hc] at h
  | some comp =>
    simp only [hc, Option.bind_some, Option.bind_eq_some_iff, Option.map_eq_some_iff] at h
    obtain ⟨c, hi, k, hk, hb⟩ := h
    obtain ⟨hlt, hp, -⟩ := Array.findIdx?_eq_some_iff_getElem.mp hi
    have hkk : s.vm.classes[c] = k := (Array.getElem?_eq_some_iff.mp hk).2
    rw [hkk] at hp
    cases hkind : k.kind with
    | array component ty =>
      rw [hkind] at hb hp
      simp at hb hp
      exact ⟨comp, c, k, hc, hk, by rw [hkind, hp, hb.1], hb.2⟩
    | _ => rw [hkind] at hb; simp at hb
theorem st_texts : ∀ q ∈ gxT, q.1 = RX2 ∧ Cond.stringRef q.1 q.2.1 q.2.2 ∈ lw_tbl := by decide +kernel
theorem st_nest : ∀ w ∈ gxN, gc_nk w = true ∧ w.onTables = true ∧ w ∈ lw_tbl := by decide +kernel
set_option maxHeartbeats 4000000 in
set_option maxRecDepth 100000 in
/-- what goes along, at the law's start -/
theorem st_ex {s : State} {b : Nat} {c2 : ClassId} (hts : ∀ w ∈ lw_tbl, w.before #[Value.ref b] s = true) (hgv : (Jvm.Cond.and given_1 narrow_1).before #[Value.ref b] s = true) (hc : s.vm.findClass RX2 = some c2) : gc_ex gxT gxN (fun q : Nat => s.heap.size ≤ q) s s.heap := by
  have hg := flat_of_before _ hgv
  refine ⟨vx_Zqof (hts (.laysStatic "java/lang/Throwable" "UNASSIGNED_STACK" "[Ljava/lang/StackTraceElement;") (List.mem_append_right _ (List.mem_of_getElem? (i := 206) (by decide +kernel)))) (hts (.initialized "java/lang/Throwable") (List.mem_append_right _ (List.mem_of_getElem? (i := 5) (by decide +kernel)))) (hg _ (by decide +kernel)) (fun a h => Nat.not_le.mpr h), vx_Zqof (hts (.laysStatic "java/lang/Throwable" "SUPPRESSED_SENTINEL" "Ljava/util/List;") (List.mem_append_right _ (List.mem_of_getElem? (i := 208) (by decide +kernel)))) (hts (.initialized "java/lang/Throwable") (List.mem_append_right _ (List.mem_of_getElem? (i := 5) (by decide +kernel)))) (hg _ (by decide +kernel)) (fun a h => Nat.not_le.mpr h), ?_, ?_, ?_⟩
  · intro q hq
    obtain ⟨e, hm⟩ := st_texts q hq
    have hw := hts _ hm
    obtain ⟨-, -, -, sa, -, -, -, -, -, hev⟩ := Cond.stringRef_spec (by rw [e]; exact hc) hw
    exact ⟨sa, vk_R.of hw hev⟩
  · intro w hw
    obtain ⟨a1, a2, a3⟩ := st_nest w hw
    exact ⟨a1, va_Nw.of a2 (hts _ a3)⟩
  · intro q hq
    simp only [gxC, List.mem_cons, List.not_mem_nil, or_false] at hq
    rcases hq with rfl | rfl | rfl
    · exact va_Nc.of (hg _ (by decide +kernel))
    · exact va_Nc.of (hg _ (by decide +kernel))
    · exact va_Nc.of (hg _ (by decide +kernel))
set_option maxHeartbeats 8000000 in
set_option maxRecDepth 100000 in
/-- THE LAW, from its entry -/
theorem whole_start {p : Program} {e : Env} {s : State} {m : MethodId} {below : List Frame} {meth : Method} {c : Code} (l : Launch) (hl9 : l.stackTraces = false) {b L : Nat} {xs : Nat → Int32} (hL : L ≤ 2560) (C0 : lw_At p s m meth c b L xs) : W p l e room_1 s m #[Value.ref b] below meth c s.heap [] 0 0 (lw_Z below #[Value.ref b] s) (entryFrame m ([Value.ref b] : List Value).toArray 7) := by
  obtain ⟨hx, hb, hr, hml, hown, hts0, hX, hbl, hlocks, hgv⟩ := id C0
  have hown : s.vm.findClass RL = some m.cls := hown
  have hts : ∀ w ∈ wsAll, w.before #[Value.ref b] s = true := fun w h => hts0 w (List.mem_filter.mp h).1
  have hA : ∀ q : Nat, s.heap.size ≤ q → (fun q : Nat => s.heap.size ≤ q) q := fun _ h => h
  have hbA : ¬ (fun q : Nat => s.heap.size ≤ q) b := Nat.not_le.mpr hbl
  obtain ⟨c0, iS0, hKn0⟩ := u_known (C := RX0) (T := TX0) (N := 15) (n := 15) hts inwX0 (hts _ a268)
  obtain ⟨c1, iS1, hKn1⟩ := u_known (C := RX1) (T := TX1) (N := 12) (n := 12) hts inwX1 (hts _ a264)
  obtain ⟨c2, iS2, hKn2⟩ := u_known (C := RX2) (T := TX2) (N := 6) (n := 6) hts inwX2 (hts _ a367)
  obtain ⟨c3, iS3, hKn3⟩ := u_known (C := RX3) (T := TX3) (N := 27) (n := 27) hts inwX3 (hts _ a368)
  obtain ⟨D, hKc⟩ : ∃ D : va_G, ∀ (k : Nat) (q : vw_C), vwCl[k]? = some q → u_Kn s q.1 q.2.1 q.2.2 (D.1 k) (D.2 k) := by
    refine ⟨(fun k => if k = 0 then c0 else if k = 1 then c1 else if k = 2 then c2 else c3, fun k => if k = 0 then iS0 else if k = 1 then iS1 else if k = 2 then iS2 else iS3), ?_⟩
    intro k q hq
    match k, hq with
    | 0, hq => cases hq; exact hKn0
    | 1, hq => cases hq; exact hKn1
    | 2, hq => cases hq; exact hKn2
    | 3, hq => cases hq; exact hKn3
    | k + 4, hq => simp [vwCl] at hq
  obtain ⟨cI, cJ1, hmu⟩ := mu_over (hts0 (.arrayOver (.array .int)) (List.mem_append_right _ (List.mem_of_getElem? (i := 28) (by decide +kernel))))
  obtain ⟨cI', kI, coI, hfI, hkI, hkindI⟩ := Cond.arrayClass_spec (hts _ a255)
  have eI : cI' = cI := Option.some.inj ((show s.vm.findClass "[I" = some cI' from hfI).symm.trans hmu.choose_spec.1)
  subst eI
  obtain ⟨cL, kL, coL, hfL, hkL, hkindL⟩ := Cond.arrayClass_spec (hts _ a369)
  have hI : gn_I cI' (cJ1, cL) s := ⟨hfI, hmu⟩
  have hK : va_K D vwCl (tyS cI' (cJ1, cL)) s := by
    refine ⟨hKc, fun k q h => ?_⟩
    match k, h with
    | 0, h => cases h; exact ⟨fun n z => ⟨fun k h => (by cases h), kI, hkI, coI, hkindI⟩, hfI⟩
    | 1, h =>
      cases h
      obtain ⟨kA, a1, a2, a3, a4⟩ := hmu
      exact ⟨fun n z => ⟨fun k h => (by cases h), kA, a2, _, a3⟩, a4⟩
    | 2, h => cases h; exact ⟨fun n z => ⟨fun k h => (by cases h), kL, hkL, coL, hkindL⟩, hfL⟩
    | k + 3, h => simp at h
  have hE := st_ex hts0 hgv hKn2.2.1
  have hS : va_S (fun q : Nat => s.heap.size ≤ q) s.heap s.heap [] := va_S.rf
  have hP : va_P D vwCl [] s.heap := fun k q h => by simp at h
  have hD : va_D (fun q : Nat => s.heap.size ≤ q) [] := ⟨fun i j p q h => by simp at h, fun k q h => by simp at h⟩
  have hl := lv_entry ([.ref b]) (n := 7) (Nat.le_of_ble_eq_true rfl)
  rw [lg_entry_eq]
  generalize (lg_sl ([.ref b]) ++ List.replicate (7 - (lg_sl ([.ref b])).length) Slot.unset).toArray = ls at hl ⊢
  have hl : lv_has ls 7 [(0, .ref b)] := hl
  refine va_new (ci := 2) (fs := [.null, .null, .null, .int 0, .int 0, .int 0]) (C := RX2) (T := TX2) (N := 6) hx hb hts inwX2 tyX2 tyX2_ok hown (hts _ a370) (hts _ a367) (hts _ a97) hK hP hD hS hA rfl (by decide) (by decide) (by decide) dL_law_0 (fun q0 H hP hD hS => ?_)
  have hP : va_P D vwCl [(q0, .inr (2, [.null, .null, .null, .int 0, .int 0, .int 0]))] H := hP
  have hD : va_D (fun q : Nat => s.heap.size ≤ q) [(q0, .inr (2, [.null, .null, .null, .int 0, .int 0, .int 0]))] := hD
  refine lv_dup hx hb dL_law_3 rfl ?_
  have hFc := va_free (wc := [(q0, .inr (2, [.null, .null, .null, .int 0, .int 0, .int 0]))]) hD hS hA [0] rfl
  refine gn_go (va_runI (As := []) (rest := [.ref q0]) ⟨hx, hb, hml, hown, hts⟩ (n_X2_init l D cI' (cJ1, cL) q0 _) (cwI 0 hts (gwN a373) rfl rfl rfl (hts _ a97) (hts _ a371) (hts _ a372) rfl (by decide +kernel) ⟨by decide, by decide⟩) (gn_preI hK hP hD hS hA hE hFc hI) rfl rfl hl.1 rfl (lv_room (Nat.le_of_ble_eq_true rfl)) dL_law_4 ⟨by decide, by decide⟩) hS hFc (fun ad1 H1 locs he hz1 hk1 hP1 hD1 hS => ?_)
  obtain ⟨hP, hD⟩ := va_join (wr := []) (w1 := gw cI' (cJ1, cL) ad1 fr SC) hP hD [0] [] rfl rfl (by decide) (by decide) hk1 hFc hP1 hD1
  generalize H1 = H at hP hS ⊢
  have he1 : ad1 0 = q0 := he
  rw [← he1]
  have hP : va_P D vwCl (gw cI' (cJ1, cL) ad1 fr SC) H := hP
  have hD : va_D (fun q : Nat => s.heap.size ≤ q) (gw cI' (cJ1, cL) ad1 fr SC) := hD
  refine lv_astore_n (lv' := [(1, .ref (ad1 0)), (0, .ref b)]) hx hb dL_law_7 rfl hl (by decide) rfl (fun ls hl => ?_)
  refine va_new (ci := 3) (fs := [.int 0, .null, .null, .int 0, .null, .null, .null, .null, .null, .null, .null, .int 0, .int 0, .int 0, .int 0, .int 0, .int 0, .int 0, .int 0, .null, .int 0, .null, .null, .int 0, .int 0, .int 0, .int 0]) (C := RX3) (T := TX3) (N := 27) hx hb hts inwX3 tyX3 tyX3_ok hown (hts _ a374) (hts _ a368) (hts _ a135) hK hP hD hS hA rfl (by decide) (by decide) (by decide) dL_law_8 (fun q1 H hP hD hS => ?_)
  refine lv_dup hx hb dL_law_11 rfl ?_
  have hPc := hP.sub (ws' := [(q1, .inr (3, [.int 0, .null, .null, .int 0, .null, .null, .null, .null, .null, .null, .null, .int 0, .int 0, .int 0, .int 0, .int 0, .int 0, .int 0, .int 0, .null, .int 0, .null, .null, .int 0, .int 0, .int 0, .int 0]))]) [33] rfl
  have hDc := hD.sub (ws' := [(q1, .inr (3, [.int 0, .null, .null, .int 0, .null, .null, .null, .null, .null, .null, .null, .int 0, .int 0, .int 0, .int 0, .int 0, .int 0, .int 0, .int 0, .null, .int 0, .null, .null, .int 0, .int 0, .int 0, .int 0]))]) [33] (by decide) rfl
  have hFc := va_free (wc := [(q1, .inr (3, [.int 0, .null, .null, .int 0, .null, .null, .null, .null, .null, .null, .null, .int 0, .int 0, .int 0, .int 0, .int 0, .int 0, .int 0, .int 0, .null, .int 0, .null, .null, .int 0, .int 0, .int 0, .int 0]))]) hD hS hA [33] rfl
  refine gn_go (va_runI (As := []) (rest := [.ref q1]) ⟨hx, hb, hml, hown, hts⟩ (n_X3_init l D cI' (cJ1, cL) q1 _) (cwI 0 hts (gwN a377) rfl rfl rfl (hts _ a135) (hts _ a375) (hts _ a376) rfl (by decide +kernel) ⟨by decide, by decide⟩) (gn_preI hK hPc hDc hS hA hE hFc hI) rfl rfl hl.1 rfl (lv_room (Nat.le_of_ble_eq_true rfl)) dL_law_12 ⟨by decide, by decide⟩) hS hFc (fun ad2 H1 locs he hz1 hk1 hP1 hD1 hS => ?_)
  obtain ⟨hP, hD⟩ := va_join (wr := gw cI' (cJ1, cL) ad1 fr SC) (w1 := gw cI' (cJ1, cL) ad2 fm SM) hP hD [33] (List.range 33) rfl rfl (by decide) (by decide) hk1 hFc hP1 hD1
  generalize H1 = H at hP hS ⊢
  have he2 : ad2 0 = q1 := he
  rw [← he2]
  refine lv_astore_n (lv' := [(2, .ref (ad2 0)), (1, .ref (ad1 0)), (0, .ref b)]) hx hb dL_law_15 rfl hl (by decide) rfl (fun ls hl => ?_)
  refine lv_iconst (v := nI 1) hx hb dL_law_16 (by decide) ?_
  refine gx_newl hx hb (hts _ a369) hfL hP hD hS hA (by decide) (by decide) dL_law_17 (fun q2 H hP hD hS => ?_)
  refine lv_astore_n (lv' := [(3, .ref q2), (2, .ref (ad2 0)), (1, .ref (ad1 0)), (0, .ref b)]) hx hb dL_law_19 rfl hl (by decide) rfl (fun ls hl => ?_)
  refine lv_iconst (v := nI 0) hx hb dL_law_20 (by decide) ?_
  refine lv_istore (lv' := [(4, .int (nI 0)), (3, .ref q2), (2, .ref (ad2 0)), (1, .ref (ad1 0)), (0, .ref b)]) hx hb dL_law_21 hl (by decide) rfl (fun ls hl => ?_)
  obtain ⟨ad, had⟩ : ∃ ad : Nat → Nat, ad = fun k => [ad1 0, ad1 1, ad1 2, ad1 3, ad1 4, ad1 5, ad1 6, ad1 7, ad1 8, ad1 9, ad1 10, ad1 11, ad1 12, ad1 13, ad1 14, ad1 15, ad1 16, ad1 17, ad1 18, ad1 19, ad1 20, ad1 21, ad1 22, ad1 23, ad1 24, ad1 25, ad1 26, ad1 27, ad1 28, ad1 29, ad1 30, ad1 31, ad1 32, q2, ad2 0, ad2 1, ad2 2, ad2 3, ad2 4, ad2 5, ad2 6, ad2 7, ad2 8, ad2 9, ad2 10, ad2 11, ad2 12].getD k 0 := ⟨_, rfl⟩
  have hP : va_P D vwCl (gw cI' (cJ1, cL) ad frL SL) H := by
    rw [had]
    exact hP.sub [0, 1, 2, 3, 4, 5, 6, 7, 8, 9, 10, 11, 12, 13, 14, 15, 16, 17, 18, 19, 20, 21, 22, 23, 24, 25, 26, 27, 28, 29, 30, 31, 32, 46, 33, 34, 35, 36, 37, 38, 39, 40, 41, 42, 43, 44, 45] rfl
  have hD : va_D (fun q : Nat => s.heap.size ≤ q) (gw cI' (cJ1, cL) ad frL SL) := by
    rw [had]
    exact hD.sub [0, 1, 2, 3, 4, 5, 6, 7, 8, 9, 10, 11, 12, 13, 14, 15, 16, 17, 18, 19, 20, 21, 22, 23, 24, 25, 26, 27, 28, 29, 30, 31, 32, 46, 33, 34, 35, 36, 37, 38, 39, 40, 41, 42, 43, 44, 45] (by decide) rfl
  have hl : lv_has ls 7 [(4, .int (nI 0)), (3, .ref (ad 33)), (2, .ref (ad 34)), (1, .ref (ad 0)), (0, .ref b)] := by
    rw [had]
    exact hl
  exact law_loop l hl9 C0 D cI' (cJ1, cL) ad hK hE hL _ 0 _ _ frL H _ ls rfl (by omega) (by decide) (by decide) law_fresh hP hD hS (lv_sub hl [4, 3, 2, 1, 0] rfl)
