/-- the words of the tables that stay good -/
def wsAll : List Cond := lw_tbl.filter goodWord
theorem wsq {w : Cond} (h : w ∈ tables_1 ∧ goodWord w = true) : w ∈ wsAll := List.mem_filter.mpr ⟨List.mem_append_right _ h.1, h.2⟩
theorem wsp {w : Cond} (h : w ∈ k2_sels lw_privs ∧ goodWord w = true) : w ∈ wsAll := List.mem_filter.mpr ⟨List.mem_append_left _ h.1, h.2⟩
theorem wsg {w : Cond} (h : w ∈ wsAll) : w ∈ wsAll ∧ ((w.onTables && w.keeps) = true ∨ ∃ ty, w = .arrayClass ty) := ⟨h, good_of_word (List.mem_filter.mp h).2⟩
theorem gwN {w : Cond} (h : w ∈ wsAll) : GoodIn wsAll (w :: wsAll) := fun _ hx => (List.mem_cons.mp hx).elim (fun e => by rw [e]; exact wsg h) wsg
theorem gwV {own C : String} {idx : Nat} {y : MethodName} {w : Cond} (h1 : Cond.methodLink own idx y ∈ wsAll) (h2 : Cond.instanceMethod y ∈ wsAll) (h3 : Cond.selects C y y ∈ wsAll) (h4 : Cond.initialized C ∈ wsAll) (h : w ∈ wsAll) : GoodIn wsAll (wsV own idx C y (w :: wsAll)) := by
  intro x hx
  unfold wsV at hx
  rcases List.mem_append.mp hx with hx | hx
  · simp only [List.mem_cons, List.not_mem_nil, or_false] at hx
    rcases hx with rfl | rfl | rfl | rfl
    · exact wsg h1
    · exact wsg h2
    · exact wsg h3
    · exact wsg h4
  · exact gwN h x hx
theorem gwS {own : String} {idx : Nat} {y : MethodName} {w : Cond} (h1 : Cond.methodLink own idx y ∈ wsAll) (h2 : Cond.static y ∈ wsAll) (h4 : Cond.initialized own ∈ wsAll) (h : w ∈ wsAll) : GoodIn wsAll (wsS own idx y (w :: wsAll)) := by
  intro x hx
  unfold wsS at hx
  rcases List.mem_append.mp hx with hx | hx
  · simp only [List.mem_cons, List.not_mem_nil, or_false] at hx
    rcases hx with rfl | rfl | rfl
    · exact wsg h1
    · exact wsg h2
    · exact wsg h4
  · exact gwN h x hx
theorem gwSW {own : String} {idx : Nat} {y : MethodName} {w : Cond} (h1 : Cond.methodLink own idx y ∈ wsAll) (h2 : Cond.static y ∈ wsAll) (h4 : Cond.initialized y.cls ∈ wsAll) (h : w ∈ wsAll) : GoodIn wsAll (va_wsS own idx y (w :: wsAll)) := by
  intro x hx
  unfold va_wsS at hx
  rcases List.mem_append.mp hx with hx | hx
  · simp only [List.mem_cons, List.not_mem_nil, or_false] at hx
    rcases hx with rfl | rfl | rfl
    · exact wsg h1
    · exact wsg h2
    · exact wsg h4
  · exact gwN h x hx
def hhL_logs : List (Nat × Nat × Nat × Nat) := [(0, 7, 10, 13), (0, 7, 14, 15)]
def hhL_pattern : List (Nat × Nat × Nat × Nat) := [(0, 10, 13, 13), (0, 10, 17, 15), (0, 10, 21, 21)]
def hhL_gives : List (Nat × Nat × Nat × Nat) := [(0, 7, 10, 13), (0, 7, 14, 15)]
def hhL_order : List (Nat × Nat × Nat × Nat) := [(0, 9, 12, 13), (0, 9, 16, 15)]
def hhL_hours : List (Nat × Nat × Nat × Nat) := [(0, 6, 9, 15)]
def hhL_run : List (Nat × Nat × Nat × Nat) := [(0, 9, 12, 15)]
def hhL_search : List (Nat × Nat × Nat × Nat) := [(0, 9, 12, 13), (0, 9, 15, 21)]
def hhL_used : List (Nat × Nat × Nat × Nat) := [(0, 9, 12, 13), (0, 9, 15, 21)]
def hhL_best : List (Nat × Nat × Nat × Nat) := [(0, 9, 12, 13), (0, 9, 15, 21)]
def hhL_made : List (Nat × Nat × Nat × Nat) := [(0, 9, 12, 13), (0, 9, 15, 21)]
def hhL_saw : List (Nat × Nat × Nat × Nat) := [(0, 8, 11, 21)]
def hhL_mill : List (Nat × Nat × Nat × Nat) := [(0, 9, 12, 13)]
def hhL_cost : List (Nat × Nat × Nat × Nat) := [(0, 10, 13, 13), (0, 10, 17, 15), (0, 10, 21, 21)]
def RX0 : String := "DayCutPlans$Search"
def TX0 : u_T := fun k => match k with
  | 0 => ("DayCutPlans$Search", "yard", "LDayCutPlans$Yard;", true)
  | 1 => ("DayCutPlans$Search", "counts", "[I", true)
  | 2 => ("DayCutPlans$Search", "logsFree", "[I", true)
  | 3 => ("DayCutPlans$Search", "madeSoFar", "[I", true)
  | 4 => ("DayCutPlans$Search", "minutesFree", "I", false)
  | 5 => ("DayCutPlans$Search", "centsSoFar", "I", false)
  | 6 => ("DayCutPlans$Search", "least", "[I", true)
  | 7 => ("DayCutPlans$Search", "most", "[I", true)
  | 8 => ("DayCutPlans$Search", "worth", "[I", true)
  | 9 => ("DayCutPlans$Search", "stepsAllowed", "I", false)
  | 10 => ("DayCutPlans$Search", "steps", "I", false)
  | 11 => ("DayCutPlans$Search", "spent", "Z", false)
  | 12 => ("DayCutPlans$Search", "found", "Z", false)
  | 13 => ("DayCutPlans$Search", "bestGain", "I", false)
  | _ => ("DayCutPlans$Search", "bestCounts", "[I", true)
def tyX0 : Nat → FieldType := fun k => match k with
  | 0 => .object "DayCutPlans$Yard"
  | 1 => .array .int
  | 2 => .array .int
  | 3 => .array .int
  | 4 => .int
  | 5 => .int
  | 6 => .array .int
  | 7 => .array .int
  | 8 => .array .int
  | 9 => .int
  | 10 => .int
  | 11 => .boolean
  | 12 => .boolean
  | 13 => .int
  | _ => .array .int
theorem nmX0 : ∀ a, a < 15 → ∀ b, b < 15 → a ≠ b → (TX0 a).2.1 ≠ (TX0 b).2.1 := by decide +kernel
theorem tyX0_ok : ∀ k, k < 15 → parseFieldDescriptor (TX0 k).2.2.1 = some (tyX0 k) := by decide +kernel
theorem inwX0 : ∀ w ∈ u_ws RX0 TX0 15, w ∈ wsAll := fun w h => wsq (show w ∈ tables_1 ∧ goodWord w = true by revert w; decide +kernel)
def RX1 : String := "DayCutPlans$Yard"
def TX1 : u_T := fun k => match k with
  | 0 => ("DayCutPlans$Yard", "logsLeft", "[I", true)
  | 1 => ("DayCutPlans$Yard", "centsALog", "[I", true)
  | 2 => ("DayCutPlans$Yard", "classOf", "[I", true)
  | 3 => ("DayCutPlans$Yard", "minutesALog", "[I", true)
  | 4 => ("DayCutPlans$Yard", "boardsALog", "[[I", true)
  | 5 => ("DayCutPlans$Yard", "least", "[I", true)
  | 6 => ("DayCutPlans$Yard", "most", "[I", true)
  | 7 => ("DayCutPlans$Yard", "worth", "[I", true)
  | 8 => ("DayCutPlans$Yard", "stock", "[I", true)
  | 9 => ("DayCutPlans$Yard", "patterns", "I", false)
  | 10 => ("DayCutPlans$Yard", "minutesADay", "I", false)
  | _ => ("DayCutPlans$Yard", "change", "I", false)
def tyX1 : Nat → FieldType := fun k => match k with
  | 0 => .array .int
  | 1 => .array .int
  | 2 => .array .int
  | 3 => .array .int
  | 4 => .array (.array .int)
  | 5 => .array .int
  | 6 => .array .int
  | 7 => .array .int
  | 8 => .array .int
  | 9 => .int
  | 10 => .int
  | _ => .int
theorem nmX1 : ∀ a, a < 12 → ∀ b, b < 12 → a ≠ b → (TX1 a).2.1 ≠ (TX1 b).2.1 := by decide +kernel
theorem tyX1_ok : ∀ k, k < 12 → parseFieldDescriptor (TX1 k).2.2.1 = some (tyX1 k) := by decide +kernel
theorem inwX1 : ∀ w ∈ u_ws RX1 TX1 12, w ∈ wsAll := fun w h => wsq (show w ∈ tables_1 ∧ goodWord w = true by revert w; decide +kernel)
def RX2 : String := "DayCutPlans"
def TX2 : u_T := fun k => match k with
  | 0 => ("DayCutPlans", "yard", "LDayCutPlans$Yard;", true)
  | 1 => ("DayCutPlans", "latest", "LDayCutPlans$Search;", true)
  | 2 => ("DayCutPlans", "trial", "LDayCutPlans$Search;", true)
  | 3 => ("DayCutPlans", "searchedSinceTold", "Z", false)
  | 4 => ("DayCutPlans", "days", "I", false)
  | _ => ("DayCutPlans", "earned", "I", false)
def tyX2 : Nat → FieldType := fun k => match k with
  | 0 => .object "DayCutPlans$Yard"
  | 1 => .object "DayCutPlans$Search"
  | 2 => .object "DayCutPlans$Search"
  | 3 => .boolean
  | 4 => .int
  | _ => .int
theorem nmX2 : ∀ a, a < 6 → ∀ b, b < 6 → a ≠ b → (TX2 a).2.1 ≠ (TX2 b).2.1 := by decide +kernel
theorem tyX2_ok : ∀ k, k < 6 → parseFieldDescriptor (TX2 k).2.2.1 = some (tyX2 k) := by decide +kernel
theorem inwX2 : ∀ w ∈ u_ws RX2 TX2 6, w ∈ wsAll := fun w h => wsq (show w ∈ tables_1 ∧ goodWord w = true by revert w; decide +kernel)
def RX3 : String := "DayCutPlansModel"
def TX3 : u_T := fun k => match k with
  | 0 => ("DayCutPlansModel", "code", "I", false)
  | 1 => ("DayCutPlansModel", "logs", "[I", true)
  | 2 => ("DayCutPlansModel", "cents", "[I", true)
  | 3 => ("DayCutPlansModel", "patterns", "I", false)
  | 4 => ("DayCutPlansModel", "classOf", "[I", true)
  | 5 => ("DayCutPlansModel", "minutes", "[I", true)
  | 6 => ("DayCutPlansModel", "gives", "[I", true)
  | 7 => ("DayCutPlansModel", "least", "[I", true)
  | 8 => ("DayCutPlansModel", "most", "[I", true)
  | 9 => ("DayCutPlansModel", "worth", "[I", true)
  | 10 => ("DayCutPlansModel", "stock", "[I", true)
  | 11 => ("DayCutPlansModel", "hours", "I", false)
  | 12 => ("DayCutPlansModel", "change", "I", false)
  | 13 => ("DayCutPlansModel", "days", "I", false)
  | 14 => ("DayCutPlansModel", "earned", "I", false)
  | 15 => ("DayCutPlansModel", "isSearched", "Z", false)
  | 16 => ("DayCutPlansModel", "isBest", "Z", false)
  | 17 => ("DayCutPlansModel", "isSpent", "Z", false)
  | 18 => ("DayCutPlansModel", "steps", "I", false)
  | 19 => ("DayCutPlansModel", "plan", "[I", true)
  | 20 => ("DayCutPlansModel", "gain", "I", false)
  | 21 => ("DayCutPlansModel", "count", "[I", true)
  | 22 => ("DayCutPlansModel", "found", "[I", true)
  | 23 => ("DayCutPlansModel", "hasFound", "Z", false)
  | 24 => ("DayCutPlansModel", "wasSpent", "Z", false)
  | 25 => ("DayCutPlansModel", "taken", "I", false)
  | _ => ("DayCutPlansModel", "foundGain", "I", false)
def tyX3 : Nat → FieldType := fun k => match k with
  | 0 => .int
  | 1 => .array .int
  | 2 => .array .int
  | 3 => .int
  | 4 => .array .int
  | 5 => .array .int
  | 6 => .array .int
  | 7 => .array .int
  | 8 => .array .int
  | 9 => .array .int
  | 10 => .array .int
  | 11 => .int
  | 12 => .int
  | 13 => .int
  | 14 => .int
  | 15 => .boolean
  | 16 => .boolean
  | 17 => .boolean
  | 18 => .int
  | 19 => .array .int
  | 20 => .int
  | 21 => .array .int
  | 22 => .array .int
  | 23 => .boolean
  | 24 => .boolean
  | 25 => .int
  | _ => .int
theorem nmX3 : ∀ a, a < 27 → ∀ b, b < 27 → a ≠ b → (TX3 a).2.1 ≠ (TX3 b).2.1 := by decide +kernel
theorem tyX3_ok : ∀ k, k < 27 → parseFieldDescriptor (TX3 k).2.2.1 = some (tyX3 k) := by decide +kernel
theorem inwX3 : ∀ w ∈ u_ws RX3 TX3 27, w ∈ wsAll := fun w h => wsq (show w ∈ tables_1 ∧ goodWord w = true by revert w; decide +kernel)
def RL : String := "DayCutPlansLaw"
abbrev vwCl : List vw_C := [(RX0, TX0, 15), (RX1, TX1, 12), (RX2, TX2, 6), (RX3, TX3, 27)]
abbrev cX2_needIndex : ByteArray := prog_1_method_17_code
def yX2_needIndex : MethodName := ⟨RX2, "needIndex", "(II)V"⟩
abbrev wsX2_needIndex : List Cond := .code yX2_needIndex cX2_needIndex 2 none :: wsAll
abbrev cX2_needRange : ByteArray := prog_1_method_18_code
def yX2_needRange : MethodName := ⟨RX2, "needRange", "(III)V"⟩
abbrev wsX2_needRange : List Cond := .code yX2_needRange cX2_needRange 3 none :: wsAll
abbrev cX2_needBest : ByteArray := prog_1_method_19_code
def yX2_needBest : MethodName := ⟨RX2, "needBest", "(LDayCutPlans$Search;)V"⟩
abbrev wsX2_needBest : List Cond := .code yX2_needBest cX2_needBest 1 none :: wsAll
abbrev cX0_startWithEmptyPlan : ByteArray := prog_2_method_3_code
def yX0_startWithEmptyPlan : MethodName := ⟨RX0, "startWithEmptyPlan", "()V"⟩
abbrev wsX0_startWithEmptyPlan : List Cond := .code yX0_startWithEmptyPlan cX0_startWithEmptyPlan 2 none :: wsAll
abbrev cX0_takeOrders : ByteArray := prog_2_method_4_code
def yX0_takeOrders : MethodName := ⟨RX0, "takeOrders", "(I)V"⟩
abbrev wsX0_takeOrders : List Cond := .code yX0_takeOrders cX0_takeOrders 4 none :: wsAll
abbrev cX0_minutesOfNextLog : ByteArray := prog_2_method_8_code
def yX0_minutesOfNextLog : MethodName := ⟨RX0, "minutesOfNextLog", "(I)I"⟩
abbrev wsX0_minutesOfNextLog : List Cond := .code yX0_minutesOfNextLog cX0_minutesOfNextLog 3 (some .int) :: wsAll
abbrev cX0_oneLogMoreFits : ByteArray := prog_2_method_7_code
def yX0_oneLogMoreFits : MethodName := ⟨RX0, "oneLogMoreFits", "(I)Z"⟩
abbrev wsX0_oneLogMoreFits : List Cond := .code yX0_oneLogMoreFits cX0_oneLogMoreFits 2 (some .boolean) :: wsAll
abbrev cX0_addLog : ByteArray := prog_2_method_9_code
def yX0_addLog : MethodName := ⟨RX0, "addLog", "(I)V"⟩
abbrev wsX0_addLog : List Cond := .code yX0_addLog cX0_addLog 4 none :: wsAll
abbrev cX0_takeLogsBack : ByteArray := prog_2_method_10_code
def yX0_takeLogsBack : MethodName := ⟨RX0, "takeLogsBack", "(I)V"⟩
abbrev wsX0_takeLogsBack : List Cond := .code yX0_takeLogsBack cX0_takeLogsBack 5 none :: wsAll
abbrev cX0_fillsOrders : ByteArray := prog_2_method_12_code
def yX0_fillsOrders : MethodName := ⟨RX0, "fillsOrders", "()Z"⟩
abbrev wsX0_fillsOrders : List Cond := .code yX0_fillsOrders cX0_fillsOrders 2 (some .boolean) :: wsAll
abbrev cX0_gainOfPlan : ByteArray := prog_2_method_13_code
def yX0_gainOfPlan : MethodName := ⟨RX0, "gainOfPlan", "()I"⟩
abbrev wsX0_gainOfPlan : List Cond := .code yX0_gainOfPlan cX0_gainOfPlan 3 (some .int) :: wsAll
abbrev cX0_lookAtPlan : ByteArray := prog_2_method_11_code
def yX0_lookAtPlan : MethodName := ⟨RX0, "lookAtPlan", "()V"⟩
abbrev wsX0_lookAtPlan : List Cond := .code yX0_lookAtPlan cX0_lookAtPlan 2 none :: wsAll
abbrev cX0_tellPatternsFrom : ByteArray := prog_2_method_5_code
def yX0_tellPatternsFrom : MethodName := ⟨RX0, "tellPatternsFrom", "(I)V"⟩
abbrev wsX0_tellPatternsFrom : List Cond := .code yX0_tellPatternsFrom cX0_tellPatternsFrom 3 none :: wsAll
abbrev cX0_takeStep : ByteArray := prog_2_method_6_code
def yX0_takeStep : MethodName := ⟨RX0, "takeStep", "(I)V"⟩
abbrev wsX0_takeStep : List Cond := .code yX0_takeStep cX0_takeStep 2 none :: wsAll
abbrev cX0_goThroughPlans : ByteArray := prog_2_method_2_code
def yX0_goThroughPlans : MethodName := ⟨RX0, "goThroughPlans", "(II)V"⟩
abbrev wsX0_goThroughPlans : List Cond := .code yX0_goThroughPlans cX0_goThroughPlans 3 none :: wsAll
abbrev cX1_boundOfGain : ByteArray := prog_3_method_2_code
def yX1_boundOfGain : MethodName := ⟨RX1, "boundOfGain", "()I"⟩
abbrev wsX1_boundOfGain : List Cond := .code yX1_boundOfGain cX1_boundOfGain 3 (some .int) :: wsAll
abbrev cX1_patternsUsedIn : ByteArray := prog_3_method_4_code
def yX1_patternsUsedIn : MethodName := ⟨RX1, "patternsUsedIn", "([I)I"⟩
abbrev wsX1_patternsUsedIn : List Cond := .code yX1_patternsUsedIn cX1_patternsUsedIn 4 (some .int) :: wsAll
abbrev cX1_minutesOf : ByteArray := prog_3_method_3_code
def yX1_minutesOf : MethodName := ⟨RX1, "minutesOf", "([I)I"⟩
abbrev wsX1_minutesOf : List Cond := .code yX1_minutesOf cX1_minutesOf 4 (some .int) :: wsAll
abbrev cX1_madeBy : ByteArray := prog_3_method_5_code
def yX1_madeBy : MethodName := ⟨RX1, "madeBy", "([II)I"⟩
abbrev wsX1_madeBy : List Cond := .code yX1_madeBy cX1_madeBy 5 (some .int) :: wsAll
abbrev cX1_doPlan : ByteArray := prog_3_method_6_code
def yX1_doPlan : MethodName := ⟨RX1, "doPlan", "([I)V"⟩
abbrev wsX1_doPlan : List Cond := .code yX1_doPlan cX1_doPlan 4 none :: wsAll
abbrev cX2_forgetSearch : ByteArray := prog_1_method_16_code
def yX2_forgetSearch : MethodName := ⟨RX2, "forgetSearch", "()V"⟩
abbrev wsX2_forgetSearch : List Cond := .code yX2_forgetSearch cX2_forgetSearch 1 none :: wsAll
abbrev cX2_logs : ByteArray := prog_1_method_2_code
def yX2_logs : MethodName := ⟨RX2, "logs", "(III)V"⟩
abbrev wsX2_logs : List Cond := .code yX2_logs cX2_logs 4 none :: wsAll
abbrev cX2_order : ByteArray := prog_1_method_5_code
def yX2_order : MethodName := ⟨RX2, "order", "(IIII)V"⟩
abbrev wsX2_order : List Cond := .code yX2_order cX2_order 5 none :: wsAll
abbrev cX2_hours : ByteArray := prog_1_method_6_code
def yX2_hours : MethodName := ⟨RX2, "hours", "(II)V"⟩
abbrev wsX2_hours : List Cond := .code yX2_hours cX2_hours 3 none :: wsAll
abbrev cX2_gives : ByteArray := prog_1_method_4_code
def yX2_gives : MethodName := ⟨RX2, "gives", "(III)V"⟩
abbrev wsX2_gives : List Cond := .code yX2_gives cX2_gives 4 none :: wsAll
abbrev cX2_pattern : ByteArray := prog_1_method_3_code
def yX2_pattern : MethodName := ⟨RX2, "pattern", "(II)I"⟩
abbrev wsX2_pattern : List Cond := .code yX2_pattern cX2_pattern 4 (some .int) :: wsAll
abbrev cX2_run : ByteArray := prog_1_method_7_code
def yX2_run : MethodName := ⟨RX2, "run", "(I)I"⟩
abbrev wsX2_run : List Cond := .code yX2_run cX2_run 2 (some .int) :: wsAll
abbrev cX2_search : ByteArray := prog_1_method_8_code
def yX2_search : MethodName := ⟨RX2, "search", "(I)I"⟩
abbrev wsX2_search : List Cond := .code yX2_search cX2_search 2 (some .int) :: wsAll
abbrev cX2_used : ByteArray := prog_1_method_9_code
def yX2_used : MethodName := ⟨RX2, "used", "(I)I"⟩
abbrev wsX2_used : List Cond := .code yX2_used cX2_used 2 (some .int) :: wsAll
abbrev cX2_best : ByteArray := prog_1_method_10_code
def yX2_best : MethodName := ⟨RX2, "best", "(I)I"⟩
abbrev wsX2_best : List Cond := .code yX2_best cX2_best 2 (some .int) :: wsAll
abbrev cX2_made : ByteArray := prog_1_method_11_code
def yX2_made : MethodName := ⟨RX2, "made", "(I)I"⟩
abbrev wsX2_made : List Cond := .code yX2_made cX2_made 2 (some .int) :: wsAll
abbrev cX2_saw : ByteArray := prog_1_method_12_code
def yX2_saw : MethodName := ⟨RX2, "saw", "()I"⟩
abbrev wsX2_saw : List Cond := .code yX2_saw cX2_saw 2 (some .int) :: wsAll
abbrev cX2_mill : ByteArray := prog_1_method_13_code
def yX2_mill : MethodName := ⟨RX2, "mill", "(I)I"⟩
abbrev wsX2_mill : List Cond := .code yX2_mill cX2_mill 2 (some .int) :: wsAll
abbrev cX2_gainOfTrial : ByteArray := prog_1_method_15_code
def yX2_gainOfTrial : MethodName := ⟨RX2, "gainOfTrial", "(II)I"⟩
abbrev wsX2_gainOfTrial : List Cond := .code yX2_gainOfTrial cX2_gainOfTrial 3 (some .int) :: wsAll
abbrev cX2_cost : ByteArray := prog_1_method_14_code
def yX2_cost : MethodName := ⟨RX2, "cost", "(II)I"⟩
abbrev wsX2_cost : List Cond := .code yX2_cost cX2_cost 5 (some .int) :: wsAll
abbrev cX3_isIn : ByteArray := prog_5_method_3_code
def yX3_isIn : MethodName := ⟨RX3, "isIn", "(III)Z"⟩
abbrev wsX3_isIn : List Cond := .code yX3_isIn cX3_isIn 3 (some .boolean) :: wsAll
abbrev cX3_thrown : ByteArray := prog_5_method_2_code
def yX3_thrown : MethodName := ⟨RX3, "thrown", "()I"⟩
abbrev wsX3_thrown : List Cond := .code yX3_thrown cX3_thrown 1 (some .int) :: wsAll
abbrev cX3_forget : ByteArray := prog_5_method_4_code
def yX3_forget : MethodName := ⟨RX3, "forget", "()V"⟩
abbrev wsX3_forget : List Cond := .code yX3_forget cX3_forget 1 none :: wsAll
abbrev cX3_logs : ByteArray := prog_5_method_5_code
def yX3_logs : MethodName := ⟨RX3, "logs", "(III)V"⟩
abbrev wsX3_logs : List Cond := .code yX3_logs cX3_logs 4 none :: wsAll
abbrev cX3_order : ByteArray := prog_5_method_9_code
def yX3_order : MethodName := ⟨RX3, "order", "(IIII)V"⟩
abbrev wsX3_order : List Cond := .code yX3_order cX3_order 5 none :: wsAll
abbrev cX3_hours : ByteArray := prog_5_method_10_code
def yX3_hours : MethodName := ⟨RX3, "hours", "(II)V"⟩
abbrev wsX3_hours : List Cond := .code yX3_hours cX3_hours 3 none :: wsAll
abbrev cX3_isPattern : ByteArray := prog_5_method_7_code
def yX3_isPattern : MethodName := ⟨RX3, "isPattern", "(I)Z"⟩
abbrev wsX3_isPattern : List Cond := .code yX3_isPattern cX3_isPattern 2 (some .boolean) :: wsAll
abbrev cX3_gives : ByteArray := prog_5_method_8_code
def yX3_gives : MethodName := ⟨RX3, "gives", "(III)V"⟩
abbrev wsX3_gives : List Cond := .code yX3_gives cX3_gives 4 none :: wsAll
abbrev cX3_pattern : ByteArray := prog_5_method_6_code
def yX3_pattern : MethodName := ⟨RX3, "pattern", "(II)I"⟩
abbrev wsX3_pattern : List Cond := .code yX3_pattern cX3_pattern 3 (some .int) :: wsAll
abbrev cX3_lesser : ByteArray := prog_5_method_14_code
def yX3_lesser : MethodName := ⟨RX3, "lesser", "(II)I"⟩
abbrev wsX3_lesser : List Cond := .code yX3_lesser cX3_lesser 2 (some .int) :: wsAll
abbrev cX3_minutesOf : ByteArray := prog_5_method_11_code
def yX3_minutesOf : MethodName := ⟨RX3, "minutesOf", "([II)I"⟩
abbrev wsX3_minutesOf : List Cond := .code yX3_minutesOf cX3_minutesOf 5 (some .int) :: wsAll
abbrev cX3_madeOf : ByteArray := prog_5_method_13_code
def yX3_madeOf : MethodName := ⟨RX3, "madeOf", "([II)I"⟩
abbrev wsX3_madeOf : List Cond := .code yX3_madeOf cX3_madeOf 5 (some .int) :: wsAll
abbrev cX3_fits : ByteArray := prog_5_method_12_code
def yX3_fits : MethodName := ⟨RX3, "fits", "(I)Z"⟩
abbrev wsX3_fits : List Cond := .code yX3_fits cX3_fits 5 (some .boolean) :: wsAll
abbrev cX3_bound : ByteArray := prog_5_method_18_code
def yX3_bound : MethodName := ⟨RX3, "bound", "()I"⟩
abbrev wsX3_bound : List Cond := .code yX3_bound cX3_bound 3 (some .int) :: wsAll
abbrev cX3_look : ByteArray := prog_5_method_15_code
def yX3_look : MethodName := ⟨RX3, "look", "()V"⟩
abbrev wsX3_look : List Cond := .code yX3_look cX3_look 4 none :: wsAll
abbrev cX3_seek : ByteArray := prog_5_method_16_code
def yX3_seek : MethodName := ⟨RX3, "seek", "(I)V"⟩
abbrev wsX3_seek : List Cond := .code yX3_seek cX3_seek 3 none :: wsAll
abbrev cX3_run : ByteArray := prog_5_method_17_code
def yX3_run : MethodName := ⟨RX3, "run", "(I)I"⟩
abbrev wsX3_run : List Cond := .code yX3_run cX3_run 3 (some .int) :: wsAll
abbrev cX3_search : ByteArray := prog_5_method_19_code
def yX3_search : MethodName := ⟨RX3, "search", "(I)I"⟩
abbrev wsX3_search : List Cond := .code yX3_search cX3_search 2 (some .int) :: wsAll
abbrev cX3_used : ByteArray := prog_5_method_20_code
def yX3_used : MethodName := ⟨RX3, "used", "(I)I"⟩
abbrev wsX3_used : List Cond := .code yX3_used cX3_used 2 (some .int) :: wsAll
abbrev cX3_best : ByteArray := prog_5_method_21_code
def yX3_best : MethodName := ⟨RX3, "best", "(I)I"⟩
abbrev wsX3_best : List Cond := .code yX3_best cX3_best 4 (some .int) :: wsAll
abbrev cX3_made : ByteArray := prog_5_method_22_code
def yX3_made : MethodName := ⟨RX3, "made", "(I)I"⟩
abbrev wsX3_made : List Cond := .code yX3_made cX3_made 2 (some .int) :: wsAll
abbrev cX3_saw : ByteArray := prog_5_method_23_code
def yX3_saw : MethodName := ⟨RX3, "saw", "()I"⟩
abbrev wsX3_saw : List Cond := .code yX3_saw cX3_saw 3 (some .int) :: wsAll
abbrev cX3_mill : ByteArray := prog_5_method_24_code
def yX3_mill : MethodName := ⟨RX3, "mill", "(I)I"⟩
abbrev wsX3_mill : List Cond := .code yX3_mill cX3_mill 2 (some .int) :: wsAll
abbrev cX3_cost : ByteArray := prog_5_method_25_code
def yX3_cost : MethodName := ⟨RX3, "cost", "(II)I"⟩
abbrev wsX3_cost : List Cond := .code yX3_cost cX3_cost 8 (some .int) :: wsAll
abbrev cL_logs : ByteArray := method_3_code
def yL_logs : MethodName := ⟨RL, "logs", "(LDayCutPlans;III)I"⟩
abbrev wsL_logs : List Cond := .codeWith yL_logs cL_logs 5 (some .int) hhL_logs :: wsAll
abbrev cL_pattern : ByteArray := method_4_code
def yL_pattern : MethodName := ⟨RL, "pattern", "(LDayCutPlans;II[J)I"⟩
abbrev wsL_pattern : List Cond := .codeWith yL_pattern cL_pattern 5 (some .int) hhL_pattern :: wsAll
abbrev cL_gives : ByteArray := method_5_code
def yL_gives : MethodName := ⟨RL, "gives", "(LDayCutPlans;III)I"⟩
abbrev wsL_gives : List Cond := .codeWith yL_gives cL_gives 5 (some .int) hhL_gives :: wsAll
abbrev cL_order : ByteArray := method_6_code
def yL_order : MethodName := ⟨RL, "order", "(LDayCutPlans;IIII)I"⟩
abbrev wsL_order : List Cond := .codeWith yL_order cL_order 6 (some .int) hhL_order :: wsAll
abbrev cL_hours : ByteArray := method_7_code
def yL_hours : MethodName := ⟨RL, "hours", "(LDayCutPlans;II)I"⟩
abbrev wsL_hours : List Cond := .codeWith yL_hours cL_hours 4 (some .int) hhL_hours :: wsAll
abbrev cL_run : ByteArray := method_8_code
def yL_run : MethodName := ⟨RL, "run", "(LDayCutPlans;I[J)I"⟩
abbrev wsL_run : List Cond := .codeWith yL_run cL_run 4 (some .int) hhL_run :: wsAll
abbrev cL_search : ByteArray := method_9_code
def yL_search : MethodName := ⟨RL, "search", "(LDayCutPlans;I[J)I"⟩
abbrev wsL_search : List Cond := .codeWith yL_search cL_search 4 (some .int) hhL_search :: wsAll
abbrev cL_used : ByteArray := method_10_code
def yL_used : MethodName := ⟨RL, "used", "(LDayCutPlans;I[J)I"⟩
abbrev wsL_used : List Cond := .codeWith yL_used cL_used 4 (some .int) hhL_used :: wsAll
abbrev cL_best : ByteArray := method_11_code
def yL_best : MethodName := ⟨RL, "best", "(LDayCutPlans;I[J)I"⟩
abbrev wsL_best : List Cond := .codeWith yL_best cL_best 4 (some .int) hhL_best :: wsAll
abbrev cL_made : ByteArray := method_12_code
def yL_made : MethodName := ⟨RL, "made", "(LDayCutPlans;I[J)I"⟩
abbrev wsL_made : List Cond := .codeWith yL_made cL_made 4 (some .int) hhL_made :: wsAll
abbrev cL_saw : ByteArray := method_13_code
def yL_saw : MethodName := ⟨RL, "saw", "(LDayCutPlans;[J)I"⟩
abbrev wsL_saw : List Cond := .codeWith yL_saw cL_saw 3 (some .int) hhL_saw :: wsAll
abbrev cL_mill : ByteArray := method_14_code
def yL_mill : MethodName := ⟨RL, "mill", "(LDayCutPlans;I[J)I"⟩
abbrev wsL_mill : List Cond := .codeWith yL_mill cL_mill 4 (some .int) hhL_mill :: wsAll
abbrev cL_cost : ByteArray := method_15_code
def yL_cost : MethodName := ⟨RL, "cost", "(LDayCutPlans;II[J)I"⟩
abbrev wsL_cost : List Cond := .codeWith yL_cost cL_cost 5 (some .int) hhL_cost :: wsAll
abbrev cX1_init : ByteArray := prog_3_method_1_code
def yX1_init : MethodName := ⟨RX1, "<init>", "()V"⟩
abbrev wsX1_init : List Cond := .code yX1_init cX1_init 1 none :: wsAll
abbrev cX0_init : ByteArray := prog_2_method_1_code
def yX0_init : MethodName := ⟨RX0, "<init>", "(LDayCutPlans$Yard;)V"⟩
abbrev wsX0_init : List Cond := .code yX0_init cX0_init 2 none :: wsAll
abbrev cX3_init : ByteArray := prog_5_method_1_code
def yX3_init : MethodName := ⟨RX3, "<init>", "()V"⟩
abbrev wsX3_init : List Cond := .code yX3_init cX3_init 1 none :: wsAll
abbrev cX2_init : ByteArray := prog_1_method_1_code
def yX2_init : MethodName := ⟨RX2, "<init>", "()V"⟩
abbrev wsX2_init : List Cond := .code yX2_init cX2_init 1 none :: wsAll
abbrev cL_law : ByteArray := code
def yL_law : MethodName := ⟨RL, "law", "([I)Z"⟩
