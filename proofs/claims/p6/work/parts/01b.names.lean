/-- the words of the tables that stay good -/
def wsAll : List Cond := lw_tbl.filter goodWord
theorem wsq {w : Cond} (h : w ∈ tables_1 ∧ goodWord w = true) : w ∈ wsAll := List.mem_filter.mpr ⟨List.mem_append_right _ h.1, h.2⟩
theorem wsp {w : Cond} (h : w ∈ k2_sels lw_privs ∧ goodWord w = true) : w ∈ wsAll := List.mem_filter.mpr ⟨List.mem_append_left _ h.1, h.2⟩
theorem wsg {w : Cond} (h : w ∈ wsAll) : w ∈ wsAll ∧ ((w.onTables && w.keeps) = true ∨ ∃ ty, w = .arrayClass ty) := ⟨h, good_of_word (List.mem_filter.mp h).2⟩
theorem gwN {w : Cond} (h : w ∈ wsAll) : GoodIn wsAll (w :: wsAll) := fun _ hx => (List.mem_cons.mp hx).elim (fun e => by rw [e]; exact wsg h) wsg
theorem gwV {own C : String} {idx : Nat} {y : MethodName} {w : Cond} (h1 : Cond.methodLink own idx y ∈ wsAll) (h2 : Cond.instanceMethod y ∈ wsAll) (h3 : Cond.selects C y y ∈ wsAll) (h4 : Cond.initialized C ∈ wsAll) (h : w ∈ wsAll) : GoodIn wsAll (wsV own idx C y (w :: wsAll)) := by
  intro x hx
  unfold wsV at hx
  rcases List.mem_append.mp hx with hx | hx
  · simp only [List.mem_cons, List.not_mem_nil, or_false] at hx
    rcases hx with rfl | rfl | rfl | rfl
    · exact wsg h1
    · exact wsg h2
    · exact wsg h3
    · exact wsg h4
  · exact gwN h x hx
theorem gwS {own : String} {idx : Nat} {y : MethodName} {w : Cond} (h1 : Cond.methodLink own idx y ∈ wsAll) (h2 : Cond.static y ∈ wsAll) (h4 : Cond.initialized own ∈ wsAll) (h : w ∈ wsAll) : GoodIn wsAll (wsS own idx y (w :: wsAll)) := by
  intro x hx
  unfold wsS at hx
  rcases List.mem_append.mp hx with hx | hx
  · simp only [List.mem_cons, List.not_mem_nil, or_false] at hx
    rcases hx with rfl | rfl | rfl
    · exact wsg h1
    · exact wsg h2
    · exact wsg h4
  · exact gwN h x hx
theorem gwSW {own : String} {idx : Nat} {y : MethodName} {w : Cond} (h1 : Cond.methodLink own idx y ∈ wsAll) (h2 : Cond.static y ∈ wsAll) (h4 : Cond.initialized y.cls ∈ wsAll) (h : w ∈ wsAll) : GoodIn wsAll (va_wsS own idx y (w :: wsAll)) := by
  intro x hx
  unfold va_wsS at hx
  rcases List.mem_append.mp hx with hx | hx
  · simp only [List.mem_cons, List.not_mem_nil, or_false] at hx
    rcases hx with rfl | rfl | rfl
    · exact wsg h1
    · exact wsg h2
    · exact wsg h4
  · exact gwN h x hx
def RX0 : String := "DayCutPlans$Search"
def TX0 : u_T := fun k => match k with
  | 0 => ("DayCutPlans$Search", "yard", "LDayCutPlans$Yard;", true)
  | 1 => ("DayCutPlans$Search", "counts", "[I", true)
  | 2 => ("DayCutPlans$Search", "logsFree", "[I", true)
  | 3 => ("DayCutPlans$Search", "madeSoFar", "[I", true)
  | 4 => ("DayCutPlans$Search", "minutesFree", "I", false)
  | 5 => ("DayCutPlans$Search", "centsSoFar", "I", false)
  | 6 => ("DayCutPlans$Search", "least", "[I", true)
  | 7 => ("DayCutPlans$Search", "most", "[I", true)
  | 8 => ("DayCutPlans$Search", "worth", "[I", true)
  | 9 => ("DayCutPlans$Search", "stepsAllowed", "I", false)
  | 10 => ("DayCutPlans$Search", "steps", "I", false)
  | 11 => ("DayCutPlans$Search", "spent", "Z", false)
  | 12 => ("DayCutPlans$Search", "found", "Z", false)
  | 13 => ("DayCutPlans$Search", "bestGain", "I", false)
  | _ => ("DayCutPlans$Search", "bestCounts", "[I", true)
def tyX0 : Nat → FieldType := fun k => match k with
  | 0 => .object "DayCutPlans$Yard"
  | 1 => .array .int
  | 2 => .array .int
  | 3 => .array .int
  | 4 => .int
  | 5 => .int
  | 6 => .array .int
  | 7 => .array .int
  | 8 => .array .int
  | 9 => .int
  | 10 => .int
  | 11 => .boolean
  | 12 => .boolean
  | 13 => .int
  | _ => .array .int
theorem nmX0 : ∀ a, a < 15 → ∀ b, b < 15 → a ≠ b → (TX0 a).2.1 ≠ (TX0 b).2.1 := by decide +kernel
theorem tyX0_ok : ∀ k, k < 15 → parseFieldDescriptor (TX0 k).2.2.1 = some (tyX0 k) := by decide +kernel
theorem inwX0 : ∀ w ∈ u_ws RX0 TX0 15, w ∈ wsAll := fun w h => wsq (show w ∈ tables_1 ∧ goodWord w = true by revert w; decide +kernel)
def RX1 : String := "DayCutPlans$Yard"
def TX1 : u_T := fun k => match k with
  | 0 => ("DayCutPlans$Yard", "logsLeft", "[I", true)
  | 1 => ("DayCutPlans$Yard", "centsALog", "[I", true)
  | 2 => ("DayCutPlans$Yard", "classOf", "[I", true)
  | 3 => ("DayCutPlans$Yard", "minutesALog", "[I", true)
  | 4 => ("DayCutPlans$Yard", "boardsALog", "[[I", true)
  | 5 => ("DayCutPlans$Yard", "least", "[I", true)
  | 6 => ("DayCutPlans$Yard", "most", "[I", true)
  | 7 => ("DayCutPlans$Yard", "worth", "[I", true)
  | 8 => ("DayCutPlans$Yard", "stock", "[I", true)
  | 9 => ("DayCutPlans$Yard", "patterns", "I", false)
  | 10 => ("DayCutPlans$Yard", "minutesADay", "I", false)
  | _ => ("DayCutPlans$Yard", "change", "I", false)
def tyX1 : Nat → FieldType := fun k => match k with
  | 0 => .array .int
  | 1 => .array .int
  | 2 => .array .int
  | 3 => .array .int
  | 4 => .array (.array .int)
  | 5 => .array .int
  | 6 => .array .int
  | 7 => .array .int
  | 8 => .array .int
  | 9 => .int
  | 10 => .int
  | _ => .int
theorem nmX1 : ∀ a, a < 12 → ∀ b, b < 12 → a ≠ b → (TX1 a).2.1 ≠ (TX1 b).2.1 := by decide +kernel
theorem tyX1_ok : ∀ k, k < 12 → parseFieldDescriptor (TX1 k).2.2.1 = some (tyX1 k) := by decide +kernel
theorem inwX1 : ∀ w ∈ u_ws RX1 TX1 12, w ∈ wsAll := fun w h => wsq (show w ∈ tables_1 ∧ goodWord w = true by revert w; decide +kernel)
def RX2 : String := "DayCutPlans"
def TX2 : u_T := fun k => match k with
  | 0 => ("DayCutPlans", "yard", "LDayCutPlans$Yard;", true)
  | 1 => ("DayCutPlans", "latest", "LDayCutPlans$Search;", true)
  | 2 => ("DayCutPlans", "trial", "LDayCutPlans$Search;", true)
  | 3 => ("DayCutPlans", "searchedSinceTold", "Z", false)
  | 4 => ("DayCutPlans", "days", "I", false)
  | _ => ("DayCutPlans", "earned", "I", false)
def tyX2 : Nat → FieldType := fun k => match k with
  | 0 => .object "DayCutPlans$Yard"
  | 1 => .object "DayCutPlans$Search"
  | 2 => .object "DayCutPlans$Search"
  | 3 => .boolean
  | 4 => .int
  | _ => .int
theorem nmX2 : ∀ a, a < 6 → ∀ b, b < 6 → a ≠ b → (TX2 a).2.1 ≠ (TX2 b).2.1 := by decide +kernel
theorem tyX2_ok : ∀ k, k < 6 → parseFieldDescriptor (TX2 k).2.2.1 = some (tyX2 k) := by decide +kernel
theorem inwX2 : ∀ w ∈ u_ws RX2 TX2 6, w ∈ wsAll := fun w h => wsq (show w ∈ tables_1 ∧ goodWord w = true by revert w; decide +kernel)
def RX3 : String := "DayCutPlansModel"
def TX3 : u_T := fun k => match k with
  | 0 => ("DayCutPlansModel", "code", "I", false)
  | 1 => ("DayCutPlansModel", "logs", "[I", true)
  | 2 => ("DayCutPlansModel", "cents", "[I", true)
  | 3 => ("DayCutPlansModel", "patterns", "I", false)
  | 4 => ("DayCutPlansModel", "classOf", "[I", true)
  | 5 => ("DayCutPlansModel", "minutes", "[I", true)
  | 6 => ("DayCutPlansModel", "gives", "[I", true)
  | 7 => ("DayCutPlansModel", "least", "[I", true)
  | 8 => ("DayCutPlansModel", "most", "[I", true)
  | 9 => ("DayCutPlansModel", "worth", "[I", true)
  | 10 => ("DayCutPlansModel", "stock", "[I", true)
  | 11 => ("DayCutPlansModel", "hours", "I", false)
  | 12 => ("DayCutPlansModel", "change", "I", false)
  | 13 => ("DayCutPlansModel", "days", "I", false)
  | 14 => ("DayCutPlansModel", "earned", "I", false)
  | 15 => ("DayCutPlansModel", "isSearched", "Z", false)
  | 16 => ("DayCutPlansModel", "isBest", "Z", false)
  | 17 => ("DayCutPlansModel", "isSpent", "Z", false)
  | 18 => ("DayCutPlansModel", "steps", "I", false)
  | 19 => ("DayCutPlansModel", "plan", "[I", true)
  | 20 => ("DayCutPlansModel", "gain", "I", false)
  | 21 => ("DayCutPlansModel", "count", "[I", true)
  | 22 => ("DayCutPlansModel", "found", "[I", true)
  | 23 => ("DayCutPlansModel", "hasFound", "Z", false)
  | 24 => ("DayCutPlansModel", "wasSpent", "Z", false)
  | 25 => ("DayCutPlansModel", "taken", "I", false)
  | _ => ("DayCutPlansModel", "foundGain", "I", false)
def tyX3 : Nat → FieldType := fun k => match k with
  | 0 => .int
  | 1 => .array .int
  | 2 => .array .int
  | 3 => .int
  | 4 => .array .int
  | 5 => .array .int
  | 6 => .array .int
  | 7 => .array .int
  | 8 => .array .int
  | 9 => .array .int
  | 10 => .array .int
  | 11 => .int
  | 12 => .int
  | 13 => .int
  | 14 => .int
  | 15 => .boolean
  | 16 => .boolean
  | 17 => .boolean
  | 18 => .int
  | 19 => .array .int
  | 20 => .int
  | 21 => .array .int
  | 22 => .array .int
  | 23 => .boolean
  | 24 => .boolean
  | 25 => .int
  | _ => .int
theorem nmX3 : ∀ a, a < 27 → ∀ b, b < 27 → a ≠ b → (TX3 a).2.1 ≠ (TX3 b).2.1 := by decide +kernel
theorem tyX3_ok : ∀ k, k < 27 → parseFieldDescriptor (TX3 k).2.2.1 = some (tyX3 k) := by decide +kernel
theorem inwX3 : ∀ w ∈ u_ws RX3 TX3 27, w ∈ wsAll := fun w h => wsq (show w ∈ tables_1 ∧ goodWord w = true by revert w; decide +kernel)
def RL : String := "DayCutPlansLaw"
abbrev vwCl : List vw_C := [(RX0, TX0, 15), (RX1, TX1, 12), (RX2, TX2, 6), (RX3, TX3, 27)]
abbrev cX2_needIndex : ByteArray := prog_1_method_17_code
def yX2_needIndex : MethodName := ⟨RX2, "needIndex", "(II)V"⟩
abbrev wsX2_needIndex : List Cond := .code yX2_needIndex cX2_needIndex 2 none :: wsAll
abbrev cX2_needRange : ByteArray := prog_1_method_18_code
def yX2_needRange : MethodName := ⟨RX2, "needRange", "(III)V"⟩
abbrev wsX2_needRange : List Cond := .code yX2_needRange cX2_needRange 3 none :: wsAll
abbrev cX2_needBest : ByteArray := prog_1_method_19_code
def yX2_needBest : MethodName := ⟨RX2, "needBest", "(LDayCutPlans$Search;)V"⟩
abbrev wsX2_needBest : List Cond := .code yX2_needBest cX2_needBest 1 none :: wsAll
abbrev cX0_startWithEmptyPlan : ByteArray := prog_2_method_3_code
def yX0_startWithEmptyPlan : MethodName := ⟨RX0, "startWithEmptyPlan", "()V"⟩
abbrev wsX0_startWithEmptyPlan : List Cond := .code yX0_startWithEmptyPlan cX0_startWithEmptyPlan 2 none :: wsAll
abbrev cX0_takeOrders : ByteArray := prog_2_method_4_code
def yX0_takeOrders : MethodName := ⟨RX0, "takeOrders", "(I)V"⟩
abbrev wsX0_takeOrders : List Cond := .code yX0_takeOrders cX0_takeOrders 4 none :: wsAll
abbrev cX0_minutesOfNextLog : ByteArray := prog_2_method_8_code
def yX0_minutesOfNextLog : MethodName := ⟨RX0, "minutesOfNextLog", "(I)I"⟩
abbrev wsX0_minutesOfNextLog : List Cond := .code yX0_minutesOfNextLog cX0_minutesOfNextLog 3 (some .int) :: wsAll
abbrev cX0_oneLogMoreFits : ByteArray := prog_2_method_7_code
def yX0_oneLogMoreFits : MethodName := ⟨RX0, "oneLogMoreFits", "(I)Z"⟩
abbrev wsX0_oneLogMoreFits : List Cond := .code yX0_oneLogMoreFits cX0_oneLogMoreFits 2 (some .boolean) :: wsAll
abbrev cX0_addLog : ByteArray := prog_2_method_9_code
def yX0_addLog : MethodName := ⟨RX0, "addLog", "(I)V"⟩
abbrev wsX0_addLog : List Cond := .code yX0_addLog cX0_addLog 4 none :: wsAll
abbrev cX0_takeLogsBack : ByteArray := prog_2_method_10_code
def yX0_takeLogsBack : MethodName := ⟨RX0, "takeLogsBack", "(I)V"⟩
abbrev wsX0_takeLogsBack : List Cond := .code yX0_takeLogsBack cX0_takeLogsBack 5 none :: wsAll
abbrev cX0_fillsOrders : ByteArray := prog_2_method_12_code
def yX0_fillsOrders : MethodName := ⟨RX0, "fillsOrders", "()Z"⟩
abbrev wsX0_fillsOrders : List Cond := .code yX0_fillsOrders cX0_fillsOrders 2 (some .boolean) :: wsAll
abbrev cX0_gainOfPlan : ByteArray := prog_2_method_13_code
def yX0_gainOfPlan : MethodName := ⟨RX0, "gainOfPlan", "()I"⟩
abbrev wsX0_gainOfPlan : List Cond := .code yX0_gainOfPlan cX0_gainOfPlan 3 (some .int) :: wsAll
abbrev cX0_lookAtPlan : ByteArray := prog_2_method_11_code
def yX0_lookAtPlan : MethodName := ⟨RX0, "lookAtPlan", "()V"⟩
abbrev wsX0_lookAtPlan : List Cond := .code yX0_lookAtPlan cX0_lookAtPlan 2 none :: wsAll
abbrev cX0_tellPatternsFrom : ByteArray := prog_2_method_5_code
def yX0_tellPatternsFrom : MethodName := ⟨RX0, "tellPatternsFrom", "(I)V"⟩
abbrev wsX0_tellPatternsFrom : List Cond := .code yX0_tellPatternsFrom cX0_tellPatternsFrom 3 none :: wsAll
abbrev cX0_takeStep : ByteArray := prog_2_method_6_code
def yX0_takeStep : MethodName := ⟨RX0, "takeStep", "(I)V"⟩
abbrev wsX0_takeStep : List Cond := .code yX0_takeStep cX0_takeStep 2 none :: wsAll
abbrev cX0_goThroughPlans : ByteArray := prog_2_method_2_code
def yX0_goThroughPlans : MethodName := ⟨RX0, "goThroughPlans", "(II)V"⟩
abbrev wsX0_goThroughPlans : List Cond := .code yX0_goThroughPlans cX0_goThroughPlans 3 none :: wsAll
abbrev cX1_boundOfGain : ByteArray := prog_3_method_2_code
def yX1_boundOfGain : MethodName := ⟨RX1, "boundOfGain", "()I"⟩
abbrev wsX1_boundOfGain : List Cond := .code yX1_boundOfGain cX1_boundOfGain 3 (some .int) :: wsAll
abbrev cX1_patternsUsedIn : ByteArray := prog_3_method_4_code
def yX1_patternsUsedIn : MethodName := ⟨RX1, "patternsUsedIn", "([I)I"⟩
abbrev wsX1_patternsUsedIn : List Cond := .code yX1_patternsUsedIn cX1_patternsUsedIn 4 (some .int) :: wsAll
abbrev cX1_minutesOf : ByteArray := prog_3_method_3_code
def yX1_minutesOf : MethodName := ⟨RX1, "minutesOf", "([I)I"⟩
abbrev wsX1_minutesOf : List Cond := .code yX1_minutesOf cX1_minutesOf 4 (some .int) :: wsAll
abbrev cX1_madeBy : ByteArray := prog_3_method_5_code
def yX1_madeBy : MethodName := ⟨RX1, "madeBy", "([II)I"⟩
abbrev wsX1_madeBy : List Cond := .code yX1_madeBy cX1_madeBy 5 (some .int) :: wsAll
abbrev cX1_doPlan : ByteArray := prog_3_method_6_code
def yX1_doPlan : MethodName := ⟨RX1, "doPlan", "([I)V"⟩
abbrev wsX1_doPlan : List Cond := .code yX1_doPlan cX1_doPlan 4 none :: wsAll
abbrev cX2_forgetSearch : ByteArray := prog_1_method_16_code
def yX2_forgetSearch : MethodName := ⟨RX2, "forgetSearch", "()V"⟩
abbrev wsX2_forgetSearch : List Cond := .code yX2_forgetSearch cX2_forgetSearch 1 none :: wsAll
abbrev cX2_logs : ByteArray := prog_1_method_2_code
def yX2_logs : MethodName := ⟨RX2, "logs", "(III)V"⟩
abbrev wsX2_logs : List Cond := .code yX2_logs cX2_logs 4 none :: wsAll
abbrev cX2_order : ByteArray := prog_1_method_5_code
def yX2_order : MethodName := ⟨RX2, "order", "(IIII)V"⟩
abbrev wsX2_order : List Cond := .code yX2_order cX2_order 5 none :: wsAll
abbrev cX2_hours : ByteArray := prog_1_method_6_code
def yX2_hours : MethodName := ⟨RX2, "hours", "(II)V"⟩
abbrev wsX2_hours : List Cond := .code yX2_hours cX2_hours 3 none :: wsAll
abbrev cX2_gives : ByteArray := prog_1_method_4_code
def yX2_gives : MethodName := ⟨RX2, "gives", "(III)V"⟩
abbrev wsX2_gives : List Cond := .code yX2_gives cX2_gives 4 none :: wsAll
abbrev cX2_pattern : ByteArray := prog_1_method_3_code
def yX2_pattern : MethodName := ⟨RX2, "pattern", "(II)I"⟩
abbrev wsX2_pattern : List Cond := .code yX2_pattern cX2_pattern 4 (some .int) :: wsAll
abbrev cX2_run : ByteArray := prog_1_method_7_code
def yX2_run : MethodName := ⟨RX2, "run", "(I)I"⟩
abbrev wsX2_run : List Cond := .code yX2_run cX2_run 2 (some .int) :: wsAll
abbrev cX2_search : ByteArray := prog_1_method_8_code
def yX2_search : MethodName := ⟨RX2, "search", "(I)I"⟩
abbrev wsX2_search : List Cond := .code yX2_search cX2_search 2 (some .int) :: wsAll
abbrev cX2_used : ByteArray := prog_1_method_9_code
def yX2_used : MethodName := ⟨RX2, "used", "(I)I"⟩
abbrev wsX2_used : List Cond := .code yX2_used cX2_used 2 (some .int) :: wsAll
abbrev cX2_best : ByteArray := prog_1_method_10_code
def yX2_best : MethodName := ⟨RX2, "best", "(I)I"⟩
abbrev wsX2_best : List Cond := .code yX2_best cX2_best 2 (some .int) :: wsAll
abbrev cX2_made : ByteArray := prog_1_method_11_code
def yX2_made : MethodName := ⟨RX2, "made", "(I)I"⟩
abbrev wsX2_made : List Cond := .code yX2_made cX2_made 2 (some .int) :: wsAll
abbrev cX2_saw : ByteArray := prog_1_method_12_code
def yX2_saw : MethodName := ⟨RX2, "saw", "()I"⟩
abbrev wsX2_saw : List Cond := .code yX2_saw cX2_saw 2 (some .int) :: wsAll
abbrev cX2_mill : ByteArray := prog_1_method_13_code
def yX2_mill : MethodName := ⟨RX2, "mill", "(I)I"⟩
abbrev wsX2_mill : List Cond := .code yX2_mill cX2_mill 2 (some .int) :: wsAll
abbrev cX2_gainOfTrial : ByteArray := prog_1_method_15_code
def yX2_gainOfTrial : MethodName := ⟨RX2, "gainOfTrial", "(II)I"⟩
abbrev wsX2_gainOfTrial : List Cond := .code yX2_gainOfTrial cX2_gainOfTrial 3 (some .int) :: wsAll
abbrev cX2_cost : ByteArray := prog_1_method_14_code
def yX2_cost : MethodName := ⟨RX2, "cost", "(II)I"⟩
abbrev wsX2_cost : List Cond := .code yX2_cost cX2_cost 5 (some .int) :: wsAll
abbrev cX3_isIn : ByteArray := prog_5_method_3_code
def yX3_isIn : MethodName := ⟨RX3, "isIn", "(III)Z"⟩
abbrev wsX3_isIn : List Cond := .code yX3_isIn cX3_isIn 3 (some .boolean) :: wsAll
abbrev cX3_thrown : ByteArray := prog_5_method_2_code
def yX3_thrown : MethodName := ⟨RX3, "thrown", "()I"⟩
abbrev wsX3_thrown : List Cond := .code yX3_thrown cX3_thrown 1 (some .int) :: wsAll
abbrev cX3_forget : ByteArray := prog_5_method_4_code
def yX3_forget : MethodName := ⟨RX3, "forget", "()V"⟩
abbrev wsX3_forget : List Cond := .code yX3_forget cX3_forget 1 none :: wsAll
abbrev cX3_logs : ByteArray := prog_5_method_5_code
def yX3_logs : MethodName := ⟨RX3, "logs", "(III)V"⟩
abbrev wsX3_logs : List Cond := .code yX3_logs cX3_logs 4 none :: wsAll
abbrev cX3_order : ByteArray := prog_5_method_9_code
def yX3_order : MethodName := ⟨RX3, "order", "(IIII)V"⟩
abbrev wsX3_order : List Cond := .code yX3_order cX3_order 5 none :: wsAll
abbrev cX3_hours : ByteArray := prog_5_method_10_code
def yX3_hours : MethodName := ⟨RX3, "hours", "(II)V"⟩
abbrev wsX3_hours : List Cond := .code yX3_hours cX3_hours 3 none :: wsAll
abbrev cX3_isPattern : ByteArray := prog_5_method_7_code
def yX3_isPattern : MethodName := ⟨RX3, "isPattern", "(I)Z"⟩
abbrev wsX3_isPattern : List Cond := .code yX3_isPattern cX3_isPattern 2 (some .boolean) :: wsAll
abbrev cX3_gives : ByteArray := prog_5_method_8_code
def yX3_gives : MethodName := ⟨RX3, "gives", "(III)V"⟩
abbrev wsX3_gives : List Cond := .code yX3_gives cX3_gives 4 none :: wsAll
abbrev cX3_pattern : ByteArray := prog_5_method_6_code
def yX3_pattern : MethodName := ⟨RX3, "pattern", "(II)I"⟩
abbrev wsX3_pattern : List Cond := .code yX3_pattern cX3_pattern 3 (some .int) :: wsAll
abbrev cX1_init : ByteArray := prog_3_method_1_code
def yX1_init : MethodName := ⟨RX1, "<init>", "()V"⟩
abbrev wsX1_init : List Cond := .code yX1_init cX1_init 1 none :: wsAll
abbrev cX0_init : ByteArray := prog_2_method_1_code
def yX0_init : MethodName := ⟨RX0, "<init>", "(LDayCutPlans$Yard;)V"⟩
abbrev wsX0_init : List Cond := .code yX0_init cX0_init 2 none :: wsAll
abbrev cX3_init : ByteArray := prog_5_method_1_code
def yX3_init : MethodName := ⟨RX3, "<init>", "()V"⟩
abbrev wsX3_init : List Cond := .code yX3_init cX3_init 1 none :: wsAll
abbrev cX2_init : ByteArray := prog_1_method_1_code
def yX2_init : MethodName := ⟨RX2, "<init>", "()V"⟩
abbrev wsX2_init : List Cond := .code yX2_init cX2_init 1 none :: wsAll
abbrev cL_law : ByteArray := code
def yL_law : MethodName := ⟨RL, "law", "([I)Z"⟩
