theorem a0 : (Cond.classLink RX2 143 "java/lang/IndexOutOfBoundsException") ∈ wsAll := wsq ⟨List.mem_of_getElem? (i := 179) (by decide +kernel), by decide +kernel⟩
theorem a1 : (Cond.initialized "java/lang/IndexOutOfBoundsException") ∈ wsAll := wsq ⟨List.mem_of_getElem? (i := 8) (by decide +kernel), by decide +kernel⟩
theorem a2 : (Cond.classLink RX2 148 "java/lang/IllegalArgumentException") ∈ wsAll := wsq ⟨List.mem_of_getElem? (i := 250) (by decide +kernel), by decide +kernel⟩
theorem a3 : (Cond.initialized "java/lang/IllegalArgumentException") ∈ wsAll := wsq ⟨List.mem_of_getElem? (i := 9) (by decide +kernel), by decide +kernel⟩
theorem a4 : (Cond.classLink RX2 51 "java/lang/IllegalStateException") ∈ wsAll := wsq ⟨List.mem_of_getElem? (i := 279) (by decide +kernel), by decide +kernel⟩
theorem a5 : (Cond.initialized "java/lang/IllegalStateException") ∈ wsAll := wsq ⟨List.mem_of_getElem? (i := 10) (by decide +kernel), by decide +kernel⟩
theorem a6 : (Cond.fieldLink RX0 33 RX0 "yard" "LDayCutPlans$Yard;") ∈ wsAll := wsq ⟨List.mem_of_getElem? (i := 97) (by decide +kernel), by decide +kernel⟩
theorem a7 : (Cond.fieldLink RX0 72 RX0 "minutesFree" "I") ∈ wsAll := wsq ⟨List.mem_of_getElem? (i := 101) (by decide +kernel), by decide +kernel⟩
theorem a8 : (Cond.fieldLink RX0 75 RX0 "centsSoFar" "I") ∈ wsAll := wsq ⟨List.mem_of_getElem? (i := 102) (by decide +kernel), by decide +kernel⟩
theorem a9 : (Cond.fieldLink RX0 18 RX0 "madeSoFar" "[I") ∈ wsAll := wsq ⟨List.mem_of_getElem? (i := 100) (by decide +kernel), by decide +kernel⟩
theorem a10 : (Cond.fieldLink RX0 15 RX0 "logsFree" "[I") ∈ wsAll := wsq ⟨List.mem_of_getElem? (i := 99) (by decide +kernel), by decide +kernel⟩
theorem a11 : (Cond.fieldLink RX0 9 RX0 "counts" "[I") ∈ wsAll := wsq ⟨List.mem_of_getElem? (i := 98) (by decide +kernel), by decide +kernel⟩
theorem a12 : (Cond.fieldLink RX0 21 RX0 "least" "[I") ∈ wsAll := wsq ⟨List.mem_of_getElem? (i := 103) (by decide +kernel), by decide +kernel⟩
theorem a13 : (Cond.fieldLink RX0 24 RX0 "most" "[I") ∈ wsAll := wsq ⟨List.mem_of_getElem? (i := 104) (by decide +kernel), by decide +kernel⟩
theorem a14 : (Cond.fieldLink RX0 27 RX0 "worth" "[I") ∈ wsAll := wsq ⟨List.mem_of_getElem? (i := 105) (by decide +kernel), by decide +kernel⟩
theorem a15 : (Cond.methodLink RX0 103 yX0_minutesOfNextLog) ∈ wsAll := wsq ⟨List.mem_of_getElem? (i := 365) (by decide +kernel), by decide +kernel⟩
theorem a16 : (Cond.instanceMethod yX0_minutesOfNextLog) ∈ wsAll := wsq ⟨List.mem_of_getElem? (i := 367) (by decide +kernel), by decide +kernel⟩
theorem a17 : (Cond.selects RX0 yX0_minutesOfNextLog yX0_minutesOfNextLog) ∈ wsAll := wsp (by decide +kernel)
theorem a18 : (Cond.initialized RX0) ∈ wsAll := wsq ⟨List.mem_of_getElem? (i := 3) (by decide +kernel), by decide +kernel⟩
theorem a19 : (Cond.code yX0_minutesOfNextLog cX0_minutesOfNextLog 3 (some .int)) ∈ wsAll := wsq ⟨List.mem_of_getElem? (i := 368) (by decide +kernel), by decide +kernel⟩
theorem a20 : (Cond.methodLink RX0 137 Lib.Math.min.name) ∈ wsAll := wsq ⟨List.mem_of_getElem? (i := 351) (by decide +kernel), by decide +kernel⟩
theorem a21 : (Cond.static Lib.Math.min.name) ∈ wsAll := wsq ⟨List.mem_of_getElem? (i := 352) (by decide +kernel), by decide +kernel⟩
theorem a22 : (Cond.initialized "java/lang/Math") ∈ wsAll := wsq ⟨List.mem_of_getElem? (i := 11) (by decide +kernel), by decide +kernel⟩
theorem a23 : (Cond.code Lib.Math.min.name Lib.Math.min.code 2 (some .int)) ∈ wsAll := wsq ⟨List.mem_of_getElem? (i := 353) (by decide +kernel), by decide +kernel⟩
theorem a24 : (Cond.fieldLink RX0 55 RX0 "found" "Z") ∈ wsAll := wsq ⟨List.mem_of_getElem? (i := 111) (by decide +kernel), by decide +kernel⟩
theorem a25 : (Cond.fieldLink RX0 128 RX0 "bestGain" "I") ∈ wsAll := wsq ⟨List.mem_of_getElem? (i := 114) (by decide +kernel), by decide +kernel⟩
theorem a26 : (Cond.fieldLink RX0 30 RX0 "bestCounts" "[I") ∈ wsAll := wsq ⟨List.mem_of_getElem? (i := 115) (by decide +kernel), by decide +kernel⟩
theorem a27 : (Cond.methodLink RX0 131 arraycopyName) ∈ wsAll := wsq ⟨List.mem_of_getElem? (i := 354) (by decide +kernel), by decide +kernel⟩
theorem a28 : (Cond.native arraycopyName) ∈ wsAll := wsq ⟨List.mem_of_getElem? (i := 356) (by decide +kernel), by decide +kernel⟩
theorem a29 : (Cond.static arraycopyName) ∈ wsAll := wsq ⟨List.mem_of_getElem? (i := 355) (by decide +kernel), by decide +kernel⟩
theorem a30 : (Cond.initialized "java/lang/System") ∈ wsAll := wsq ⟨List.mem_of_getElem? (i := 12) (by decide +kernel), by decide +kernel⟩
theorem a31 : (Cond.methodLink RX0 120 yX0_fillsOrders) ∈ wsAll := wsq ⟨List.mem_of_getElem? (i := 343) (by decide +kernel), by decide +kernel⟩
theorem a32 : (Cond.instanceMethod yX0_fillsOrders) ∈ wsAll := wsq ⟨List.mem_of_getElem? (i := 345) (by decide +kernel), by decide +kernel⟩
theorem a33 : (Cond.selects RX0 yX0_fillsOrders yX0_fillsOrders) ∈ wsAll := wsp (by decide +kernel)
theorem a34 : (Cond.code yX0_fillsOrders cX0_fillsOrders 2 (some .boolean)) ∈ wsAll := wsq ⟨List.mem_of_getElem? (i := 346) (by decide +kernel), by decide +kernel⟩
theorem a35 : (Cond.methodLink RX0 124 yX0_gainOfPlan) ∈ wsAll := wsq ⟨List.mem_of_getElem? (i := 347) (by decide +kernel), by decide +kernel⟩
theorem a36 : (Cond.instanceMethod yX0_gainOfPlan) ∈ wsAll := wsq ⟨List.mem_of_getElem? (i := 349) (by decide +kernel), by decide +kernel⟩
theorem a37 : (Cond.selects RX0 yX0_gainOfPlan yX0_gainOfPlan) ∈ wsAll := wsp (by decide +kernel)
theorem a38 : (Cond.code yX0_gainOfPlan cX0_gainOfPlan 3 (some .int)) ∈ wsAll := wsq ⟨List.mem_of_getElem? (i := 350) (by decide +kernel), by decide +kernel⟩
theorem a39 : (Cond.methodLink RX0 84 yX0_lookAtPlan) ∈ wsAll := wsq ⟨List.mem_of_getElem? (i := 339) (by decide +kernel), by decide +kernel⟩
theorem a40 : (Cond.instanceMethod yX0_lookAtPlan) ∈ wsAll := wsq ⟨List.mem_of_getElem? (i := 341) (by decide +kernel), by decide +kernel⟩
theorem a41 : (Cond.selects RX0 yX0_lookAtPlan yX0_lookAtPlan) ∈ wsAll := wsp (by decide +kernel)
theorem a42 : (Cond.code yX0_lookAtPlan cX0_lookAtPlan 2 none) ∈ wsAll := wsq ⟨List.mem_of_getElem? (i := 342) (by decide +kernel), by decide +kernel⟩
theorem a43 : (Cond.fieldLink RX0 48 RX0 "steps" "I") ∈ wsAll := wsq ⟨List.mem_of_getElem? (i := 107) (by decide +kernel), by decide +kernel⟩
theorem a44 : (Cond.fieldLink RX0 44 RX0 "stepsAllowed" "I") ∈ wsAll := wsq ⟨List.mem_of_getElem? (i := 106) (by decide +kernel), by decide +kernel⟩
theorem a45 : (Cond.methodLink RX0 58 yX0_tellPatternsFrom) ∈ wsAll := wsq ⟨List.mem_of_getElem? (i := 335) (by decide +kernel), by decide +kernel⟩
theorem a46 : (Cond.instanceMethod yX0_tellPatternsFrom) ∈ wsAll := wsq ⟨List.mem_of_getElem? (i := 337) (by decide +kernel), by decide +kernel⟩
theorem a47 : (Cond.selects RX0 yX0_tellPatternsFrom yX0_tellPatternsFrom) ∈ wsAll := wsp (by decide +kernel)
theorem a48 : (Cond.code yX0_tellPatternsFrom cX0_tellPatternsFrom 3 none) ∈ wsAll := wsq ⟨List.mem_of_getElem? (i := 338) (by decide +kernel), by decide +kernel⟩
theorem a49 : (Cond.fieldLink RX0 51 RX0 "spent" "Z") ∈ wsAll := wsq ⟨List.mem_of_getElem? (i := 109) (by decide +kernel), by decide +kernel⟩
theorem a50 : (Cond.methodLink RX0 97 yX0_takeLogsBack) ∈ wsAll := wsq ⟨List.mem_of_getElem? (i := 373) (by decide +kernel), by decide +kernel⟩
theorem a51 : (Cond.instanceMethod yX0_takeLogsBack) ∈ wsAll := wsq ⟨List.mem_of_getElem? (i := 375) (by decide +kernel), by decide +kernel⟩
theorem a52 : (Cond.selects RX0 yX0_takeLogsBack yX0_takeLogsBack) ∈ wsAll := wsp (by decide +kernel)
theorem a53 : (Cond.code yX0_takeLogsBack cX0_takeLogsBack 5 none) ∈ wsAll := wsq ⟨List.mem_of_getElem? (i := 376) (by decide +kernel), by decide +kernel⟩
theorem a54 : (Cond.methodLink RX0 90 yX0_oneLogMoreFits) ∈ wsAll := wsq ⟨List.mem_of_getElem? (i := 361) (by decide +kernel), by decide +kernel⟩
theorem a55 : (Cond.instanceMethod yX0_oneLogMoreFits) ∈ wsAll := wsq ⟨List.mem_of_getElem? (i := 363) (by decide +kernel), by decide +kernel⟩
theorem a56 : (Cond.selects RX0 yX0_oneLogMoreFits yX0_oneLogMoreFits) ∈ wsAll := wsp (by decide +kernel)
theorem a57 : (Cond.code yX0_oneLogMoreFits cX0_oneLogMoreFits 2 (some .boolean)) ∈ wsAll := wsq ⟨List.mem_of_getElem? (i := 364) (by decide +kernel), by decide +kernel⟩
theorem a58 : (Cond.methodLink RX0 94 yX0_addLog) ∈ wsAll := wsq ⟨List.mem_of_getElem? (i := 369) (by decide +kernel), by decide +kernel⟩
theorem a59 : (Cond.instanceMethod yX0_addLog) ∈ wsAll := wsq ⟨List.mem_of_getElem? (i := 371) (by decide +kernel), by decide +kernel⟩
theorem a60 : (Cond.selects RX0 yX0_addLog yX0_addLog) ∈ wsAll := wsp (by decide +kernel)
theorem a61 : (Cond.code yX0_addLog cX0_addLog 4 none) ∈ wsAll := wsq ⟨List.mem_of_getElem? (i := 372) (by decide +kernel), by decide +kernel⟩
theorem a62 : (Cond.methodLink RX0 87 yX0_takeStep) ∈ wsAll := wsq ⟨List.mem_of_getElem? (i := 357) (by decide +kernel), by decide +kernel⟩
theorem a63 : (Cond.instanceMethod yX0_takeStep) ∈ wsAll := wsq ⟨List.mem_of_getElem? (i := 359) (by decide +kernel), by decide +kernel⟩
theorem a64 : (Cond.selects RX0 yX0_takeStep yX0_takeStep) ∈ wsAll := wsp (by decide +kernel)
theorem a65 : (Cond.code yX0_takeStep cX0_takeStep 2 none) ∈ wsAll := wsq ⟨List.mem_of_getElem? (i := 360) (by decide +kernel), by decide +kernel⟩
theorem a66 : (Cond.methodLink RX0 37 yX0_startWithEmptyPlan) ∈ wsAll := wsq ⟨List.mem_of_getElem? (i := 327) (by decide +kernel), by decide +kernel⟩
theorem a67 : (Cond.instanceMethod yX0_startWithEmptyPlan) ∈ wsAll := wsq ⟨List.mem_of_getElem? (i := 329) (by decide +kernel), by decide +kernel⟩
theorem a68 : (Cond.selects RX0 yX0_startWithEmptyPlan yX0_startWithEmptyPlan) ∈ wsAll := wsp (by decide +kernel)
theorem a69 : (Cond.code yX0_startWithEmptyPlan cX0_startWithEmptyPlan 2 none) ∈ wsAll := wsq ⟨List.mem_of_getElem? (i := 330) (by decide +kernel), by decide +kernel⟩
theorem a70 : (Cond.methodLink RX0 40 yX0_takeOrders) ∈ wsAll := wsq ⟨List.mem_of_getElem? (i := 331) (by decide +kernel), by decide +kernel⟩
theorem a71 : (Cond.instanceMethod yX0_takeOrders) ∈ wsAll := wsq ⟨List.mem_of_getElem? (i := 333) (by decide +kernel), by decide +kernel⟩
theorem a72 : (Cond.selects RX0 yX0_takeOrders yX0_takeOrders) ∈ wsAll := wsp (by decide +kernel)
theorem a73 : (Cond.code yX0_takeOrders cX0_takeOrders 4 none) ∈ wsAll := wsq ⟨List.mem_of_getElem? (i := 334) (by decide +kernel), by decide +kernel⟩
theorem a74 : (Cond.fieldLink RX1 35 RX1 "worth" "[I") ∈ wsAll := wsq ⟨List.mem_of_getElem? (i := 50) (by decide +kernel), by decide +kernel⟩
theorem a75 : (Cond.fieldLink RX1 32 RX1 "most" "[I") ∈ wsAll := wsq ⟨List.mem_of_getElem? (i := 47) (by decide +kernel), by decide +kernel⟩
theorem a76 : (Cond.fieldLink RX1 45 RX1 "patterns" "I") ∈ wsAll := wsq ⟨List.mem_of_getElem? (i := 56) (by decide +kernel), by decide +kernel⟩
theorem a77 : (Cond.methodLink RX1 48 yX1_patternsUsedIn) ∈ wsAll := wsq ⟨List.mem_of_getElem? (i := 411) (by decide +kernel), by decide +kernel⟩
theorem a78 : (Cond.instanceMethod yX1_patternsUsedIn) ∈ wsAll := wsq ⟨List.mem_of_getElem? (i := 413) (by decide +kernel), by decide +kernel⟩
theorem a79 : (Cond.selects RX1 yX1_patternsUsedIn yX1_patternsUsedIn) ∈ wsAll := wsp (by decide +kernel)
theorem a80 : (Cond.initialized RX1) ∈ wsAll := wsq ⟨List.mem_of_getElem? (i := 2) (by decide +kernel), by decide +kernel⟩
theorem a81 : (Cond.code yX1_patternsUsedIn cX1_patternsUsedIn 4 (some .int)) ∈ wsAll := wsq ⟨List.mem_of_getElem? (i := 414) (by decide +kernel), by decide +kernel⟩
theorem a82 : (Cond.fieldLink RX1 52 RX1 "change" "I") ∈ wsAll := wsq ⟨List.mem_of_getElem? (i := 62) (by decide +kernel), by decide +kernel⟩
theorem a83 : (Cond.fieldLink RX1 21 RX1 "minutesALog" "[I") ∈ wsAll := wsq ⟨List.mem_of_getElem? (i := 38) (by decide +kernel), by decide +kernel⟩
theorem a84 : (Cond.fieldLink RX1 26 RX1 "boardsALog" "[[I") ∈ wsAll := wsq ⟨List.mem_of_getElem? (i := 41) (by decide +kernel), by decide +kernel⟩
theorem a85 : (Cond.fieldLink RX1 38 RX1 "stock" "[I") ∈ wsAll := wsq ⟨List.mem_of_getElem? (i := 53) (by decide +kernel), by decide +kernel⟩
theorem a86 : (Cond.fieldLink RX1 9 RX1 "logsLeft" "[I") ∈ wsAll := wsq ⟨List.mem_of_getElem? (i := 29) (by decide +kernel), by decide +kernel⟩
theorem a87 : (Cond.fieldLink RX1 18 RX1 "classOf" "[I") ∈ wsAll := wsq ⟨List.mem_of_getElem? (i := 35) (by decide +kernel), by decide +kernel⟩
theorem a88 : (Cond.methodLink RX1 55 yX1_madeBy) ∈ wsAll := wsq ⟨List.mem_of_getElem? (i := 438) (by decide +kernel), by decide +kernel⟩
theorem a89 : (Cond.instanceMethod yX1_madeBy) ∈ wsAll := wsq ⟨List.mem_of_getElem? (i := 425) (by decide +kernel), by decide +kernel⟩
theorem a90 : (Cond.selects RX1 yX1_madeBy yX1_madeBy) ∈ wsAll := wsp (by decide +kernel)
theorem a91 : (Cond.code yX1_madeBy cX1_madeBy 5 (some .int)) ∈ wsAll := wsq ⟨List.mem_of_getElem? (i := 426) (by decide +kernel), by decide +kernel⟩
theorem a92 : (Cond.methodLink RX1 59 Lib.Math.min.name) ∈ wsAll := wsq ⟨List.mem_of_getElem? (i := 439) (by decide +kernel), by decide +kernel⟩
theorem a93 : (Cond.fieldLink RX2 86 RX2 "searchedSinceTold" "Z") ∈ wsAll := wsq ⟨List.mem_of_getElem? (i := 151) (by decide +kernel), by decide +kernel⟩
theorem a94 : (Cond.fieldLink RX2 21 RX2 "latest" "LDayCutPlans$Search;") ∈ wsAll := wsq ⟨List.mem_of_getElem? (i := 149) (by decide +kernel), by decide +kernel⟩
theorem a95 : (Cond.methodLink RX2 28 yX2_needIndex) ∈ wsAll := wsq ⟨List.mem_of_getElem? (i := 176) (by decide +kernel), by decide +kernel⟩
theorem a96 : (Cond.static yX2_needIndex) ∈ wsAll := wsq ⟨List.mem_of_getElem? (i := 177) (by decide +kernel), by decide +kernel⟩
theorem a97 : (Cond.initialized RX2) ∈ wsAll := wsq ⟨List.mem_of_getElem? (i := 1) (by decide +kernel), by decide +kernel⟩
theorem a98 : (Cond.code yX2_needIndex cX2_needIndex 2 none) ∈ wsAll := wsq ⟨List.mem_of_getElem? (i := 178) (by decide +kernel), by decide +kernel⟩
theorem a99 : (Cond.methodLink RX2 32 yX2_needRange) ∈ wsAll := wsq ⟨List.mem_of_getElem? (i := 247) (by decide +kernel), by decide +kernel⟩
theorem a100 : (Cond.static yX2_needRange) ∈ wsAll := wsq ⟨List.mem_of_getElem? (i := 248) (by decide +kernel), by decide +kernel⟩
theorem a101 : (Cond.code yX2_needRange cX2_needRange 3 none) ∈ wsAll := wsq ⟨List.mem_of_getElem? (i := 249) (by decide +kernel), by decide +kernel⟩
theorem a102 : (Cond.constant RX2 36 (nI 100000)) ∈ wsAll := wsq ⟨List.mem_of_getElem? (i := 266) (by decide +kernel), by decide +kernel⟩
theorem a103 : (Cond.fieldLink RX2 10 RX2 "yard" "LDayCutPlans$Yard;") ∈ wsAll := wsq ⟨List.mem_of_getElem? (i := 148) (by decide +kernel), by decide +kernel⟩
theorem a104 : (Cond.methodLink RX2 44 yX2_forgetSearch) ∈ wsAll := wsq ⟨List.mem_of_getElem? (i := 267) (by decide +kernel), by decide +kernel⟩
theorem a105 : (Cond.instanceMethod yX2_forgetSearch) ∈ wsAll := wsq ⟨List.mem_of_getElem? (i := 269) (by decide +kernel), by decide +kernel⟩
theorem a106 : (Cond.selects RX2 yX2_forgetSearch yX2_forgetSearch) ∈ wsAll := wsp (by decide +kernel)
theorem a107 : (Cond.code yX2_forgetSearch cX2_forgetSearch 1 none) ∈ wsAll := wsq ⟨List.mem_of_getElem? (i := 270) (by decide +kernel), by decide +kernel⟩
theorem a108 : (Cond.instanceMethod yX0_goThroughPlans) ∈ wsAll := wsq ⟨List.mem_of_getElem? (i := 325) (by decide +kernel), by decide +kernel⟩
theorem a109 : (Cond.selects RX0 yX0_goThroughPlans yX0_goThroughPlans) ∈ wsAll := wsp (by decide +kernel)
theorem a110 : (Cond.code yX0_goThroughPlans cX0_goThroughPlans 3 none) ∈ wsAll := wsq ⟨List.mem_of_getElem? (i := 326) (by decide +kernel), by decide +kernel⟩
theorem a111 : (Cond.instanceMethod yX1_boundOfGain) ∈ wsAll := wsq ⟨List.mem_of_getElem? (i := 387) (by decide +kernel), by decide +kernel⟩
theorem a112 : (Cond.selects RX1 yX1_boundOfGain yX1_boundOfGain) ∈ wsAll := wsp (by decide +kernel)
theorem a113 : (Cond.code yX1_boundOfGain cX1_boundOfGain 3 (some .int)) ∈ wsAll := wsq ⟨List.mem_of_getElem? (i := 388) (by decide +kernel), by decide +kernel⟩
theorem a114 : (Cond.methodLink RX2 105 yX2_needBest) ∈ wsAll := wsq ⟨List.mem_of_getElem? (i := 396) (by decide +kernel), by decide +kernel⟩
theorem a115 : (Cond.static yX2_needBest) ∈ wsAll := wsq ⟨List.mem_of_getElem? (i := 397) (by decide +kernel), by decide +kernel⟩
theorem a116 : (Cond.code yX2_needBest cX2_needBest 1 none) ∈ wsAll := wsq ⟨List.mem_of_getElem? (i := 398) (by decide +kernel), by decide +kernel⟩
theorem a117 : (Cond.instanceMethod yX1_minutesOf) ∈ wsAll := wsq ⟨List.mem_of_getElem? (i := 409) (by decide +kernel), by decide +kernel⟩
theorem a118 : (Cond.selects RX1 yX1_minutesOf yX1_minutesOf) ∈ wsAll := wsp (by decide +kernel)
theorem a119 : (Cond.code yX1_minutesOf cX1_minutesOf 4 (some .int)) ∈ wsAll := wsq ⟨List.mem_of_getElem? (i := 410) (by decide +kernel), by decide +kernel⟩
theorem a120 : (Cond.instanceMethod yX1_doPlan) ∈ wsAll := wsq ⟨List.mem_of_getElem? (i := 436) (by decide +kernel), by decide +kernel⟩
theorem a121 : (Cond.selects RX1 yX1_doPlan yX1_doPlan) ∈ wsAll := wsp (by decide +kernel)
theorem a122 : (Cond.code yX1_doPlan cX1_doPlan 4 none) ∈ wsAll := wsq ⟨List.mem_of_getElem? (i := 437) (by decide +kernel), by decide +kernel⟩
theorem a123 : (Cond.fieldLink RX2 130 RX2 "earned" "I") ∈ wsAll := wsq ⟨List.mem_of_getElem? (i := 153) (by decide +kernel), by decide +kernel⟩
theorem a124 : (Cond.fieldLink RX2 133 RX2 "days" "I") ∈ wsAll := wsq ⟨List.mem_of_getElem? (i := 152) (by decide +kernel), by decide +kernel⟩
theorem a125 : (Cond.fieldLink RX2 25 RX2 "trial" "LDayCutPlans$Search;") ∈ wsAll := wsq ⟨List.mem_of_getElem? (i := 150) (by decide +kernel), by decide +kernel⟩
theorem a126 : (Cond.methodLink RX2 139 yX2_gainOfTrial) ∈ wsAll := wsq ⟨List.mem_of_getElem? (i := 454) (by decide +kernel), by decide +kernel⟩
theorem a127 : (Cond.instanceMethod yX2_gainOfTrial) ∈ wsAll := wsq ⟨List.mem_of_getElem? (i := 456) (by decide +kernel), by decide +kernel⟩
theorem a128 : (Cond.selects RX2 yX2_gainOfTrial yX2_gainOfTrial) ∈ wsAll := wsp (by decide +kernel)
theorem a129 : (Cond.code yX2_gainOfTrial cX2_gainOfTrial 3 (some .int)) ∈ wsAll := wsq ⟨List.mem_of_getElem? (i := 457) (by decide +kernel), by decide +kernel⟩
theorem a130 : (Cond.fieldLink RX3 50 RX3 "code" "I") ∈ wsAll := wsq ⟨List.mem_of_getElem? (i := 464) (by decide +kernel), by decide +kernel⟩
theorem a131 : (Cond.fieldLink RX3 53 RX3 "isSearched" "Z") ∈ wsAll := wsq ⟨List.mem_of_getElem? (i := 479) (by decide +kernel), by decide +kernel⟩
theorem a132 : (Cond.fieldLink RX3 57 RX3 "isBest" "Z") ∈ wsAll := wsq ⟨List.mem_of_getElem? (i := 480) (by decide +kernel), by decide +kernel⟩
theorem a133 : (Cond.methodLink RX3 60 yX3_isIn) ∈ wsAll := wsq ⟨List.mem_of_getElem? (i := 554) (by decide +kernel), by decide +kernel⟩
theorem a134 : (Cond.static yX3_isIn) ∈ wsAll := wsq ⟨List.mem_of_getElem? (i := 555) (by decide +kernel), by decide +kernel⟩
theorem a135 : (Cond.initialized RX3) ∈ wsAll := wsq ⟨List.mem_of_getElem? (i := 4) (by decide +kernel), by decide +kernel⟩
theorem a136 : (Cond.code yX3_isIn cX3_isIn 3 (some .boolean)) ∈ wsAll := wsq ⟨List.mem_of_getElem? (i := 556) (by decide +kernel), by decide +kernel⟩
theorem a137 : (Cond.constant RX3 64 (nI 100000)) ∈ wsAll := wsq ⟨List.mem_of_getElem? (i := 557) (by decide +kernel), by decide +kernel⟩
theorem a138 : (Cond.fieldLink RX3 7 RX3 "logs" "[I") ∈ wsAll := wsq ⟨List.mem_of_getElem? (i := 465) (by decide +kernel), by decide +kernel⟩
theorem a139 : (Cond.fieldLink RX3 13 RX3 "cents" "[I") ∈ wsAll := wsq ⟨List.mem_of_getElem? (i := 466) (by decide +kernel), by decide +kernel⟩
theorem a140 : (Cond.methodLink RX3 65 yX3_forget) ∈ wsAll := wsq ⟨List.mem_of_getElem? (i := 558) (by decide +kernel), by decide +kernel⟩
theorem a141 : (Cond.instanceMethod yX3_forget) ∈ wsAll := wsq ⟨List.mem_of_getElem? (i := 560) (by decide +kernel), by decide +kernel⟩
theorem a142 : (Cond.selects RX3 yX3_forget yX3_forget) ∈ wsAll := wsp (by decide +kernel)
theorem a143 : (Cond.code yX3_forget cX3_forget 1 none) ∈ wsAll := wsq ⟨List.mem_of_getElem? (i := 561) (by decide +kernel), by decide +kernel⟩
theorem a144 : (Cond.fieldLink RX3 25 RX3 "least" "[I") ∈ wsAll := wsq ⟨List.mem_of_getElem? (i := 471) (by decide +kernel), by decide +kernel⟩
theorem a145 : (Cond.fieldLink RX3 28 RX3 "most" "[I") ∈ wsAll := wsq ⟨List.mem_of_getElem? (i := 472) (by decide +kernel), by decide +kernel⟩
theorem a146 : (Cond.fieldLink RX3 31 RX3 "worth" "[I") ∈ wsAll := wsq ⟨List.mem_of_getElem? (i := 473) (by decide +kernel), by decide +kernel⟩
theorem a147 : (Cond.fieldLink RX3 37 RX3 "hours" "I") ∈ wsAll := wsq ⟨List.mem_of_getElem? (i := 475) (by decide +kernel), by decide +kernel⟩
theorem a148 : (Cond.fieldLink RX3 75 RX3 "change" "I") ∈ wsAll := wsq ⟨List.mem_of_getElem? (i := 476) (by decide +kernel), by decide +kernel⟩
theorem a149 : (Cond.fieldLink RX3 68 RX3 "patterns" "I") ∈ wsAll := wsq ⟨List.mem_of_getElem? (i := 467) (by decide +kernel), by decide +kernel⟩
theorem a150 : (Cond.methodLink RX3 71 yX3_isPattern) ∈ wsAll := wsq ⟨List.mem_of_getElem? (i := 570) (by decide +kernel), by decide +kernel⟩
theorem a151 : (Cond.instanceMethod yX3_isPattern) ∈ wsAll := wsq ⟨List.mem_of_getElem? (i := 572) (by decide +kernel), by decide +kernel⟩
theorem a152 : (Cond.selects RX3 yX3_isPattern yX3_isPattern) ∈ wsAll := wsp (by decide +kernel)
theorem a153 : (Cond.code yX3_isPattern cX3_isPattern 2 (some .boolean)) ∈ wsAll := wsq ⟨List.mem_of_getElem? (i := 573) (by decide +kernel), by decide +kernel⟩
theorem a154 : (Cond.fieldLink RX3 22 RX3 "gives" "[I") ∈ wsAll := wsq ⟨List.mem_of_getElem? (i := 470) (by decide +kernel), by decide +kernel⟩
theorem a155 : (Cond.fieldLink RX3 16 RX3 "classOf" "[I") ∈ wsAll := wsq ⟨List.mem_of_getElem? (i := 468) (by decide +kernel), by decide +kernel⟩
theorem a156 : (Cond.fieldLink RX3 19 RX3 "minutes" "[I") ∈ wsAll := wsq ⟨List.mem_of_getElem? (i := 469) (by decide +kernel), by decide +kernel⟩
theorem a157 : (Cond.fieldLink RX3 34 RX3 "stock" "[I") ∈ wsAll := wsq ⟨List.mem_of_getElem? (i := 474) (by decide +kernel), by decide +kernel⟩
theorem a158 : (Cond.fieldLink RX3 44 RX3 "count" "[I") ∈ wsAll := wsq ⟨List.mem_of_getElem? (i := 485) (by decide +kernel), by decide +kernel⟩
theorem a159 : (Cond.methodLink RX3 78 yX3_minutesOf) ∈ wsAll := wsq ⟨List.mem_of_getElem? (i := 605) (by decide +kernel), by decide +kernel⟩
theorem a160 : (Cond.instanceMethod yX3_minutesOf) ∈ wsAll := wsq ⟨List.mem_of_getElem? (i := 607) (by decide +kernel), by decide +kernel⟩
theorem a161 : (Cond.selects RX3 yX3_minutesOf yX3_minutesOf) ∈ wsAll := wsp (by decide +kernel)
theorem a162 : (Cond.code yX3_minutesOf cX3_minutesOf 5 (some .int)) ∈ wsAll := wsq ⟨List.mem_of_getElem? (i := 608) (by decide +kernel), by decide +kernel⟩
theorem a163 : (Cond.fieldLink RX3 47 RX3 "found" "[I") ∈ wsAll := wsq ⟨List.mem_of_getElem? (i := 486) (by decide +kernel), by decide +kernel⟩
theorem a164 : (Cond.fieldLink RX3 89 RX3 "hasFound" "Z") ∈ wsAll := wsq ⟨List.mem_of_getElem? (i := 487) (by decide +kernel), by decide +kernel⟩
theorem a165 : (Cond.fieldLink RX3 92 RX3 "foundGain" "I") ∈ wsAll := wsq ⟨List.mem_of_getElem? (i := 490) (by decide +kernel), by decide +kernel⟩
theorem a166 : (Cond.methodLink RX3 82 yX3_madeOf) ∈ wsAll := wsq ⟨List.mem_of_getElem? (i := 594) (by decide +kernel), by decide +kernel⟩
theorem a167 : (Cond.instanceMethod yX3_madeOf) ∈ wsAll := wsq ⟨List.mem_of_getElem? (i := 596) (by decide +kernel), by decide +kernel⟩
theorem a168 : (Cond.selects RX3 yX3_madeOf yX3_madeOf) ∈ wsAll := wsp (by decide +kernel)
theorem a169 : (Cond.code yX3_madeOf cX3_madeOf 5 (some .int)) ∈ wsAll := wsq ⟨List.mem_of_getElem? (i := 597) (by decide +kernel), by decide +kernel⟩
theorem a170 : (Cond.methodLink RX3 85 yX3_lesser) ∈ wsAll := wsq ⟨List.mem_of_getElem? (i := 598) (by decide +kernel), by decide +kernel⟩
theorem a171 : (Cond.static yX3_lesser) ∈ wsAll := wsq ⟨List.mem_of_getElem? (i := 599) (by decide +kernel), by decide +kernel⟩
theorem a172 : (Cond.code yX3_lesser cX3_lesser 2 (some .int)) ∈ wsAll := wsq ⟨List.mem_of_getElem? (i := 600) (by decide +kernel), by decide +kernel⟩
theorem a173 : (Cond.methodLink RX3 104 yX3_fits) ∈ wsAll := wsq ⟨List.mem_of_getElem? (i := 601) (by decide +kernel), by decide +kernel⟩
theorem a174 : (Cond.instanceMethod yX3_fits) ∈ wsAll := wsq ⟨List.mem_of_getElem? (i := 603) (by decide +kernel), by decide +kernel⟩
theorem a175 : (Cond.selects RX3 yX3_fits yX3_fits) ∈ wsAll := wsp (by decide +kernel)
theorem a176 : (Cond.code yX3_fits cX3_fits 5 (some .boolean)) ∈ wsAll := wsq ⟨List.mem_of_getElem? (i := 604) (by decide +kernel), by decide +kernel⟩
theorem a177 : (Cond.fieldLink RX3 98 RX3 "taken" "I") ∈ wsAll := wsq ⟨List.mem_of_getElem? (i := 489) (by decide +kernel), by decide +kernel⟩
theorem a178 : (Cond.methodLink RX3 101 yX3_look) ∈ wsAll := wsq ⟨List.mem_of_getElem? (i := 590) (by decide +kernel), by decide +kernel⟩
theorem a179 : (Cond.instanceMethod yX3_look) ∈ wsAll := wsq ⟨List.mem_of_getElem? (i := 592) (by decide +kernel), by decide +kernel⟩
theorem a180 : (Cond.selects RX3 yX3_look yX3_look) ∈ wsAll := wsp (by decide +kernel)
theorem a181 : (Cond.code yX3_look cX3_look 4 none) ∈ wsAll := wsq ⟨List.mem_of_getElem? (i := 593) (by decide +kernel), by decide +kernel⟩
theorem a182 : (Cond.fieldLink RX3 95 RX3 "wasSpent" "Z") ∈ wsAll := wsq ⟨List.mem_of_getElem? (i := 488) (by decide +kernel), by decide +kernel⟩
theorem a183 : (Cond.fieldLink RX3 111 RX3 "isSpent" "Z") ∈ wsAll := wsq ⟨List.mem_of_getElem? (i := 481) (by decide +kernel), by decide +kernel⟩
theorem a184 : (Cond.fieldLink RX3 41 RX3 "plan" "[I") ∈ wsAll := wsq ⟨List.mem_of_getElem? (i := 483) (by decide +kernel), by decide +kernel⟩
theorem a185 : (Cond.methodLink RX3 107 yX3_seek) ∈ wsAll := wsq ⟨List.mem_of_getElem? (i := 586) (by decide +kernel), by decide +kernel⟩
theorem a186 : (Cond.instanceMethod yX3_seek) ∈ wsAll := wsq ⟨List.mem_of_getElem? (i := 588) (by decide +kernel), by decide +kernel⟩
theorem a187 : (Cond.selects RX3 yX3_seek yX3_seek) ∈ wsAll := wsp (by decide +kernel)
theorem a188 : (Cond.code yX3_seek cX3_seek 3 none) ∈ wsAll := wsq ⟨List.mem_of_getElem? (i := 589) (by decide +kernel), by decide +kernel⟩
theorem a189 : (Cond.fieldLink RX3 114 RX3 "steps" "I") ∈ wsAll := wsq ⟨List.mem_of_getElem? (i := 482) (by decide +kernel), by decide +kernel⟩
theorem a190 : (Cond.fieldLink RX3 117 RX3 "gain" "I") ∈ wsAll := wsq ⟨List.mem_of_getElem? (i := 484) (by decide +kernel), by decide +kernel⟩
theorem a191 : (Cond.methodLink RX3 120 yX3_bound) ∈ wsAll := wsq ⟨List.mem_of_getElem? (i := 613) (by decide +kernel), by decide +kernel⟩
theorem a192 : (Cond.instanceMethod yX3_bound) ∈ wsAll := wsq ⟨List.mem_of_getElem? (i := 615) (by decide +kernel), by decide +kernel⟩
theorem a193 : (Cond.selects RX3 yX3_bound yX3_bound) ∈ wsAll := wsp (by decide +kernel)
theorem a194 : (Cond.code yX3_bound cX3_bound 3 (some .int)) ∈ wsAll := wsq ⟨List.mem_of_getElem? (i := 616) (by decide +kernel), by decide +kernel⟩
theorem a195 : (Cond.fieldLink RX3 124 RX3 "earned" "I") ∈ wsAll := wsq ⟨List.mem_of_getElem? (i := 478) (by decide +kernel), by decide +kernel⟩
theorem a196 : (Cond.fieldLink RX3 127 RX3 "days" "I") ∈ wsAll := wsq ⟨List.mem_of_getElem? (i := 477) (by decide +kernel), by decide +kernel⟩
theorem a197 : (Cond.methodLink RL 7 yX2_logs) ∈ wsAll := wsq ⟨List.mem_of_getElem? (i := 172) (by decide +kernel), by decide +kernel⟩
theorem a198 : (Cond.instanceMethod yX2_logs) ∈ wsAll := wsq ⟨List.mem_of_getElem? (i := 173) (by decide +kernel), by decide +kernel⟩
theorem a199 : (Cond.selects RX2 yX2_logs yX2_logs) ∈ wsAll := wsq ⟨List.mem_of_getElem? (i := 174) (by decide +kernel), by decide +kernel⟩
theorem a200 : (Cond.code yX2_logs cX2_logs 4 none) ∈ wsAll := wsq ⟨List.mem_of_getElem? (i := 175) (by decide +kernel), by decide +kernel⟩
theorem a201 : (Cond.classLink RL 13 "java/lang/IndexOutOfBoundsException") ∈ wsAll := wsq ⟨List.mem_of_getElem? (i := 170) (by decide +kernel), by decide +kernel⟩
theorem a202 : (Cond.classLink RL 15 "java/lang/IllegalArgumentException") ∈ wsAll := wsq ⟨List.mem_of_getElem? (i := 171) (by decide +kernel), by decide +kernel⟩
theorem a203 : (Cond.methodLink RL 17 yX2_pattern) ∈ wsAll := wsq ⟨List.mem_of_getElem? (i := 275) (by decide +kernel), by decide +kernel⟩
theorem a204 : (Cond.instanceMethod yX2_pattern) ∈ wsAll := wsq ⟨List.mem_of_getElem? (i := 276) (by decide +kernel), by decide +kernel⟩
theorem a205 : (Cond.selects RX2 yX2_pattern yX2_pattern) ∈ wsAll := wsq ⟨List.mem_of_getElem? (i := 277) (by decide +kernel), by decide +kernel⟩
theorem a206 : (Cond.code yX2_pattern cX2_pattern 4 (some .int)) ∈ wsAll := wsq ⟨List.mem_of_getElem? (i := 278) (by decide +kernel), by decide +kernel⟩
theorem a207 : (Cond.classLink RL 21 "java/lang/IllegalStateException") ∈ wsAll := wsq ⟨List.mem_of_getElem? (i := 274) (by decide +kernel), by decide +kernel⟩
theorem a208 : (Cond.methodLink RL 23 yX2_gives) ∈ wsAll := wsq ⟨List.mem_of_getElem? (i := 298) (by decide +kernel), by decide +kernel⟩
theorem a209 : (Cond.instanceMethod yX2_gives) ∈ wsAll := wsq ⟨List.mem_of_getElem? (i := 299) (by decide +kernel), by decide +kernel⟩
theorem a210 : (Cond.selects RX2 yX2_gives yX2_gives) ∈ wsAll := wsq ⟨List.mem_of_getElem? (i := 300) (by decide +kernel), by decide +kernel⟩
theorem a211 : (Cond.code yX2_gives cX2_gives 4 none) ∈ wsAll := wsq ⟨List.mem_of_getElem? (i := 301) (by decide +kernel), by decide +kernel⟩
theorem a212 : (Cond.methodLink RL 26 yX2_order) ∈ wsAll := wsq ⟨List.mem_of_getElem? (i := 305) (by decide +kernel), by decide +kernel⟩
theorem a213 : (Cond.instanceMethod yX2_order) ∈ wsAll := wsq ⟨List.mem_of_getElem? (i := 306) (by decide +kernel), by decide +kernel⟩
theorem a214 : (Cond.selects RX2 yX2_order yX2_order) ∈ wsAll := wsq ⟨List.mem_of_getElem? (i := 307) (by decide +kernel), by decide +kernel⟩
theorem a215 : (Cond.code yX2_order cX2_order 5 none) ∈ wsAll := wsq ⟨List.mem_of_getElem? (i := 308) (by decide +kernel), by decide +kernel⟩
theorem a216 : (Cond.methodLink RL 30 yX2_hours) ∈ wsAll := wsq ⟨List.mem_of_getElem? (i := 312) (by decide +kernel), by decide +kernel⟩
theorem a217 : (Cond.instanceMethod yX2_hours) ∈ wsAll := wsq ⟨List.mem_of_getElem? (i := 313) (by decide +kernel), by decide +kernel⟩
theorem a218 : (Cond.selects RX2 yX2_hours yX2_hours) ∈ wsAll := wsq ⟨List.mem_of_getElem? (i := 314) (by decide +kernel), by decide +kernel⟩
theorem a219 : (Cond.code yX2_hours cX2_hours 3 none) ∈ wsAll := wsq ⟨List.mem_of_getElem? (i := 315) (by decide +kernel), by decide +kernel⟩
theorem a220 : (Cond.methodLink RL 34 yX2_run) ∈ wsAll := wsq ⟨List.mem_of_getElem? (i := 319) (by decide +kernel), by decide +kernel⟩
theorem a221 : (Cond.instanceMethod yX2_run) ∈ wsAll := wsq ⟨List.mem_of_getElem? (i := 320) (by decide +kernel), by decide +kernel⟩
theorem a222 : (Cond.selects RX2 yX2_run yX2_run) ∈ wsAll := wsq ⟨List.mem_of_getElem? (i := 321) (by decide +kernel), by decide +kernel⟩
theorem a223 : (Cond.code yX2_run cX2_run 2 (some .int)) ∈ wsAll := wsq ⟨List.mem_of_getElem? (i := 322) (by decide +kernel), by decide +kernel⟩
theorem a224 : (Cond.methodLink RL 38 yX2_search) ∈ wsAll := wsq ⟨List.mem_of_getElem? (i := 380) (by decide +kernel), by decide +kernel⟩
theorem a225 : (Cond.instanceMethod yX2_search) ∈ wsAll := wsq ⟨List.mem_of_getElem? (i := 381) (by decide +kernel), by decide +kernel⟩
theorem a226 : (Cond.selects RX2 yX2_search yX2_search) ∈ wsAll := wsq ⟨List.mem_of_getElem? (i := 382) (by decide +kernel), by decide +kernel⟩
theorem a227 : (Cond.code yX2_search cX2_search 2 (some .int)) ∈ wsAll := wsq ⟨List.mem_of_getElem? (i := 383) (by decide +kernel), by decide +kernel⟩
theorem a228 : (Cond.methodLink RL 41 yX2_used) ∈ wsAll := wsq ⟨List.mem_of_getElem? (i := 392) (by decide +kernel), by decide +kernel⟩
theorem a229 : (Cond.instanceMethod yX2_used) ∈ wsAll := wsq ⟨List.mem_of_getElem? (i := 393) (by decide +kernel), by decide +kernel⟩
theorem a230 : (Cond.selects RX2 yX2_used yX2_used) ∈ wsAll := wsq ⟨List.mem_of_getElem? (i := 394) (by decide +kernel), by decide +kernel⟩
theorem a231 : (Cond.code yX2_used cX2_used 2 (some .int)) ∈ wsAll := wsq ⟨List.mem_of_getElem? (i := 395) (by decide +kernel), by decide +kernel⟩
theorem a232 : (Cond.methodLink RL 44 yX2_best) ∈ wsAll := wsq ⟨List.mem_of_getElem? (i := 403) (by decide +kernel), by decide +kernel⟩
theorem a233 : (Cond.instanceMethod yX2_best) ∈ wsAll := wsq ⟨List.mem_of_getElem? (i := 404) (by decide +kernel), by decide +kernel⟩
theorem a234 : (Cond.selects RX2 yX2_best yX2_best) ∈ wsAll := wsq ⟨List.mem_of_getElem? (i := 405) (by decide +kernel), by decide +kernel⟩
theorem a235 : (Cond.code yX2_best cX2_best 2 (some .int)) ∈ wsAll := wsq ⟨List.mem_of_getElem? (i := 406) (by decide +kernel), by decide +kernel⟩
theorem a236 : (Cond.methodLink RL 47 yX2_made) ∈ wsAll := wsq ⟨List.mem_of_getElem? (i := 419) (by decide +kernel), by decide +kernel⟩
theorem a237 : (Cond.instanceMethod yX2_made) ∈ wsAll := wsq ⟨List.mem_of_getElem? (i := 420) (by decide +kernel), by decide +kernel⟩
theorem a238 : (Cond.selects RX2 yX2_made yX2_made) ∈ wsAll := wsq ⟨List.mem_of_getElem? (i := 421) (by decide +kernel), by decide +kernel⟩
theorem a239 : (Cond.code yX2_made cX2_made 2 (some .int)) ∈ wsAll := wsq ⟨List.mem_of_getElem? (i := 422) (by decide +kernel), by decide +kernel⟩
theorem a240 : (Cond.methodLink RL 50 yX2_saw) ∈ wsAll := wsq ⟨List.mem_of_getElem? (i := 430) (by decide +kernel), by decide +kernel⟩
theorem a241 : (Cond.instanceMethod yX2_saw) ∈ wsAll := wsq ⟨List.mem_of_getElem? (i := 431) (by decide +kernel), by decide +kernel⟩
theorem a242 : (Cond.selects RX2 yX2_saw yX2_saw) ∈ wsAll := wsq ⟨List.mem_of_getElem? (i := 432) (by decide +kernel), by decide +kernel⟩
theorem a243 : (Cond.code yX2_saw cX2_saw 2 (some .int)) ∈ wsAll := wsq ⟨List.mem_of_getElem? (i := 433) (by decide +kernel), by decide +kernel⟩
theorem a244 : (Cond.methodLink RL 54 yX2_mill) ∈ wsAll := wsq ⟨List.mem_of_getElem? (i := 443) (by decide +kernel), by decide +kernel⟩
theorem a245 : (Cond.instanceMethod yX2_mill) ∈ wsAll := wsq ⟨List.mem_of_getElem? (i := 444) (by decide +kernel), by decide +kernel⟩
theorem a246 : (Cond.selects RX2 yX2_mill yX2_mill) ∈ wsAll := wsq ⟨List.mem_of_getElem? (i := 445) (by decide +kernel), by decide +kernel⟩
theorem a247 : (Cond.code yX2_mill cX2_mill 2 (some .int)) ∈ wsAll := wsq ⟨List.mem_of_getElem? (i := 446) (by decide +kernel), by decide +kernel⟩
theorem a248 : (Cond.methodLink RL 57 yX2_cost) ∈ wsAll := wsq ⟨List.mem_of_getElem? (i := 450) (by decide +kernel), by decide +kernel⟩
theorem a249 : (Cond.instanceMethod yX2_cost) ∈ wsAll := wsq ⟨List.mem_of_getElem? (i := 451) (by decide +kernel), by decide +kernel⟩
theorem a250 : (Cond.selects RX2 yX2_cost yX2_cost) ∈ wsAll := wsq ⟨List.mem_of_getElem? (i := 452) (by decide +kernel), by decide +kernel⟩
theorem a251 : (Cond.code yX2_cost cX2_cost 5 (some .int)) ∈ wsAll := wsq ⟨List.mem_of_getElem? (i := 453) (by decide +kernel), by decide +kernel⟩
theorem a252 : (Cond.methodLink RX1 3 objectInit) ∈ wsAll := wsq ⟨List.mem_of_getElem? (i := 26) (by decide +kernel), by decide +kernel⟩
theorem a253 : (Cond.instanceMethod objectInit) ∈ wsAll := wsq ⟨List.mem_of_getElem? (i := 19) (by decide +kernel), by decide +kernel⟩
theorem a254 : (Cond.code objectInit ⟨#[0xb1]⟩ 1 none) ∈ wsAll := wsq ⟨List.mem_of_getElem? (i := 20) (by decide +kernel), by decide +kernel⟩
theorem a255 : (Cond.arrayClass .int) ∈ wsAll := wsq ⟨List.mem_of_getElem? (i := 90) (by decide +kernel), by decide +kernel⟩
theorem a256 : (Cond.fieldLink RX1 15 RX1 "centsALog" "[I") ∈ wsAll := wsq ⟨List.mem_of_getElem? (i := 32) (by decide +kernel), by decide +kernel⟩
theorem a257 : (Cond.classLink RX1 24 "[[I") ∈ wsAll := wsq ⟨List.mem_of_getElem? (i := 27) (by decide +kernel), by decide +kernel⟩
theorem a258 : (Cond.fieldLink RX1 29 RX1 "least" "[I") ∈ wsAll := wsq ⟨List.mem_of_getElem? (i := 44) (by decide +kernel), by decide +kernel⟩
theorem a259 : (Cond.fieldLink RX1 41 RX1 "minutesADay" "I") ∈ wsAll := wsq ⟨List.mem_of_getElem? (i := 59) (by decide +kernel), by decide +kernel⟩
theorem a260 : (Cond.methodLink RX0 3 objectInit) ∈ wsAll := wsq ⟨List.mem_of_getElem? (i := 96) (by decide +kernel), by decide +kernel⟩
theorem a261 : (Cond.methodLink RX3 1 objectInit) ∈ wsAll := wsq ⟨List.mem_of_getElem? (i := 463) (by decide +kernel), by decide +kernel⟩
theorem a262 : (Cond.methodLink RX2 1 objectInit) ∈ wsAll := wsq ⟨List.mem_of_getElem? (i := 18) (by decide +kernel), by decide +kernel⟩
theorem a263 : (Cond.classLink RX2 7 RX1) ∈ wsAll := wsq ⟨List.mem_of_getElem? (i := 21) (by decide +kernel), by decide +kernel⟩
theorem a264 : (Cond.instantiable RX1 12) ∈ wsAll := wsq ⟨List.mem_of_getElem? (i := 22) (by decide +kernel), by decide +kernel⟩
theorem a265 : (Cond.instanceMethod yX1_init) ∈ wsAll := wsq ⟨List.mem_of_getElem? (i := 24) (by decide +kernel), by decide +kernel⟩
theorem a266 : (Cond.code yX1_init cX1_init 1 none) ∈ wsAll := wsq ⟨List.mem_of_getElem? (i := 25) (by decide +kernel), by decide +kernel⟩
theorem a267 : (Cond.classLink RX2 16 RX0) ∈ wsAll := wsq ⟨List.mem_of_getElem? (i := 91) (by decide +kernel), by decide +kernel⟩
theorem a268 : (Cond.instantiable RX0 15) ∈ wsAll := wsq ⟨List.mem_of_getElem? (i := 92) (by decide +kernel), by decide +kernel⟩
theorem a269 : (Cond.instanceMethod yX0_init) ∈ wsAll := wsq ⟨List.mem_of_getElem? (i := 94) (by decide +kernel), by decide +kernel⟩
theorem a270 : (Cond.code yX0_init cX0_init 2 none) ∈ wsAll := wsq ⟨List.mem_of_getElem? (i := 95) (by decide +kernel), by decide +kernel⟩
theorem a271 : (Cond.methodLink RL 64 yL_logs) ∈ wsAll := wsq ⟨List.mem_of_getElem? (i := 167) (by decide +kernel), by decide +kernel⟩
theorem a272 : (Cond.static yL_logs) ∈ wsAll := wsq ⟨List.mem_of_getElem? (i := 168) (by decide +kernel), by decide +kernel⟩
theorem a273 : (Cond.initialized RL) ∈ wsAll := wsq ⟨List.mem_of_getElem? (i := 0) (by decide +kernel), by decide +kernel⟩
theorem a274 : (Cond.codeWith yL_logs cL_logs 5 (some .int) hhL_logs) ∈ wsAll := wsq ⟨List.mem_of_getElem? (i := 169) (by decide +kernel), by decide +kernel⟩
theorem a275 : (Cond.methodLink RL 69 yX3_logs) ∈ wsAll := wsq ⟨List.mem_of_getElem? (i := 550) (by decide +kernel), by decide +kernel⟩
theorem a276 : (Cond.instanceMethod yX3_logs) ∈ wsAll := wsq ⟨List.mem_of_getElem? (i := 551) (by decide +kernel), by decide +kernel⟩
theorem a277 : (Cond.selects RX3 yX3_logs yX3_logs) ∈ wsAll := wsq ⟨List.mem_of_getElem? (i := 552) (by decide +kernel), by decide +kernel⟩
theorem a278 : (Cond.code yX3_logs cX3_logs 4 none) ∈ wsAll := wsq ⟨List.mem_of_getElem? (i := 553) (by decide +kernel), by decide +kernel⟩
theorem a279 : (Cond.methodLink RL 70 yL_pattern) ∈ wsAll := wsq ⟨List.mem_of_getElem? (i := 271) (by decide +kernel), by decide +kernel⟩
theorem a280 : (Cond.static yL_pattern) ∈ wsAll := wsq ⟨List.mem_of_getElem? (i := 272) (by decide +kernel), by decide +kernel⟩
theorem a281 : (Cond.codeWith yL_pattern cL_pattern 5 (some .int) hhL_pattern) ∈ wsAll := wsq ⟨List.mem_of_getElem? (i := 273) (by decide +kernel), by decide +kernel⟩
theorem a282 : (Cond.methodLink RL 73 yX3_pattern) ∈ wsAll := wsq ⟨List.mem_of_getElem? (i := 562) (by decide +kernel), by decide +kernel⟩
theorem a283 : (Cond.instanceMethod yX3_pattern) ∈ wsAll := wsq ⟨List.mem_of_getElem? (i := 563) (by decide +kernel), by decide +kernel⟩
theorem a284 : (Cond.selects RX3 yX3_pattern yX3_pattern) ∈ wsAll := wsq ⟨List.mem_of_getElem? (i := 564) (by decide +kernel), by decide +kernel⟩
theorem a285 : (Cond.code yX3_pattern cX3_pattern 3 (some .int)) ∈ wsAll := wsq ⟨List.mem_of_getElem? (i := 565) (by decide +kernel), by decide +kernel⟩
theorem a286 : (Cond.methodLink RL 74 yL_gives) ∈ wsAll := wsq ⟨List.mem_of_getElem? (i := 295) (by decide +kernel), by decide +kernel⟩
theorem a287 : (Cond.static yL_gives) ∈ wsAll := wsq ⟨List.mem_of_getElem? (i := 296) (by decide +kernel), by decide +kernel⟩
theorem a288 : (Cond.codeWith yL_gives cL_gives 5 (some .int) hhL_gives) ∈ wsAll := wsq ⟨List.mem_of_getElem? (i := 297) (by decide +kernel), by decide +kernel⟩
theorem a289 : (Cond.methodLink RL 76 yX3_gives) ∈ wsAll := wsq ⟨List.mem_of_getElem? (i := 566) (by decide +kernel), by decide +kernel⟩
theorem a290 : (Cond.instanceMethod yX3_gives) ∈ wsAll := wsq ⟨List.mem_of_getElem? (i := 567) (by decide +kernel), by decide +kernel⟩
theorem a291 : (Cond.selects RX3 yX3_gives yX3_gives) ∈ wsAll := wsq ⟨List.mem_of_getElem? (i := 568) (by decide +kernel), by decide +kernel⟩
theorem a292 : (Cond.code yX3_gives cX3_gives 4 none) ∈ wsAll := wsq ⟨List.mem_of_getElem? (i := 569) (by decide +kernel), by decide +kernel⟩
theorem a293 : (Cond.methodLink RL 77 yL_order) ∈ wsAll := wsq ⟨List.mem_of_getElem? (i := 302) (by decide +kernel), by decide +kernel⟩
theorem a294 : (Cond.static yL_order) ∈ wsAll := wsq ⟨List.mem_of_getElem? (i := 303) (by decide +kernel), by decide +kernel⟩
theorem a295 : (Cond.codeWith yL_order cL_order 6 (some .int) hhL_order) ∈ wsAll := wsq ⟨List.mem_of_getElem? (i := 304) (by decide +kernel), by decide +kernel⟩
theorem a296 : (Cond.methodLink RL 80 yX3_order) ∈ wsAll := wsq ⟨List.mem_of_getElem? (i := 574) (by decide +kernel), by decide +kernel⟩
theorem a297 : (Cond.instanceMethod yX3_order) ∈ wsAll := wsq ⟨List.mem_of_getElem? (i := 575) (by decide +kernel), by decide +kernel⟩
theorem a298 : (Cond.selects RX3 yX3_order yX3_order) ∈ wsAll := wsq ⟨List.mem_of_getElem? (i := 576) (by decide +kernel), by decide +kernel⟩
theorem a299 : (Cond.code yX3_order cX3_order 5 none) ∈ wsAll := wsq ⟨List.mem_of_getElem? (i := 577) (by decide +kernel), by decide +kernel⟩
theorem a300 : (Cond.methodLink RL 81 yL_hours) ∈ wsAll := wsq ⟨List.mem_of_getElem? (i := 309) (by decide +kernel), by decide +kernel⟩
theorem a301 : (Cond.static yL_hours) ∈ wsAll := wsq ⟨List.mem_of_getElem? (i := 310) (by decide +kernel), by decide +kernel⟩
theorem a302 : (Cond.codeWith yL_hours cL_hours 4 (some .int) hhL_hours) ∈ wsAll := wsq ⟨List.mem_of_getElem? (i := 311) (by decide +kernel), by decide +kernel⟩
theorem a303 : (Cond.methodLink RL 84 yX3_hours) ∈ wsAll := wsq ⟨List.mem_of_getElem? (i := 578) (by decide +kernel), by decide +kernel⟩
theorem a304 : (Cond.instanceMethod yX3_hours) ∈ wsAll := wsq ⟨List.mem_of_getElem? (i := 579) (by decide +kernel), by decide +kernel⟩
theorem a305 : (Cond.selects RX3 yX3_hours yX3_hours) ∈ wsAll := wsq ⟨List.mem_of_getElem? (i := 580) (by decide +kernel), by decide +kernel⟩
theorem a306 : (Cond.code yX3_hours cX3_hours 3 none) ∈ wsAll := wsq ⟨List.mem_of_getElem? (i := 581) (by decide +kernel), by decide +kernel⟩
theorem a307 : (Cond.methodLink RL 85 yL_run) ∈ wsAll := wsq ⟨List.mem_of_getElem? (i := 316) (by decide +kernel), by decide +kernel⟩
theorem a308 : (Cond.static yL_run) ∈ wsAll := wsq ⟨List.mem_of_getElem? (i := 317) (by decide +kernel), by decide +kernel⟩
theorem a309 : (Cond.codeWith yL_run cL_run 4 (some .int) hhL_run) ∈ wsAll := wsq ⟨List.mem_of_getElem? (i := 318) (by decide +kernel), by decide +kernel⟩
theorem a310 : (Cond.methodLink RL 88 yX3_run) ∈ wsAll := wsq ⟨List.mem_of_getElem? (i := 582) (by decide +kernel), by decide +kernel⟩
theorem a311 : (Cond.instanceMethod yX3_run) ∈ wsAll := wsq ⟨List.mem_of_getElem? (i := 583) (by decide +kernel), by decide +kernel⟩
theorem a312 : (Cond.selects RX3 yX3_run yX3_run) ∈ wsAll := wsq ⟨List.mem_of_getElem? (i := 584) (by decide +kernel), by decide +kernel⟩
theorem a313 : (Cond.code yX3_run cX3_run 3 (some .int)) ∈ wsAll := wsq ⟨List.mem_of_getElem? (i := 585) (by decide +kernel), by decide +kernel⟩
theorem a314 : (Cond.methodLink RL 89 yL_search) ∈ wsAll := wsq ⟨List.mem_of_getElem? (i := 377) (by decide +kernel), by decide +kernel⟩
theorem a315 : (Cond.static yL_search) ∈ wsAll := wsq ⟨List.mem_of_getElem? (i := 378) (by decide +kernel), by decide +kernel⟩
theorem a316 : (Cond.codeWith yL_search cL_search 4 (some .int) hhL_search) ∈ wsAll := wsq ⟨List.mem_of_getElem? (i := 379) (by decide +kernel), by decide +kernel⟩
theorem a317 : (Cond.methodLink RL 91 yX3_search) ∈ wsAll := wsq ⟨List.mem_of_getElem? (i := 609) (by decide +kernel), by decide +kernel⟩
theorem a318 : (Cond.instanceMethod yX3_search) ∈ wsAll := wsq ⟨List.mem_of_getElem? (i := 610) (by decide +kernel), by decide +kernel⟩
theorem a319 : (Cond.selects RX3 yX3_search yX3_search) ∈ wsAll := wsq ⟨List.mem_of_getElem? (i := 611) (by decide +kernel), by decide +kernel⟩
theorem a320 : (Cond.code yX3_search cX3_search 2 (some .int)) ∈ wsAll := wsq ⟨List.mem_of_getElem? (i := 612) (by decide +kernel), by decide +kernel⟩
theorem a321 : (Cond.methodLink RL 92 yL_used) ∈ wsAll := wsq ⟨List.mem_of_getElem? (i := 389) (by decide +kernel), by decide +kernel⟩
theorem a322 : (Cond.static yL_used) ∈ wsAll := wsq ⟨List.mem_of_getElem? (i := 390) (by decide +kernel), by decide +kernel⟩
theorem a323 : (Cond.codeWith yL_used cL_used 4 (some .int) hhL_used) ∈ wsAll := wsq ⟨List.mem_of_getElem? (i := 391) (by decide +kernel), by decide +kernel⟩
theorem a324 : (Cond.methodLink RL 94 yX3_used) ∈ wsAll := wsq ⟨List.mem_of_getElem? (i := 617) (by decide +kernel), by decide +kernel⟩
theorem a325 : (Cond.instanceMethod yX3_used) ∈ wsAll := wsq ⟨List.mem_of_getElem? (i := 618) (by decide +kernel), by decide +kernel⟩
theorem a326 : (Cond.selects RX3 yX3_used yX3_used) ∈ wsAll := wsq ⟨List.mem_of_getElem? (i := 619) (by decide +kernel), by decide +kernel⟩
theorem a327 : (Cond.code yX3_used cX3_used 2 (some .int)) ∈ wsAll := wsq ⟨List.mem_of_getElem? (i := 620) (by decide +kernel), by decide +kernel⟩
theorem a328 : (Cond.methodLink RL 95 yL_best) ∈ wsAll := wsq ⟨List.mem_of_getElem? (i := 400) (by decide +kernel), by decide +kernel⟩
theorem a329 : (Cond.static yL_best) ∈ wsAll := wsq ⟨List.mem_of_getElem? (i := 401) (by decide +kernel), by decide +kernel⟩
theorem a330 : (Cond.codeWith yL_best cL_best 4 (some .int) hhL_best) ∈ wsAll := wsq ⟨List.mem_of_getElem? (i := 402) (by decide +kernel), by decide +kernel⟩
theorem a331 : (Cond.methodLink RL 97 yX3_best) ∈ wsAll := wsq ⟨List.mem_of_getElem? (i := 621) (by decide +kernel), by decide +kernel⟩
theorem a332 : (Cond.instanceMethod yX3_best) ∈ wsAll := wsq ⟨List.mem_of_getElem? (i := 622) (by decide +kernel), by decide +kernel⟩
theorem a333 : (Cond.selects RX3 yX3_best yX3_best) ∈ wsAll := wsq ⟨List.mem_of_getElem? (i := 623) (by decide +kernel), by decide +kernel⟩
theorem a334 : (Cond.code yX3_best cX3_best 4 (some .int)) ∈ wsAll := wsq ⟨List.mem_of_getElem? (i := 624) (by decide +kernel), by decide +kernel⟩
theorem a335 : (Cond.methodLink RL 98 yL_made) ∈ wsAll := wsq ⟨List.mem_of_getElem? (i := 416) (by decide +kernel), by decide +kernel⟩
theorem a336 : (Cond.static yL_made) ∈ wsAll := wsq ⟨List.mem_of_getElem? (i := 417) (by decide +kernel), by decide +kernel⟩
theorem a337 : (Cond.codeWith yL_made cL_made 4 (some .int) hhL_made) ∈ wsAll := wsq ⟨List.mem_of_getElem? (i := 418) (by decide +kernel), by decide +kernel⟩
theorem a338 : (Cond.methodLink RL 100 yX3_made) ∈ wsAll := wsq ⟨List.mem_of_getElem? (i := 625) (by decide +kernel), by decide +kernel⟩
theorem a339 : (Cond.instanceMethod yX3_made) ∈ wsAll := wsq ⟨List.mem_of_getElem? (i := 626) (by decide +kernel), by decide +kernel⟩
theorem a340 : (Cond.selects RX3 yX3_made yX3_made) ∈ wsAll := wsq ⟨List.mem_of_getElem? (i := 627) (by decide +kernel), by decide +kernel⟩
theorem a341 : (Cond.code yX3_made cX3_made 2 (some .int)) ∈ wsAll := wsq ⟨List.mem_of_getElem? (i := 628) (by decide +kernel), by decide +kernel⟩
theorem a342 : (Cond.methodLink RL 101 yL_saw) ∈ wsAll := wsq ⟨List.mem_of_getElem? (i := 427) (by decide +kernel), by decide +kernel⟩
theorem a343 : (Cond.static yL_saw) ∈ wsAll := wsq ⟨List.mem_of_getElem? (i := 428) (by decide +kernel), by decide +kernel⟩
theorem a344 : (Cond.codeWith yL_saw cL_saw 3 (some .int) hhL_saw) ∈ wsAll := wsq ⟨List.mem_of_getElem? (i := 429) (by decide +kernel), by decide +kernel⟩
theorem a345 : (Cond.methodLink RL 104 yX3_saw) ∈ wsAll := wsq ⟨List.mem_of_getElem? (i := 629) (by decide +kernel), by decide +kernel⟩
theorem a346 : (Cond.instanceMethod yX3_saw) ∈ wsAll := wsq ⟨List.mem_of_getElem? (i := 630) (by decide +kernel), by decide +kernel⟩
theorem a347 : (Cond.selects RX3 yX3_saw yX3_saw) ∈ wsAll := wsq ⟨List.mem_of_getElem? (i := 631) (by decide +kernel), by decide +kernel⟩
theorem a348 : (Cond.code yX3_saw cX3_saw 3 (some .int)) ∈ wsAll := wsq ⟨List.mem_of_getElem? (i := 632) (by decide +kernel), by decide +kernel⟩
theorem a349 : (Cond.methodLink RL 105 yL_mill) ∈ wsAll := wsq ⟨List.mem_of_getElem? (i := 440) (by decide +kernel), by decide +kernel⟩
theorem a350 : (Cond.static yL_mill) ∈ wsAll := wsq ⟨List.mem_of_getElem? (i := 441) (by decide +kernel), by decide +kernel⟩
theorem a351 : (Cond.codeWith yL_mill cL_mill 4 (some .int) hhL_mill) ∈ wsAll := wsq ⟨List.mem_of_getElem? (i := 442) (by decide +kernel), by decide +kernel⟩
theorem a352 : (Cond.methodLink RL 107 yX3_mill) ∈ wsAll := wsq ⟨List.mem_of_getElem? (i := 633) (by decide +kernel), by decide +kernel⟩
theorem a353 : (Cond.instanceMethod yX3_mill) ∈ wsAll := wsq ⟨List.mem_of_getElem? (i := 634) (by decide +kernel), by decide +kernel⟩
theorem a354 : (Cond.selects RX3 yX3_mill yX3_mill) ∈ wsAll := wsq ⟨List.mem_of_getElem? (i := 635) (by decide +kernel), by decide +kernel⟩
theorem a355 : (Cond.code yX3_mill cX3_mill 2 (some .int)) ∈ wsAll := wsq ⟨List.mem_of_getElem? (i := 636) (by decide +kernel), by decide +kernel⟩
theorem a356 : (Cond.methodLink RL 108 yL_cost) ∈ wsAll := wsq ⟨List.mem_of_getElem? (i := 447) (by decide +kernel), by decide +kernel⟩
theorem a357 : (Cond.static yL_cost) ∈ wsAll := wsq ⟨List.mem_of_getElem? (i := 448) (by decide +kernel), by decide +kernel⟩
theorem a358 : (Cond.codeWith yL_cost cL_cost 5 (some .int) hhL_cost) ∈ wsAll := wsq ⟨List.mem_of_getElem? (i := 449) (by decide +kernel), by decide +kernel⟩
theorem a359 : (Cond.methodLink RL 110 yX3_cost) ∈ wsAll := wsq ⟨List.mem_of_getElem? (i := 637) (by decide +kernel), by decide +kernel⟩
theorem a360 : (Cond.instanceMethod yX3_cost) ∈ wsAll := wsq ⟨List.mem_of_getElem? (i := 638) (by decide +kernel), by decide +kernel⟩
theorem a361 : (Cond.selects RX3 yX3_cost yX3_cost) ∈ wsAll := wsq ⟨List.mem_of_getElem? (i := 639) (by decide +kernel), by decide +kernel⟩
theorem a362 : (Cond.code yX3_cost cX3_cost 8 (some .int)) ∈ wsAll := wsq ⟨List.mem_of_getElem? (i := 640) (by decide +kernel), by decide +kernel⟩
theorem a363 : (Cond.methodLink RL 111 yX3_thrown) ∈ wsAll := wsq ⟨List.mem_of_getElem? (i := 546) (by decide +kernel), by decide +kernel⟩
theorem a364 : (Cond.instanceMethod yX3_thrown) ∈ wsAll := wsq ⟨List.mem_of_getElem? (i := 547) (by decide +kernel), by decide +kernel⟩
theorem a365 : (Cond.selects RX3 yX3_thrown yX3_thrown) ∈ wsAll := wsq ⟨List.mem_of_getElem? (i := 548) (by decide +kernel), by decide +kernel⟩
theorem a366 : (Cond.code yX3_thrown cX3_thrown 1 (some .int)) ∈ wsAll := wsq ⟨List.mem_of_getElem? (i := 549) (by decide +kernel), by decide +kernel⟩
theorem a367 : (Cond.instantiable RX2 6) ∈ wsAll := wsq ⟨List.mem_of_getElem? (i := 14) (by decide +kernel), by decide +kernel⟩
theorem a368 : (Cond.instantiable RX3 27) ∈ wsAll := wsq ⟨List.mem_of_getElem? (i := 459) (by decide +kernel), by decide +kernel⟩
theorem a369 : (Cond.arrayClass .long) ∈ wsAll := wsq ⟨List.mem_of_getElem? (i := 641) (by decide +kernel), by decide +kernel⟩
theorem a370 : (Cond.classLink RL 8 RX2) ∈ wsAll := wsq ⟨List.mem_of_getElem? (i := 13) (by decide +kernel), by decide +kernel⟩
theorem a371 : (Cond.methodLink RL 60 yX2_init) ∈ wsAll := wsq ⟨List.mem_of_getElem? (i := 15) (by decide +kernel), by decide +kernel⟩
theorem a372 : (Cond.instanceMethod yX2_init) ∈ wsAll := wsq ⟨List.mem_of_getElem? (i := 16) (by decide +kernel), by decide +kernel⟩
theorem a373 : (Cond.code yX2_init cX2_init 1 none) ∈ wsAll := wsq ⟨List.mem_of_getElem? (i := 17) (by decide +kernel), by decide +kernel⟩
theorem a374 : (Cond.classLink RL 61 RX3) ∈ wsAll := wsq ⟨List.mem_of_getElem? (i := 458) (by decide +kernel), by decide +kernel⟩
theorem a375 : (Cond.methodLink RL 63 yX3_init) ∈ wsAll := wsq ⟨List.mem_of_getElem? (i := 460) (by decide +kernel), by decide +kernel⟩
theorem a376 : (Cond.instanceMethod yX3_init) ∈ wsAll := wsq ⟨List.mem_of_getElem? (i := 461) (by decide +kernel), by decide +kernel⟩
theorem a377 : (Cond.code yX3_init cX3_init 1 none) ∈ wsAll := wsq ⟨List.mem_of_getElem? (i := 462) (by decide +kernel), by decide +kernel⟩
def vxD : List Cond := [.declares ⟨"java/lang/RuntimeException", "<init>", "(Ljava/lang/String;)V"⟩, .declares ⟨"java/lang/Exception", "<init>", "(Ljava/lang/String;)V"⟩, .declares ⟨"java/lang/Throwable", "<init>", "(Ljava/lang/String;)V"⟩]
theorem vxDT : ∀ w ∈ vxD, w.onTables = true := by decide +kernel
theorem vxt_147 : ∀ w ∈ (vx_atS RX2 147 "java/lang/IndexOutOfBoundsException" ["java/lang/RuntimeException", "java/lang/Exception"]).filter goodWord, w ∈ lw_tbl := by decide +kernel
theorem vxg_147 (w : Cond) (h : w ∈ (vx_atS RX2 147 "java/lang/IndexOutOfBoundsException" ["java/lang/RuntimeException", "java/lang/Exception"]).filter goodWord) : w ∈ wsAll := List.mem_filter.mpr ⟨vxt_147 w h, (List.mem_filter.mp h).2⟩
theorem vxb_147 : ∀ w ∈ (vx_atS RX2 147 "java/lang/IndexOutOfBoundsException" ["java/lang/RuntimeException", "java/lang/Exception"]).filter (fun w => !goodWord w), w ∈ Cond.castable "java/lang/IndexOutOfBoundsException" "java/lang/IndexOutOfBoundsException" :: vxD := by decide +kernel
theorem vxt_152 : ∀ w ∈ (vx_atS RX2 152 "java/lang/IllegalArgumentException" ["java/lang/RuntimeException", "java/lang/Exception"]).filter goodWord, w ∈ lw_tbl := by decide +kernel
theorem vxg_152 (w : Cond) (h : w ∈ (vx_atS RX2 152 "java/lang/IllegalArgumentException" ["java/lang/RuntimeException", "java/lang/Exception"]).filter goodWord) : w ∈ wsAll := List.mem_filter.mpr ⟨vxt_152 w h, (List.mem_filter.mp h).2⟩
theorem vxb_152 : ∀ w ∈ (vx_atS RX2 152 "java/lang/IllegalArgumentException" ["java/lang/RuntimeException", "java/lang/Exception"]).filter (fun w => !goodWord w), w ∈ Cond.castable "java/lang/IllegalArgumentException" "java/lang/IllegalArgumentException" :: vxD := by decide +kernel
theorem vxt_55 : ∀ w ∈ (vx_atS RX2 55 "java/lang/IllegalStateException" ["java/lang/RuntimeException", "java/lang/Exception"]).filter goodWord, w ∈ lw_tbl := by decide +kernel
theorem vxg_55 (w : Cond) (h : w ∈ (vx_atS RX2 55 "java/lang/IllegalStateException" ["java/lang/RuntimeException", "java/lang/Exception"]).filter goodWord) : w ∈ wsAll := List.mem_filter.mpr ⟨vxt_55 w h, (List.mem_filter.mp h).2⟩
theorem vxb_55 : ∀ w ∈ (vx_atS RX2 55 "java/lang/IllegalStateException" ["java/lang/RuntimeException", "java/lang/Exception"]).filter (fun w => !goodWord w), w ∈ Cond.castable "java/lang/IllegalStateException" "java/lang/IllegalStateException" :: vxD := by decide +kernel
