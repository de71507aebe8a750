theorem a0 : (Cond.classLink RX2 143 "java/lang/IndexOutOfBoundsException") ∈ wsAll := wsq ⟨List.mem_of_getElem? (i := 179) (by decide +kernel), by decide +kernel⟩
theorem a1 : (Cond.initialized "java/lang/IndexOutOfBoundsException") ∈ wsAll := wsq ⟨List.mem_of_getElem? (i := 8) (by decide +kernel), by decide +kernel⟩
theorem a2 : (Cond.classLink RX2 148 "java/lang/IllegalArgumentException") ∈ wsAll := wsq ⟨List.mem_of_getElem? (i := 250) (by decide +kernel), by decide +kernel⟩
theorem a3 : (Cond.initialized "java/lang/IllegalArgumentException") ∈ wsAll := wsq ⟨List.mem_of_getElem? (i := 9) (by decide +kernel), by decide +kernel⟩
theorem a4 : (Cond.classLink RX2 51 "java/lang/IllegalStateException") ∈ wsAll := wsq ⟨List.mem_of_getElem? (i := 279) (by decide +kernel), by decide +kernel⟩
theorem a5 : (Cond.initialized "java/lang/IllegalStateException") ∈ wsAll := wsq ⟨List.mem_of_getElem? (i := 10) (by decide +kernel), by decide +kernel⟩
theorem a6 : (Cond.fieldLink RX0 33 RX0 "yard" "LDayCutPlans$Yard;") ∈ wsAll := wsq ⟨List.mem_of_getElem? (i := 97) (by decide +kernel), by decide +kernel⟩
theorem a7 : (Cond.fieldLink RX0 72 RX0 "minutesFree" "I") ∈ wsAll := wsq ⟨List.mem_of_getElem? (i := 101) (by decide +kernel), by decide +kernel⟩
theorem a8 : (Cond.fieldLink RX0 75 RX0 "centsSoFar" "I") ∈ wsAll := wsq ⟨List.mem_of_getElem? (i := 102) (by decide +kernel), by decide +kernel⟩
theorem a9 : (Cond.fieldLink RX0 18 RX0 "madeSoFar" "[I") ∈ wsAll := wsq ⟨List.mem_of_getElem? (i := 100) (by decide +kernel), by decide +kernel⟩
theorem a10 : (Cond.fieldLink RX0 15 RX0 "logsFree" "[I") ∈ wsAll := wsq ⟨List.mem_of_getElem? (i := 99) (by decide +kernel), by decide +kernel⟩
theorem a11 : (Cond.fieldLink RX0 9 RX0 "counts" "[I") ∈ wsAll := wsq ⟨List.mem_of_getElem? (i := 98) (by decide +kernel), by decide +kernel⟩
theorem a12 : (Cond.fieldLink RX0 21 RX0 "least" "[I") ∈ wsAll := wsq ⟨List.mem_of_getElem? (i := 103) (by decide +kernel), by decide +kernel⟩
theorem a13 : (Cond.fieldLink RX0 24 RX0 "most" "[I") ∈ wsAll := wsq ⟨List.mem_of_getElem? (i := 104) (by decide +kernel), by decide +kernel⟩
theorem a14 : (Cond.fieldLink RX0 27 RX0 "worth" "[I") ∈ wsAll := wsq ⟨List.mem_of_getElem? (i := 105) (by decide +kernel), by decide +kernel⟩
theorem a15 : (Cond.methodLink RX0 103 yX0_minutesOfNextLog) ∈ wsAll := wsq ⟨List.mem_of_getElem? (i := 365) (by decide +kernel), by decide +kernel⟩
theorem a16 : (Cond.instanceMethod yX0_minutesOfNextLog) ∈ wsAll := wsq ⟨List.mem_of_getElem? (i := 367) (by decide +kernel), by decide +kernel⟩
theorem a17 : (Cond.selects RX0 yX0_minutesOfNextLog yX0_minutesOfNextLog) ∈ wsAll := wsp (by decide +kernel)
theorem a18 : (Cond.initialized RX0) ∈ wsAll := wsq ⟨List.mem_of_getElem? (i := 3) (by decide +kernel), by decide +kernel⟩
theorem a19 : (Cond.code yX0_minutesOfNextLog cX0_minutesOfNextLog 3 (some .int)) ∈ wsAll := wsq ⟨List.mem_of_getElem? (i := 368) (by decide +kernel), by decide +kernel⟩
theorem a20 : (Cond.methodLink RX0 137 Lib.Math.min.name) ∈ wsAll := wsq ⟨List.mem_of_getElem? (i := 351) (by decide +kernel), by decide +kernel⟩
theorem a21 : (Cond.static Lib.Math.min.name) ∈ wsAll := wsq ⟨List.mem_of_getElem? (i := 352) (by decide +kernel), by decide +kernel⟩
theorem a22 : (Cond.initialized "java/lang/Math") ∈ wsAll := wsq ⟨List.mem_of_getElem? (i := 11) (by decide +kernel), by decide +kernel⟩
theorem a23 : (Cond.code Lib.Math.min.name Lib.Math.min.code 2 (some .int)) ∈ wsAll := wsq ⟨List.mem_of_getElem? (i := 353) (by decide +kernel), by decide +kernel⟩
theorem a24 : (Cond.fieldLink RX0 55 RX0 "found" "Z") ∈ wsAll := wsq ⟨List.mem_of_getElem? (i := 111) (by decide +kernel), by decide +kernel⟩
theorem a25 : (Cond.fieldLink RX0 128 RX0 "bestGain" "I") ∈ wsAll := wsq ⟨List.mem_of_getElem? (i := 114) (by decide +kernel), by decide +kernel⟩
theorem a26 : (Cond.fieldLink RX0 30 RX0 "bestCounts" "[I") ∈ wsAll := wsq ⟨List.mem_of_getElem? (i := 115) (by decide +kernel), by decide +kernel⟩
theorem a27 : (Cond.methodLink RX0 131 arraycopyName) ∈ wsAll := wsq ⟨List.mem_of_getElem? (i := 354) (by decide +kernel), by decide +kernel⟩
theorem a28 : (Cond.native arraycopyName) ∈ wsAll := wsq ⟨List.mem_of_getElem? (i := 356) (by decide +kernel), by decide +kernel⟩
theorem a29 : (Cond.static arraycopyName) ∈ wsAll := wsq ⟨List.mem_of_getElem? (i := 355) (by decide +kernel), by decide +kernel⟩
theorem a30 : (Cond.initialized "java/lang/System") ∈ wsAll := wsq ⟨List.mem_of_getElem? (i := 12) (by decide +kernel), by decide +kernel⟩
theorem a31 : (Cond.methodLink RX0 120 yX0_fillsOrders) ∈ wsAll := wsq ⟨List.mem_of_getElem? (i := 343) (by decide +kernel), by decide +kernel⟩
theorem a32 : (Cond.instanceMethod yX0_fillsOrders) ∈ wsAll := wsq ⟨List.mem_of_getElem? (i := 345) (by decide +kernel), by decide +kernel⟩
theorem a33 : (Cond.selects RX0 yX0_fillsOrders yX0_fillsOrders) ∈ wsAll := wsp (by decide +kernel)
theorem a34 : (Cond.code yX0_fillsOrders cX0_fillsOrders 2 (some .boolean)) ∈ wsAll := wsq ⟨List.mem_of_getElem? (i := 346) (by decide +kernel), by decide +kernel⟩
theorem a35 : (Cond.methodLink RX0 124 yX0_gainOfPlan) ∈ wsAll := wsq ⟨List.mem_of_getElem? (i := 347) (by decide +kernel), by decide +kernel⟩
theorem a36 : (Cond.instanceMethod yX0_gainOfPlan) ∈ wsAll := wsq ⟨List.mem_of_getElem? (i := 349) (by decide +kernel), by decide +kernel⟩
theorem a37 : (Cond.selects RX0 yX0_gainOfPlan yX0_gainOfPlan) ∈ wsAll := wsp (by decide +kernel)
theorem a38 : (Cond.code yX0_gainOfPlan cX0_gainOfPlan 3 (some .int)) ∈ wsAll := wsq ⟨List.mem_of_getElem? (i := 350) (by decide +kernel), by decide +kernel⟩
theorem a39 : (Cond.methodLink RX0 84 yX0_lookAtPlan) ∈ wsAll := wsq ⟨List.mem_of_getElem? (i := 339) (by decide +kernel), by decide +kernel⟩
theorem a40 : (Cond.instanceMethod yX0_lookAtPlan) ∈ wsAll := wsq ⟨List.mem_of_getElem? (i := 341) (by decide +kernel), by decide +kernel⟩
theorem a41 : (Cond.selects RX0 yX0_lookAtPlan yX0_lookAtPlan) ∈ wsAll := wsp (by decide +kernel)
theorem a42 : (Cond.code yX0_lookAtPlan cX0_lookAtPlan 2 none) ∈ wsAll := wsq ⟨List.mem_of_getElem? (i := 342) (by decide +kernel), by decide +kernel⟩
theorem a43 : (Cond.fieldLink RX0 48 RX0 "steps" "I") ∈ wsAll := wsq ⟨List.mem_of_getElem? (i := 107) (by decide +kernel), by decide +kernel⟩
theorem a44 : (Cond.fieldLink RX0 44 RX0 "stepsAllowed" "I") ∈ wsAll := wsq ⟨List.mem_of_getElem? (i := 106) (by decide +kernel), by decide +kernel⟩
theorem a45 : (Cond.methodLink RX0 58 yX0_tellPatternsFrom) ∈ wsAll := wsq ⟨List.mem_of_getElem? (i := 335) (by decide +kernel), by decide +kernel⟩
theorem a46 : (Cond.instanceMethod yX0_tellPatternsFrom) ∈ wsAll := wsq ⟨List.mem_of_getElem? (i := 337) (by decide +kernel), by decide +kernel⟩
theorem a47 : (Cond.selects RX0 yX0_tellPatternsFrom yX0_tellPatternsFrom) ∈ wsAll := wsp (by decide +kernel)
theorem a48 : (Cond.code yX0_tellPatternsFrom cX0_tellPatternsFrom 3 none) ∈ wsAll := wsq ⟨List.mem_of_getElem? (i := 338) (by decide +kernel), by decide +kernel⟩
theorem a49 : (Cond.fieldLink RX0 51 RX0 "spent" "Z") ∈ wsAll := wsq ⟨List.mem_of_getElem? (i := 109) (by decide +kernel), by decide +kernel⟩
theorem a50 : (Cond.methodLink RX0 97 yX0_takeLogsBack) ∈ wsAll := wsq ⟨List.mem_of_getElem? (i := 373) (by decide +kernel), by decide +kernel⟩
theorem a51 : (Cond.instanceMethod yX0_takeLogsBack) ∈ wsAll := wsq ⟨List.mem_of_getElem? (i := 375) (by decide +kernel), by decide +kernel⟩
theorem a52 : (Cond.selects RX0 yX0_takeLogsBack yX0_takeLogsBack) ∈ wsAll := wsp (by decide +kernel)
theorem a53 : (Cond.code yX0_takeLogsBack cX0_takeLogsBack 5 none) ∈ wsAll := wsq ⟨List.mem_of_getElem? (i := 376) (by decide +kernel), by decide +kernel⟩
theorem a54 : (Cond.methodLink RX0 90 yX0_oneLogMoreFits) ∈ wsAll := wsq ⟨List.mem_of_getElem? (i := 361) (by decide +kernel), by decide +kernel⟩
theorem a55 : (Cond.instanceMethod yX0_oneLogMoreFits) ∈ wsAll := wsq ⟨List.mem_of_getElem? (i := 363) (by decide +kernel), by decide +kernel⟩
theorem a56 : (Cond.selects RX0 yX0_oneLogMoreFits yX0_oneLogMoreFits) ∈ wsAll := wsp (by decide +kernel)
theorem a57 : (Cond.code yX0_oneLogMoreFits cX0_oneLogMoreFits 2 (some .boolean)) ∈ wsAll := wsq ⟨List.mem_of_getElem? (i := 364) (by decide +kernel), by decide +kernel⟩
theorem a58 : (Cond.methodLink RX0 94 yX0_addLog) ∈ wsAll := wsq ⟨List.mem_of_getElem? (i := 369) (by decide +kernel), by decide +kernel⟩
theorem a59 : (Cond.instanceMethod yX0_addLog) ∈ wsAll := wsq ⟨List.mem_of_getElem? (i := 371) (by decide +kernel), by decide +kernel⟩
theorem a60 : (Cond.selects RX0 yX0_addLog yX0_addLog) ∈ wsAll := wsp (by decide +kernel)
theorem a61 : (Cond.code yX0_addLog cX0_addLog 4 none) ∈ wsAll := wsq ⟨List.mem_of_getElem? (i := 372) (by decide +kernel), by decide +kernel⟩
theorem a62 : (Cond.methodLink RX0 87 yX0_takeStep) ∈ wsAll := wsq ⟨List.mem_of_getElem? (i := 357) (by decide +kernel), by decide +kernel⟩
theorem a63 : (Cond.instanceMethod yX0_takeStep) ∈ wsAll := wsq ⟨List.mem_of_getElem? (i := 359) (by decide +kernel), by decide +kernel⟩
theorem a64 : (Cond.selects RX0 yX0_takeStep yX0_takeStep) ∈ wsAll := wsp (by decide +kernel)
theorem a65 : (Cond.code yX0_takeStep cX0_takeStep 2 none) ∈ wsAll := wsq ⟨List.mem_of_getElem? (i := 360) (by decide +kernel), by decide +kernel⟩
theorem a66 : (Cond.methodLink RX0 37 yX0_startWithEmptyPlan) ∈ wsAll := wsq ⟨List.mem_of_getElem? (i := 327) (by decide +kernel), by decide +kernel⟩
theorem a67 : (Cond.instanceMethod yX0_startWithEmptyPlan) ∈ wsAll := wsq ⟨List.mem_of_getElem? (i := 329) (by decide +kernel), by decide +kernel⟩
theorem a68 : (Cond.selects RX0 yX0_startWithEmptyPlan yX0_startWithEmptyPlan) ∈ wsAll := wsp (by decide +kernel)
theorem a69 : (Cond.code yX0_startWithEmptyPlan cX0_startWithEmptyPlan 2 none) ∈ wsAll := wsq ⟨List.mem_of_getElem? (i := 330) (by decide +kernel), by decide +kernel⟩
theorem a70 : (Cond.methodLink RX0 40 yX0_takeOrders) ∈ wsAll := wsq ⟨List.mem_of_getElem? (i := 331) (by decide +kernel), by decide +kernel⟩
theorem a71 : (Cond.instanceMethod yX0_takeOrders) ∈ wsAll := wsq ⟨List.mem_of_getElem? (i := 333) (by decide +kernel), by decide +kernel⟩
theorem a72 : (Cond.selects RX0 yX0_takeOrders yX0_takeOrders) ∈ wsAll := wsp (by decide +kernel)
theorem a73 : (Cond.code yX0_takeOrders cX0_takeOrders 4 none) ∈ wsAll := wsq ⟨List.mem_of_getElem? (i := 334) (by decide +kernel), by decide +kernel⟩
theorem a74 : (Cond.fieldLink RX1 35 RX1 "worth" "[I") ∈ wsAll := wsq ⟨List.mem_of_getElem? (i := 50) (by decide +kernel), by decide +kernel⟩
theorem a75 : (Cond.fieldLink RX1 32 RX1 "most" "[I") ∈ wsAll := wsq ⟨List.mem_of_getElem? (i := 47) (by decide +kernel), by decide +kernel⟩
theorem a76 : (Cond.fieldLink RX1 45 RX1 "patterns" "I") ∈ wsAll := wsq ⟨List.mem_of_getElem? (i := 56) (by decide +kernel), by decide +kernel⟩
theorem a77 : (Cond.methodLink RX1 48 yX1_patternsUsedIn) ∈ wsAll := wsq ⟨List.mem_of_getElem? (i := 411) (by decide +kernel), by decide +kernel⟩
theorem a78 : (Cond.instanceMethod yX1_patternsUsedIn) ∈ wsAll := wsq ⟨List.mem_of_getElem? (i := 413) (by decide +kernel), by decide +kernel⟩
theorem a79 : (Cond.selects RX1 yX1_patternsUsedIn yX1_patternsUsedIn) ∈ wsAll := wsp (by decide +kernel)
theorem a80 : (Cond.initialized RX1) ∈ wsAll := wsq ⟨List.mem_of_getElem? (i := 2) (by decide +kernel), by decide +kernel⟩
theorem a81 : (Cond.code yX1_patternsUsedIn cX1_patternsUsedIn 4 (some .int)) ∈ wsAll := wsq ⟨List.mem_of_getElem? (i := 414) (by decide +kernel), by decide +kernel⟩
theorem a82 : (Cond.fieldLink RX1 52 RX1 "change" "I") ∈ wsAll := wsq ⟨List.mem_of_getElem? (i := 62) (by decide +kernel), by decide +kernel⟩
theorem a83 : (Cond.fieldLink RX1 21 RX1 "minutesALog" "[I") ∈ wsAll := wsq ⟨List.mem_of_getElem? (i := 38) (by decide +kernel), by decide +kernel⟩
theorem a84 : (Cond.fieldLink RX1 26 RX1 "boardsALog" "[[I") ∈ wsAll := wsq ⟨List.mem_of_getElem? (i := 41) (by decide +kernel), by decide +kernel⟩
theorem a85 : (Cond.fieldLink RX1 38 RX1 "stock" "[I") ∈ wsAll := wsq ⟨List.mem_of_getElem? (i := 53) (by decide +kernel), by decide +kernel⟩
theorem a86 : (Cond.fieldLink RX1 9 RX1 "logsLeft" "[I") ∈ wsAll := wsq ⟨List.mem_of_getElem? (i := 29) (by decide +kernel), by decide +kernel⟩
theorem a87 : (Cond.fieldLink RX1 18 RX1 "classOf" "[I") ∈ wsAll := wsq ⟨List.mem_of_getElem? (i := 35) (by decide +kernel), by decide +kernel⟩
theorem a88 : (Cond.methodLink RX1 55 yX1_madeBy) ∈ wsAll := wsq ⟨List.mem_of_getElem? (i := 438) (by decide +kernel), by decide +kernel⟩
theorem a89 : (Cond.instanceMethod yX1_madeBy) ∈ wsAll := wsq ⟨List.mem_of_getElem? (i := 425) (by decide +kernel), by decide +kernel⟩
theorem a90 : (Cond.selects RX1 yX1_madeBy yX1_madeBy) ∈ wsAll := wsp (by decide +kernel)
theorem a91 : (Cond.code yX1_madeBy cX1_madeBy 5 (some .int)) ∈ wsAll := wsq ⟨List.mem_of_getElem? (i := 426) (by decide +kernel), by decide +kernel⟩
theorem a92 : (Cond.methodLink RX1 59 Lib.Math.min.name) ∈ wsAll := wsq ⟨List.mem_of_getElem? (i := 439) (by decide +kernel), by decide +kernel⟩
theorem a93 : (Cond.fieldLink RX2 86 RX2 "searchedSinceTold" "Z") ∈ wsAll := wsq ⟨List.mem_of_getElem? (i := 151) (by decide +kernel), by decide +kernel⟩
theorem a94 : (Cond.fieldLink RX2 21 RX2 "latest" "LDayCutPlans$Search;") ∈ wsAll := wsq ⟨List.mem_of_getElem? (i := 149) (by decide +kernel), by decide +kernel⟩
theorem a95 : (Cond.methodLink RX2 28 yX2_needIndex) ∈ wsAll := wsq ⟨List.mem_of_getElem? (i := 176) (by decide +kernel), by decide +kernel⟩
theorem a96 : (Cond.static yX2_needIndex) ∈ wsAll := wsq ⟨List.mem_of_getElem? (i := 177) (by decide +kernel), by decide +kernel⟩
theorem a97 : (Cond.initialized RX2) ∈ wsAll := wsq ⟨List.mem_of_getElem? (i := 1) (by decide +kernel), by decide +kernel⟩
theorem a98 : (Cond.code yX2_needIndex cX2_needIndex 2 none) ∈ wsAll := wsq ⟨List.mem_of_getElem? (i := 178) (by decide +kernel), by decide +kernel⟩
theorem a99 : (Cond.methodLink RX2 32 yX2_needRange) ∈ wsAll := wsq ⟨List.mem_of_getElem? (i := 247) (by decide +kernel), by decide +kernel⟩
theorem a100 : (Cond.static yX2_needRange) ∈ wsAll := wsq ⟨List.mem_of_getElem? (i := 248) (by decide +kernel), by decide +kernel⟩
theorem a101 : (Cond.code yX2_needRange cX2_needRange 3 none) ∈ wsAll := wsq ⟨List.mem_of_getElem? (i := 249) (by decide +kernel), by decide +kernel⟩
theorem a102 : (Cond.constant RX2 36 (nI 100000)) ∈ wsAll := wsq ⟨List.mem_of_getElem? (i := 266) (by decide +kernel), by decide +kernel⟩
theorem a103 : (Cond.fieldLink RX2 10 RX2 "yard" "LDayCutPlans$Yard;") ∈ wsAll := wsq ⟨List.mem_of_getElem? (i := 148) (by decide +kernel), by decide +kernel⟩
theorem a104 : (Cond.methodLink RX2 44 yX2_forgetSearch) ∈ wsAll := wsq ⟨List.mem_of_getElem? (i := 267) (by decide +kernel), by decide +kernel⟩
theorem a105 : (Cond.instanceMethod yX2_forgetSearch) ∈ wsAll := wsq ⟨List.mem_of_getElem? (i := 269) (by decide +kernel), by decide +kernel⟩
theorem a106 : (Cond.selects RX2 yX2_forgetSearch yX2_forgetSearch) ∈ wsAll := wsp (by decide +kernel)
theorem a107 : (Cond.code yX2_forgetSearch cX2_forgetSearch 1 none) ∈ wsAll := wsq ⟨List.mem_of_getElem? (i := 270) (by decide +kernel), by decide +kernel⟩
theorem a108 : (Cond.instanceMethod yX0_goThroughPlans) ∈ wsAll := wsq ⟨List.mem_of_getElem? (i := 325) (by decide +kernel), by decide +kernel⟩
theorem a109 : (Cond.selects RX0 yX0_goThroughPlans yX0_goThroughPlans) ∈ wsAll := wsp (by decide +kernel)
theorem a110 : (Cond.code yX0_goThroughPlans cX0_goThroughPlans 3 none) ∈ wsAll := wsq ⟨List.mem_of_getElem? (i := 326) (by decide +kernel), by decide +kernel⟩
theorem a111 : (Cond.instanceMethod yX1_boundOfGain) ∈ wsAll := wsq ⟨List.mem_of_getElem? (i := 387) (by decide +kernel), by decide +kernel⟩
theorem a112 : (Cond.selects RX1 yX1_boundOfGain yX1_boundOfGain) ∈ wsAll := wsp (by decide +kernel)
theorem a113 : (Cond.code yX1_boundOfGain cX1_boundOfGain 3 (some .int)) ∈ wsAll := wsq ⟨List.mem_of_getElem? (i := 388) (by decide +kernel), by decide +kernel⟩
theorem a114 : (Cond.methodLink RX2 105 yX2_needBest) ∈ wsAll := wsq ⟨List.mem_of_getElem? (i := 396) (by decide +kernel), by decide +kernel⟩
theorem a115 : (Cond.static yX2_needBest) ∈ wsAll := wsq ⟨List.mem_of_getElem? (i := 397) (by decide +kernel), by decide +kernel⟩
theorem a116 : (Cond.code yX2_needBest cX2_needBest 1 none) ∈ wsAll := wsq ⟨List.mem_of_getElem? (i := 398) (by decide +kernel), by decide +kernel⟩
theorem a117 : (Cond.instanceMethod yX1_minutesOf) ∈ wsAll := wsq ⟨List.mem_of_getElem? (i := 409) (by decide +kernel), by decide +kernel⟩
theorem a118 : (Cond.selects RX1 yX1_minutesOf yX1_minutesOf) ∈ wsAll := wsp (by decide +kernel)
theorem a119 : (Cond.code yX1_minutesOf cX1_minutesOf 4 (some .int)) ∈ wsAll := wsq ⟨List.mem_of_getElem? (i := 410) (by decide +kernel), by decide +kernel⟩
theorem a120 : (Cond.instanceMethod yX1_doPlan) ∈ wsAll := wsq ⟨List.mem_of_getElem? (i := 436) (by decide +kernel), by decide +kernel⟩
theorem a121 : (Cond.selects RX1 yX1_doPlan yX1_doPlan) ∈ wsAll := wsp (by decide +kernel)
theorem a122 : (Cond.code yX1_doPlan cX1_doPlan 4 none) ∈ wsAll := wsq ⟨List.mem_of_getElem? (i := 437) (by decide +kernel), by decide +kernel⟩
theorem a123 : (Cond.fieldLink RX2 130 RX2 "earned" "I") ∈ wsAll := wsq ⟨List.mem_of_getElem? (i := 153) (by decide +kernel), by decide +kernel⟩
theorem a124 : (Cond.fieldLink RX2 133 RX2 "days" "I") ∈ wsAll := wsq ⟨List.mem_of_getElem? (i := 152) (by decide +kernel), by decide +kernel⟩
theorem a125 : (Cond.fieldLink RX2 25 RX2 "trial" "LDayCutPlans$Search;") ∈ wsAll := wsq ⟨List.mem_of_getElem? (i := 150) (by decide +kernel), by decide +kernel⟩
theorem a126 : (Cond.methodLink RX2 139 yX2_gainOfTrial) ∈ wsAll := wsq ⟨List.mem_of_getElem? (i := 454) (by decide +kernel), by decide +kernel⟩
theorem a127 : (Cond.instanceMethod yX2_gainOfTrial) ∈ wsAll := wsq ⟨List.mem_of_getElem? (i := 456) (by decide +kernel), by decide +kernel⟩
theorem a128 : (Cond.selects RX2 yX2_gainOfTrial yX2_gainOfTrial) ∈ wsAll := wsp (by decide +kernel)
theorem a129 : (Cond.code yX2_gainOfTrial cX2_gainOfTrial 3 (some .int)) ∈ wsAll := wsq ⟨List.mem_of_getElem? (i := 457) (by decide +kernel), by decide +kernel⟩
theorem a130 : (Cond.fieldLink RX3 50 RX3 "code" "I") ∈ wsAll := wsq ⟨List.mem_of_getElem? (i := 464) (by decide +kernel), by decide +kernel⟩
theorem a131 : (Cond.fieldLink RX3 53 RX3 "isSearched" "Z") ∈ wsAll := wsq ⟨List.mem_of_getElem? (i := 479) (by decide +kernel), by decide +kernel⟩
theorem a132 : (Cond.fieldLink RX3 57 RX3 "isBest" "Z") ∈ wsAll := wsq ⟨List.mem_of_getElem? (i := 480) (by decide +kernel), by decide +kernel⟩
theorem a133 : (Cond.methodLink RX3 60 yX3_isIn) ∈ wsAll := wsq ⟨List.mem_of_getElem? (i := 554) (by decide +kernel), by decide +kernel⟩
theorem a134 : (Cond.static yX3_isIn) ∈ wsAll := wsq ⟨List.mem_of_getElem? (i := 555) (by decide +kernel), by decide +kernel⟩
theorem a135 : (Cond.initialized RX3) ∈ wsAll := wsq ⟨List.mem_of_getElem? (i := 4) (by decide +kernel), by decide +kernel⟩
theorem a136 : (Cond.code yX3_isIn cX3_isIn 3 (some .boolean)) ∈ wsAll := wsq ⟨List.mem_of_getElem? (i := 556) (by decide +kernel), by decide +kernel⟩
theorem a137 : (Cond.constant RX3 64 (nI 100000)) ∈ wsAll := wsq ⟨List.mem_of_getElem? (i := 557) (by decide +kernel), by decide +kernel⟩
theorem a138 : (Cond.fieldLink RX3 7 RX3 "logs" "[I") ∈ wsAll := wsq ⟨List.mem_of_getElem? (i := 465) (by decide +kernel), by decide +kernel⟩
theorem a139 : (Cond.fieldLink RX3 13 RX3 "cents" "[I") ∈ wsAll := wsq ⟨List.mem_of_getElem? (i := 466) (by decide +kernel), by decide +kernel⟩
theorem a140 : (Cond.methodLink RX3 65 yX3_forget) ∈ wsAll := wsq ⟨List.mem_of_getElem? (i := 558) (by decide +kernel), by decide +kernel⟩
theorem a141 : (Cond.instanceMethod yX3_forget) ∈ wsAll := wsq ⟨List.mem_of_getElem? (i := 560) (by decide +kernel), by decide +kernel⟩
theorem a142 : (Cond.selects RX3 yX3_forget yX3_forget) ∈ wsAll := wsp (by decide +kernel)
theorem a143 : (Cond.code yX3_forget cX3_forget 1 none) ∈ wsAll := wsq ⟨List.mem_of_getElem? (i := 561) (by decide +kernel), by decide +kernel⟩
theorem a144 : (Cond.fieldLink RX3 25 RX3 "least" "[I") ∈ wsAll := wsq ⟨List.mem_of_getElem? (i := 471) (by decide +kernel), by decide +kernel⟩
theorem a145 : (Cond.fieldLink RX3 28 RX3 "most" "[I") ∈ wsAll := wsq ⟨List.mem_of_getElem? (i := 472) (by decide +kernel), by decide +kernel⟩
theorem a146 : (Cond.fieldLink RX3 31 RX3 "worth" "[I") ∈ wsAll := wsq ⟨List.mem_of_getElem? (i := 473) (by decide +kernel), by decide +kernel⟩
theorem a147 : (Cond.fieldLink RX3 37 RX3 "hours" "I") ∈ wsAll := wsq ⟨List.mem_of_getElem? (i := 475) (by decide +kernel), by decide +kernel⟩
theorem a148 : (Cond.fieldLink RX3 75 RX3 "change" "I") ∈ wsAll := wsq ⟨List.mem_of_getElem? (i := 476) (by decide +kernel), by decide +kernel⟩
theorem a149 : (Cond.fieldLink RX3 68 RX3 "patterns" "I") ∈ wsAll := wsq ⟨List.mem_of_getElem? (i := 467) (by decide +kernel), by decide +kernel⟩
theorem a150 : (Cond.methodLink RX3 71 yX3_isPattern) ∈ wsAll := wsq ⟨List.mem_of_getElem? (i := 570) (by decide +kernel), by decide +kernel⟩
theorem a151 : (Cond.instanceMethod yX3_isPattern) ∈ wsAll := wsq ⟨List.mem_of_getElem? (i := 572) (by decide +kernel), by decide +kernel⟩
theorem a152 : (Cond.selects RX3 yX3_isPattern yX3_isPattern) ∈ wsAll := wsp (by decide +kernel)
theorem a153 : (Cond.code yX3_isPattern cX3_isPattern 2 (some .boolean)) ∈ wsAll := wsq ⟨List.mem_of_getElem? (i := 573) (by decide +kernel), by decide +kernel⟩
theorem a154 : (Cond.fieldLink RX3 22 RX3 "gives" "[I") ∈ wsAll := wsq ⟨List.mem_of_getElem? (i := 470) (by decide +kernel), by decide +kernel⟩
theorem a155 : (Cond.fieldLink RX3 16 RX3 "classOf" "[I") ∈ wsAll := wsq ⟨List.mem_of_getElem? (i := 468) (by decide +kernel), by decide +kernel⟩
theorem a156 : (Cond.fieldLink RX3 19 RX3 "minutes" "[I") ∈ wsAll := wsq ⟨List.mem_of_getElem? (i := 469) (by decide +kernel), by decide +kernel⟩
def vxD : List Cond := [.declares ⟨"java/lang/RuntimeException", "<init>", "(Ljava/lang/String;)V"⟩, .declares ⟨"java/lang/Exception", "<init>", "(Ljava/lang/String;)V"⟩, .declares ⟨"java/lang/Throwable", "<init>", "(Ljava/lang/String;)V"⟩]
theorem vxDT : ∀ w ∈ vxD, w.onTables = true := by decide +kernel
theorem vxt_147 : ∀ w ∈ (vx_atS RX2 147 "java/lang/IndexOutOfBoundsException" ["java/lang/RuntimeException", "java/lang/Exception"]).filter goodWord, w ∈ lw_tbl := by decide +kernel
theorem vxg_147 (w : Cond) (h : w ∈ (vx_atS RX2 147 "java/lang/IndexOutOfBoundsException" ["java/lang/RuntimeException", "java/lang/Exception"]).filter goodWord) : w ∈ wsAll := List.mem_filter.mpr ⟨vxt_147 w h, (List.mem_filter.mp h).2⟩
theorem vxb_147 : ∀ w ∈ (vx_atS RX2 147 "java/lang/IndexOutOfBoundsException" ["java/lang/RuntimeException", "java/lang/Exception"]).filter (fun w => !goodWord w), w ∈ Cond.castable "java/lang/IndexOutOfBoundsException" "java/lang/IndexOutOfBoundsException" :: vxD := by decide +kernel
theorem vxt_152 : ∀ w ∈ (vx_atS RX2 152 "java/lang/IllegalArgumentException" ["java/lang/RuntimeException", "java/lang/Exception"]).filter goodWord, w ∈ lw_tbl := by decide +kernel
theorem vxg_152 (w : Cond) (h : w ∈ (vx_atS RX2 152 "java/lang/IllegalArgumentException" ["java/lang/RuntimeException", "java/lang/Exception"]).filter goodWord) : w ∈ wsAll := List.mem_filter.mpr ⟨vxt_152 w h, (List.mem_filter.mp h).2⟩
theorem vxb_152 : ∀ w ∈ (vx_atS RX2 152 "java/lang/IllegalArgumentException" ["java/lang/RuntimeException", "java/lang/Exception"]).filter (fun w => !goodWord w), w ∈ Cond.castable "java/lang/IllegalArgumentException" "java/lang/IllegalArgumentException" :: vxD := by decide +kernel
theorem vxt_55 : ∀ w ∈ (vx_atS RX2 55 "java/lang/IllegalStateException" ["java/lang/RuntimeException", "java/lang/Exception"]).filter goodWord, w ∈ lw_tbl := by decide +kernel
theorem vxg_55 (w : Cond) (h : w ∈ (vx_atS RX2 55 "java/lang/IllegalStateException" ["java/lang/RuntimeException", "java/lang/Exception"]).filter goodWord) : w ∈ wsAll := List.mem_filter.mpr ⟨vxt_55 w h, (List.mem_filter.mp h).2⟩
theorem vxb_55 : ∀ w ∈ (vx_atS RX2 55 "java/lang/IllegalStateException" ["java/lang/RuntimeException", "java/lang/Exception"]).filter (fun w => !goodWord w), w ∈ Cond.castable "java/lang/IllegalStateException" "java/lang/IllegalStateException" :: vxD := by decide +kernel
