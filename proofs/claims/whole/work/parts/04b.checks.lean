/-! the tables are what the Statement says -/
theorem ck_ar : ∀ (t : Nat) (ty : FieldType), iv_ar t = some ty → 100 ≤ t := by
  intro t ty h
  unfold iv_ar at h
  split at h <;> first | omega | cases h
theorem ck_150 : ∀ c, iv_ac 150 ≠ some c := by
  intro c h
  cases h
theorem ck_scr : iv_ar 150 = some .int := rfl
set_option maxRecDepth 20000 in
theorem ckc_0 : iv_ckc 0 ("RuleGraph", cl_0, 6) := ⟨by decide, fun w hw => by
    rw [show u_ws "RuleGraph" cl_0 6 = [Cond.laysFinal "RuleGraph" "RuleGraph" "shape" "LRuleGraph$Shape;", Cond.laysFinal "RuleGraph" "RuleGraph" "rulebook" "LRuleGraph$Rulebook;", Cond.laysFinal "RuleGraph" "RuleGraph" "groups" "LRuleGraph$Groups;", Cond.laysFinal "RuleGraph" "RuleGraph" "store" "LRuleGraph$Store;", Cond.laysFinal "RuleGraph" "RuleGraph" "report" "LRuleGraph$Report;", Cond.laysFinal "RuleGraph" "RuleGraph" "checker" "LRuleGraph$Checker;"] by decide +kernel] at hw
    simp only [List.mem_cons, List.not_mem_nil, or_false] at hw
    rcases hw with rfl | rfl | rfl | rfl | rfl | rfl
    · exact ⟨List.mem_of_getElem? (i := 282) (by decide +kernel), rfl⟩
    · exact ⟨List.mem_of_getElem? (i := 284) (by decide +kernel), rfl⟩
    · exact ⟨List.mem_of_getElem? (i := 286) (by decide +kernel), rfl⟩
    · exact ⟨List.mem_of_getElem? (i := 288) (by decide +kernel), rfl⟩
    · exact ⟨List.mem_of_getElem? (i := 290) (by decide +kernel), rfl⟩
    · exact ⟨List.mem_of_getElem? (i := 292) (by decide +kernel), rfl⟩,
    by decide +kernel, by decide +kernel, List.mem_of_getElem? (i := 43) (by decide +kernel), List.mem_of_getElem? (i := 30) (by decide +kernel)⟩
set_option maxRecDepth 20000 in
theorem ckc_1 : iv_ckc 1 ("RuleGraphModel", cl_1, 48) := ⟨by decide, fun w hw => by
    rw [show u_ws "RuleGraphModel" cl_1 48 = [Cond.lays "RuleGraphModel" "RuleGraphModel" "types" "I", Cond.lays "RuleGraphModel" "RuleGraphModel" "parent" "[I", Cond.lays "RuleGraphModel" "RuleGraphModel" "fields" "I", Cond.lays "RuleGraphModel" "RuleGraphModel" "owner" "[I", Cond.lays "RuleGraphModel" "RuleGraphModel" "sort" "[I", Cond.lays "RuleGraphModel" "RuleGraphModel" "cascades" "[Z", Cond.lays "RuleGraphModel" "RuleGraphModel" "turns" "[I", Cond.lays "RuleGraphModel" "RuleGraphModel" "rules" "I", Cond.lays "RuleGraphModel" "RuleGraphModel" "ruleField" "[I", Cond.lays "RuleGraphModel" "RuleGraphModel" "ruleElement" "[Z", Cond.lays "RuleGraphModel" "RuleGraphModel" "ruleKind" "[I", Cond.lays "RuleGraphModel" "RuleGraphModel" "ruleA" "[I", Cond.lays "RuleGraphModel" "RuleGraphModel" "ruleB" "[I", Cond.lays "RuleGraphModel" "RuleGraphModel" "ruleGroups" "[I", Cond.lays "RuleGraphModel" "RuleGraphModel" "parts" "[I", Cond.lays "RuleGraphModel" "RuleGraphModel" "partKind" "[I", Cond.lays "RuleGraphModel" "RuleGraphModel" "partA" "[I", Cond.lays "RuleGraphModel" "RuleGraphModel" "partB" "[I", Cond.lays "RuleGraphModel" "RuleGraphModel" "alone" "[Z", Cond.lays "RuleGraphModel" "RuleGraphModel" "extended" "[I", Cond.lays "RuleGraphModel" "RuleGraphModel" "members" "[I", Cond.lays "RuleGraphModel" "RuleGraphModel" "member" "[I", Cond.lays "RuleGraphModel" "RuleGraphModel" "entries" "[I", Cond.lays "RuleGraphModel" "RuleGraphModel" "entry" "[I", Cond.lays "RuleGraphModel" "RuleGraphModel" "objects" "I", Cond.lays "RuleGraphModel" "RuleGraphModel" "type" "[I", Cond.lays "RuleGraphModel" "RuleGraphModel" "value" "[I", Cond.lays "RuleGraphModel" "RuleGraphModel" "element" "[I", Cond.lays "RuleGraphModel" "RuleGraphModel" "depth" "I", Cond.lays "RuleGraphModel" "RuleGraphModel" "who" "[I", Cond.lays "RuleGraphModel" "RuleGraphModel" "group" "[I", Cond.lays "RuleGraphModel" "RuleGraphModel" "stage" "[I", Cond.lays "RuleGraphModel" "RuleGraphModel" "stageGroup" "[I", Cond.lays "RuleGraphModel" "RuleGraphModel" "onward" "[Z", Cond.lays "RuleGraphModel" "RuleGraphModel" "nextField" "[I", Cond.lays "RuleGraphModel" "RuleGraphModel" "nextPlace" "[I", Cond.lays "RuleGraphModel" "RuleGraphModel" "before" "[I", Cond.lays "RuleGraphModel" "RuleGraphModel" "trailField" "[I", Cond.lays "RuleGraphModel" "RuleGraphModel" "trailPlace" "[I", Cond.lays "RuleGraphModel" "RuleGraphModel" "visits" "I", Cond.lays "RuleGraphModel" "RuleGraphModel" "row" "[I", Cond.lays "RuleGraphModel" "RuleGraphModel" "count" "I", Cond.lays "RuleGraphModel" "RuleGraphModel" "told" "[I", Cond.lays "RuleGraphModel" "RuleGraphModel" "steps" "[I", Cond.lays "RuleGraphModel" "RuleGraphModel" "wayField" "[I", Cond.lays "RuleGraphModel" "RuleGraphModel" "wayPlace" "[I", Cond.lays "RuleGraphModel" "RuleGraphModel" "text" "[I", Cond.lays "RuleGraphModel" "RuleGraphModel" "size" "I"] by decide +kernel] at hw
    simp only [List.mem_cons, List.not_mem_nil, or_false] at hw
    rcases hw with rfl | rfl | rfl | rfl | rfl | rfl | rfl | rfl | rfl | rfl | rfl | rfl | rfl | rfl | rfl | rfl | rfl | rfl | rfl | rfl | rfl | rfl | rfl | rfl | rfl | rfl | rfl | rfl | rfl | rfl | rfl | rfl | rfl | rfl | rfl | rfl | rfl | rfl | rfl | rfl | rfl | rfl | rfl | rfl | rfl | rfl | rfl | rfl
    · exact ⟨List.mem_of_getElem? (i := 647) (by decide +kernel), rfl⟩
    · exact ⟨List.mem_of_getElem? (i := 649) (by decide +kernel), rfl⟩
    · exact ⟨List.mem_of_getElem? (i := 651) (by decide +kernel), rfl⟩
    · exact ⟨List.mem_of_getElem? (i := 653) (by decide +kernel), rfl⟩
    · exact ⟨List.mem_of_getElem? (i := 655) (by decide +kernel), rfl⟩
    · exact ⟨List.mem_of_getElem? (i := 657) (by decide +kernel), rfl⟩
    · exact ⟨List.mem_of_getElem? (i := 659) (by decide +kernel), rfl⟩
    · exact ⟨List.mem_of_getElem? (i := 661) (by decide +kernel), rfl⟩
    · exact ⟨List.mem_of_getElem? (i := 663) (by decide +kernel), rfl⟩
    · exact ⟨List.mem_of_getElem? (i := 665) (by decide +kernel), rfl⟩
    · exact ⟨List.mem_of_getElem? (i := 667) (by decide +kernel), rfl⟩
    · exact ⟨List.mem_of_getElem? (i := 669) (by decide +kernel), rfl⟩
    · exact ⟨List.mem_of_getElem? (i := 671) (by decide +kernel), rfl⟩
    · exact ⟨List.mem_of_getElem? (i := 673) (by decide +kernel), rfl⟩
    · exact ⟨List.mem_of_getElem? (i := 675) (by decide +kernel), rfl⟩
    · exact ⟨List.mem_of_getElem? (i := 677) (by decide +kernel), rfl⟩
    · exact ⟨List.mem_of_getElem? (i := 679) (by decide +kernel), rfl⟩
    · exact ⟨List.mem_of_getElem? (i := 681) (by decide +kernel), rfl⟩
    · exact ⟨List.mem_of_getElem? (i := 683) (by decide +kernel), rfl⟩
    · exact ⟨List.mem_of_getElem? (i := 685) (by decide +kernel), rfl⟩
    · exact ⟨List.mem_of_getElem? (i := 687) (by decide +kernel), rfl⟩
    · exact ⟨List.mem_of_getElem? (i := 689) (by decide +kernel), rfl⟩
    · exact ⟨List.mem_of_getElem? (i := 691) (by decide +kernel), rfl⟩
    · exact ⟨List.mem_of_getElem? (i := 693) (by decide +kernel), rfl⟩
    · exact ⟨List.mem_of_getElem? (i := 695) (by decide +kernel), rfl⟩
    · exact ⟨List.mem_of_getElem? (i := 697) (by decide +kernel), rfl⟩
    · exact ⟨List.mem_of_getElem? (i := 699) (by decide +kernel), rfl⟩
    · exact ⟨List.mem_of_getElem? (i := 701) (by decide +kernel), rfl⟩
    · exact ⟨List.mem_of_getElem? (i := 703) (by decide +kernel), rfl⟩
    · exact ⟨List.mem_of_getElem? (i := 705) (by decide +kernel), rfl⟩
    · exact ⟨List.mem_of_getElem? (i := 707) (by decide +kernel), rfl⟩
    · exact ⟨List.mem_of_getElem? (i := 709) (by decide +kernel), rfl⟩
    · exact ⟨List.mem_of_getElem? (i := 711) (by decide +kernel), rfl⟩
    · exact ⟨List.mem_of_getElem? (i := 713) (by decide +kernel), rfl⟩
    · exact ⟨List.mem_of_getElem? (i := 715) (by decide +kernel), rfl⟩
    · exact ⟨List.mem_of_getElem? (i := 717) (by decide +kernel), rfl⟩
    · exact ⟨List.mem_of_getElem? (i := 719) (by decide +kernel), rfl⟩
    · exact ⟨List.mem_of_getElem? (i := 721) (by decide +kernel), rfl⟩
    · exact ⟨List.mem_of_getElem? (i := 723) (by decide +kernel), rfl⟩
    · exact ⟨List.mem_of_getElem? (i := 725) (by decide +kernel), rfl⟩
    · exact ⟨List.mem_of_getElem? (i := 727) (by decide +kernel), rfl⟩
    · exact ⟨List.mem_of_getElem? (i := 729) (by decide +kernel), rfl⟩
    · exact ⟨List.mem_of_getElem? (i := 731) (by decide +kernel), rfl⟩
    · exact ⟨List.mem_of_getElem? (i := 733) (by decide +kernel), rfl⟩
    · exact ⟨List.mem_of_getElem? (i := 735) (by decide +kernel), rfl⟩
    · exact ⟨List.mem_of_getElem? (i := 737) (by decide +kernel), rfl⟩
    · exact ⟨List.mem_of_getElem? (i := 739) (by decide +kernel), rfl⟩
    · exact ⟨List.mem_of_getElem? (i := 741) (by decide +kernel), rfl⟩,
    by decide +kernel, by decide +kernel, List.mem_of_getElem? (i := 594) (by decide +kernel), List.mem_of_getElem? (i := 39) (by decide +kernel)⟩
set_option maxRecDepth 20000 in
theorem ckc_2 : iv_ckc 2 ("RuleGraph$Checker", cl_2, 9) := ⟨by decide, fun w hw => by
    rw [show u_ws "RuleGraph$Checker" cl_2 9 = [Cond.laysFinal "RuleGraph$Checker" "RuleGraph$Checker" "shape" "LRuleGraph$Shape;", Cond.laysFinal "RuleGraph$Checker" "RuleGraph$Checker" "rulebook" "LRuleGraph$Rulebook;", Cond.laysFinal "RuleGraph$Checker" "RuleGraph$Checker" "groups" "LRuleGraph$Groups;", Cond.laysFinal "RuleGraph$Checker" "RuleGraph$Checker" "store" "LRuleGraph$Store;", Cond.laysFinal "RuleGraph$Checker" "RuleGraph$Checker" "report" "LRuleGraph$Report;", Cond.laysFinal "RuleGraph$Checker" "RuleGraph$Checker" "openObjects" "[I", Cond.laysFinal "RuleGraph$Checker" "RuleGraph$Checker" "openGroups" "[I", Cond.lays "RuleGraph$Checker" "RuleGraph$Checker" "openCount" "I", Cond.lays "RuleGraph$Checker" "RuleGraph$Checker" "visitCount" "I"] by decide +kernel] at hw
    simp only [List.mem_cons, List.not_mem_nil, or_false] at hw
    rcases hw with rfl | rfl | rfl | rfl | rfl | rfl | rfl | rfl | rfl
    · exact ⟨List.mem_of_getElem? (i := 257) (by decide +kernel), rfl⟩
    · exact ⟨List.mem_of_getElem? (i := 259) (by decide +kernel), rfl⟩
    · exact ⟨List.mem_of_getElem? (i := 261) (by decide +kernel), rfl⟩
    · exact ⟨List.mem_of_getElem? (i := 263) (by decide +kernel), rfl⟩
    · exact ⟨List.mem_of_getElem? (i := 265) (by decide +kernel), rfl⟩
    · exact ⟨List.mem_of_getElem? (i := 267) (by decide +kernel), rfl⟩
    · exact ⟨List.mem_of_getElem? (i := 269) (by decide +kernel), rfl⟩
    · exact ⟨List.mem_of_getElem? (i := 271) (by decide +kernel), rfl⟩
    · exact ⟨List.mem_of_getElem? (i := 273) (by decide +kernel), rfl⟩,
    by decide +kernel, by decide +kernel, List.mem_of_getElem? (i := 242) (by decide +kernel), List.mem_of_getElem? (i := 38) (by decide +kernel)⟩
set_option maxRecDepth 20000 in
theorem ckc_3 : iv_ckc 3 ("RuleGraph$Composition", cl_3, 3) := ⟨by decide, fun w hw => by
    rw [show u_ws "RuleGraph$Composition" cl_3 3 = [Cond.laysFinal "RuleGraph$Composition" "RuleGraph$Composition" "parts" "[LRuleGraph$Demand;", Cond.lays "RuleGraph$Composition" "RuleGraph$Composition" "size" "I", Cond.lays "RuleGraph$Composition" "RuleGraph$Composition" "isSingle" "Z"] by decide +kernel] at hw
    simp only [List.mem_cons, List.not_mem_nil, or_false] at hw
    rcases hw with rfl | rfl | rfl
    · exact ⟨List.mem_of_getElem? (i := 141) (by decide +kernel), rfl⟩
    · exact ⟨List.mem_of_getElem? (i := 143) (by decide +kernel), rfl⟩
    · exact ⟨List.mem_of_getElem? (i := 145) (by decide +kernel), rfl⟩,
    by decide +kernel, by decide +kernel, List.mem_of_getElem? (i := 126) (by decide +kernel), List.mem_of_getElem? (i := 34) (by decide +kernel)⟩
set_option maxRecDepth 20000 in
theorem ckc_4 : iv_ckc 4 ("RuleGraph$Demand", cl_4, 3) := ⟨by decide, fun w hw => by
    rw [show u_ws "RuleGraph$Demand" cl_4 3 = [Cond.laysFinal "RuleGraph$Demand" "RuleGraph$Demand" "kind" "I", Cond.laysFinal "RuleGraph$Demand" "RuleGraph$Demand" "a" "I", Cond.laysFinal "RuleGraph$Demand" "RuleGraph$Demand" "b" "I"] by decide +kernel] at hw
    simp only [List.mem_cons, List.not_mem_nil, or_false] at hw
    rcases hw with rfl | rfl | rfl
    · exact ⟨List.mem_of_getElem? (i := 347) (by decide +kernel), rfl⟩
    · exact ⟨List.mem_of_getElem? (i := 349) (by decide +kernel), rfl⟩
    · exact ⟨List.mem_of_getElem? (i := 351) (by decide +kernel), rfl⟩,
    by decide +kernel, by decide +kernel, List.mem_of_getElem? (i := 339) (by decide +kernel), List.mem_of_getElem? (i := 40) (by decide +kernel)⟩
set_option maxRecDepth 20000 in
theorem ckc_5 : iv_ckc 5 ("RuleGraph$Groups", cl_5, 3) := ⟨by decide, fun w hw => by
    rw [show u_ws "RuleGraph$Groups" cl_5 3 = [Cond.laysFinal "RuleGraph$Groups" "RuleGraph$Groups" "closures" "[I", Cond.laysFinal "RuleGraph$Groups" "RuleGraph$Groups" "sequences" "[LRuleGraph$Row;", Cond.laysFinal "RuleGraph$Groups" "RuleGraph$Groups" "flat" "LRuleGraph$Row;"] by decide +kernel] at hw
    simp only [List.mem_cons, List.not_mem_nil, or_false] at hw
    rcases hw with rfl | rfl | rfl
    · exact ⟨List.mem_of_getElem? (i := 175) (by decide +kernel), rfl⟩
    · exact ⟨List.mem_of_getElem? (i := 177) (by decide +kernel), rfl⟩
    · exact ⟨List.mem_of_getElem? (i := 179) (by decide +kernel), rfl⟩,
    by decide +kernel, by decide +kernel, List.mem_of_getElem? (i := 162) (by decide +kernel), List.mem_of_getElem? (i := 35) (by decide +kernel)⟩
set_option maxRecDepth 20000 in
theorem ckc_6 : iv_ckc 6 ("RuleGraph$Report", cl_6, 6) := ⟨by decide, fun w hw => by
    rw [show u_ws "RuleGraph$Report" cl_6 6 = [Cond.lays "RuleGraph$Report" "RuleGraph$Report" "count" "I", Cond.laysFinal "RuleGraph$Report" "RuleGraph$Report" "facts" "[[I", Cond.laysFinal "RuleGraph$Report" "RuleGraph$Report" "ways" "[LRuleGraph$Row;", Cond.laysFinal "RuleGraph$Report" "RuleGraph$Report" "trail" "LRuleGraph$Row;", Cond.laysFinal "RuleGraph$Report" "RuleGraph$Report" "text" "[C", Cond.lays "RuleGraph$Report" "RuleGraph$Report" "textLength" "I"] by decide +kernel] at hw
    simp only [List.mem_cons, List.not_mem_nil, or_false] at hw
    rcases hw with rfl | rfl | rfl | rfl | rfl | rfl
    · exact ⟨List.mem_of_getElem? (i := 227) (by decide +kernel), rfl⟩
    · exact ⟨List.mem_of_getElem? (i := 229) (by decide +kernel), rfl⟩
    · exact ⟨List.mem_of_getElem? (i := 231) (by decide +kernel), rfl⟩
    · exact ⟨List.mem_of_getElem? (i := 233) (by decide +kernel), rfl⟩
    · exact ⟨List.mem_of_getElem? (i := 235) (by decide +kernel), rfl⟩
    · exact ⟨List.mem_of_getElem? (i := 237) (by decide +kernel), rfl⟩,
    by decide +kernel, by decide +kernel, List.mem_of_getElem? (i := 207) (by decide +kernel), List.mem_of_getElem? (i := 37) (by decide +kernel)⟩
set_option maxRecDepth 20000 in
theorem ckc_7 : iv_ckc 7 ("RuleGraph$Row", cl_7, 2) := ⟨by decide, fun w hw => by
    rw [show u_ws "RuleGraph$Row" cl_7 2 = [Cond.laysFinal "RuleGraph$Row" "RuleGraph$Row" "items" "[I", Cond.lays "RuleGraph$Row" "RuleGraph$Row" "size" "I"] by decide +kernel] at hw
    simp only [List.mem_cons, List.not_mem_nil, or_false] at hw
    rcases hw with rfl | rfl
    · exact ⟨List.mem_of_getElem? (i := 73) (by decide +kernel), rfl⟩
    · exact ⟨List.mem_of_getElem? (i := 75) (by decide +kernel), rfl⟩,
    by decide +kernel, by decide +kernel, List.mem_of_getElem? (i := 58) (by decide +kernel), List.mem_of_getElem? (i := 32) (by decide +kernel)⟩
set_option maxRecDepth 20000 in
theorem ckc_8 : iv_ckc 8 ("RuleGraph$Rule", cl_8, 4) := ⟨by decide, fun w hw => by
    rw [show u_ws "RuleGraph$Rule" cl_8 4 = [Cond.laysFinal "RuleGraph$Rule" "RuleGraph$Rule" "field" "I", Cond.laysFinal "RuleGraph$Rule" "RuleGraph$Rule" "element" "Z", Cond.laysFinal "RuleGraph$Rule" "RuleGraph$Rule" "demands" "LRuleGraph$Composition;", Cond.laysFinal "RuleGraph$Rule" "RuleGraph$Rule" "groups" "I"] by decide +kernel] at hw
    simp only [List.mem_cons, List.not_mem_nil, or_false] at hw
    rcases hw with rfl | rfl | rfl | rfl
    · exact ⟨List.mem_of_getElem? (i := 371) (by decide +kernel), rfl⟩
    · exact ⟨List.mem_of_getElem? (i := 373) (by decide +kernel), rfl⟩
    · exact ⟨List.mem_of_getElem? (i := 375) (by decide +kernel), rfl⟩
    · exact ⟨List.mem_of_getElem? (i := 377) (by decide +kernel), rfl⟩,
    by decide +kernel, by decide +kernel, List.mem_of_getElem? (i := 358) (by decide +kernel), List.mem_of_getElem? (i := 41) (by decide +kernel)⟩
set_option maxRecDepth 20000 in
theorem ckc_9 : iv_ckc 9 ("RuleGraph$Rulebook", cl_9, 3) := ⟨by decide, fun w hw => by
    rw [show u_ws "RuleGraph$Rulebook" cl_9 3 = [Cond.laysFinal "RuleGraph$Rulebook" "RuleGraph$Rulebook" "rules" "[LRuleGraph$Rule;", Cond.lays "RuleGraph$Rulebook" "RuleGraph$Rulebook" "ruleCount" "I", Cond.laysFinal "RuleGraph$Rulebook" "RuleGraph$Rulebook" "compositions" "[LRuleGraph$Composition;"] by decide +kernel] at hw
    simp only [List.mem_cons, List.not_mem_nil, or_false] at hw
    rcases hw with rfl | rfl | rfl
    · exact ⟨List.mem_of_getElem? (i := 154) (by decide +kernel), rfl⟩
    · exact ⟨List.mem_of_getElem? (i := 156) (by decide +kernel), rfl⟩
    · exact ⟨List.mem_of_getElem? (i := 158) (by decide +kernel), rfl⟩,
    by decide +kernel, by decide +kernel, List.mem_of_getElem? (i := 117) (by decide +kernel), List.mem_of_getElem? (i := 33) (by decide +kernel)⟩
set_option maxRecDepth 20000 in
theorem ckc_10 : iv_ckc 10 ("RuleGraph$Shape", cl_10, 8) := ⟨by decide, fun w hw => by
    rw [show u_ws "RuleGraph$Shape" cl_10 8 = [Cond.lays "RuleGraph$Shape" "RuleGraph$Shape" "classCount" "I", Cond.laysFinal "RuleGraph$Shape" "RuleGraph$Shape" "lines" "[I", Cond.laysFinal "RuleGraph$Shape" "RuleGraph$Shape" "orders" "[LRuleGraph$Row;", Cond.lays "RuleGraph$Shape" "RuleGraph$Shape" "fieldCount" "I", Cond.laysFinal "RuleGraph$Shape" "RuleGraph$Shape" "owners" "[I", Cond.laysFinal "RuleGraph$Shape" "RuleGraph$Shape" "kinds" "[I", Cond.laysFinal "RuleGraph$Shape" "RuleGraph$Shape" "cascaded" "[Z", Cond.laysFinal "RuleGraph$Shape" "RuleGraph$Shape" "conversions" "[[I"] by decide +kernel] at hw
    simp only [List.mem_cons, List.not_mem_nil, or_false] at hw
    rcases hw with rfl | rfl | rfl | rfl | rfl | rfl | rfl | rfl
    · exact ⟨List.mem_of_getElem? (i := 98) (by decide +kernel), rfl⟩
    · exact ⟨List.mem_of_getElem? (i := 100) (by decide +kernel), rfl⟩
    · exact ⟨List.mem_of_getElem? (i := 102) (by decide +kernel), rfl⟩
    · exact ⟨List.mem_of_getElem? (i := 104) (by decide +kernel), rfl⟩
    · exact ⟨List.mem_of_getElem? (i := 106) (by decide +kernel), rfl⟩
    · exact ⟨List.mem_of_getElem? (i := 108) (by decide +kernel), rfl⟩
    · exact ⟨List.mem_of_getElem? (i := 110) (by decide +kernel), rfl⟩
    · exact ⟨List.mem_of_getElem? (i := 112) (by decide +kernel), rfl⟩,
    by decide +kernel, by decide +kernel, List.mem_of_getElem? (i := 51) (by decide +kernel), List.mem_of_getElem? (i := 31) (by decide +kernel)⟩
set_option maxRecDepth 20000 in
theorem ckc_11 : iv_ckc 11 ("RuleGraph$Store", cl_11, 4) := ⟨by decide, fun w hw => by
    rw [show u_ws "RuleGraph$Store" cl_11 4 = [Cond.lays "RuleGraph$Store" "RuleGraph$Store" "objectCount" "I", Cond.laysFinal "RuleGraph$Store" "RuleGraph$Store" "classes" "[I", Cond.laysFinal "RuleGraph$Store" "RuleGraph$Store" "values" "[[I", Cond.laysFinal "RuleGraph$Store" "RuleGraph$Store" "elements" "[[I"] by decide +kernel] at hw
    simp only [List.mem_cons, List.not_mem_nil, or_false] at hw
    rcases hw with rfl | rfl | rfl | rfl
    · exact ⟨List.mem_of_getElem? (i := 197) (by decide +kernel), rfl⟩
    · exact ⟨List.mem_of_getElem? (i := 199) (by decide +kernel), rfl⟩
    · exact ⟨List.mem_of_getElem? (i := 201) (by decide +kernel), rfl⟩
    · exact ⟨List.mem_of_getElem? (i := 203) (by decide +kernel), rfl⟩,
    by decide +kernel, by decide +kernel, List.mem_of_getElem? (i := 183) (by decide +kernel), List.mem_of_getElem? (i := 36) (by decide +kernel)⟩
theorem ck_cl : ∀ (i : Nat) (q : vw_C), iv_cl[i]? = some q → iv_ckc i q := by
  intro i q h
  have hi : i < 12 := (List.getElem?_eq_some_iff.mp h).1
  match i, hi, h with
  | 0, _, h => cases h; exact ckc_0
  | 1, _, h => cases h; exact ckc_1
  | 2, _, h => cases h; exact ckc_2
  | 3, _, h => cases h; exact ckc_3
  | 4, _, h => cases h; exact ckc_4
  | 5, _, h => cases h; exact ckc_5
  | 6, _, h => cases h; exact ckc_6
  | 7, _, h => cases h; exact ckc_7
  | 8, _, h => cases h; exact ckc_8
  | 9, _, h => cases h; exact ckc_9
  | 10, _, h => cases h; exact ckc_10
  | 11, _, h => cases h; exact ckc_11
  | n + 12, hi, _ => omega
theorem ck_ac : ∀ (t i : Nat), iv_ac t = some i → ∃ q : vw_C, iv_cl[i]? = some q ∧ iv_ar t = some (.object q.1) := by
  intro t i h
  unfold iv_ac at h
  split at h <;> first | (cases h; exact ⟨_, rfl, rfl⟩) | cases h
theorem ck_df : ∀ (i : Nat) (fs : List Value) (q : vw_C), iv_df i = some fs → iv_cl[i]? = some q → fs.length = q.2.2 ∧ (∀ j, j < q.2.2 → defaultValue (iv_ft i j) = vp_V fs j) ∧ ∀ r : Nat → Nat, fs.map (iv_mv r) = fs := by
  intro i fs q h hq
  have hi : i < 12 := (List.getElem?_eq_some_iff.mp hq).1
  match i, hi, h, hq with
  | 0, _, h, hq => cases h; cases hq; exact ⟨rfl, by decide +kernel, fun _ => rfl⟩
  | 1, _, h, hq => cases h; cases hq; exact ⟨rfl, by decide +kernel, fun _ => rfl⟩
  | 2, _, h, hq => cases h; cases hq; exact ⟨rfl, by decide +kernel, fun _ => rfl⟩
  | 3, _, h, hq => cases h; cases hq; exact ⟨rfl, by decide +kernel, fun _ => rfl⟩
  | 4, _, h, hq => cases h; cases hq; exact ⟨rfl, by decide +kernel, fun _ => rfl⟩
  | 5, _, h, hq => cases h; cases hq; exact ⟨rfl, by decide +kernel, fun _ => rfl⟩
  | 6, _, h, hq => cases h; cases hq; exact ⟨rfl, by decide +kernel, fun _ => rfl⟩
  | 7, _, h, hq => cases h; cases hq; exact ⟨rfl, by decide +kernel, fun _ => rfl⟩
  | 8, _, h, hq => cases h; cases hq; exact ⟨rfl, by decide +kernel, fun _ => rfl⟩
  | 9, _, h, hq => cases h; cases hq; exact ⟨rfl, by decide +kernel, fun _ => rfl⟩
  | 10, _, h, hq => cases h; cases hq; exact ⟨rfl, by decide +kernel, fun _ => rfl⟩
  | 11, _, h, hq => cases h; cases hq; exact ⟨rfl, by decide +kernel, fun _ => rfl⟩
  | n + 12, hi, _, _ => omega
theorem ck_oi : Cond.instanceMethod Lib.objectInit ∈ lw_tbl ∧ Cond.code Lib.objectInit ⟨#[0xb1]⟩ 1 none ∈ lw_tbl := ⟨List.mem_of_getElem? (i := 48) (by decide +kernel), List.mem_of_getElem? (i := 49) (by decide +kernel)⟩
theorem ckm_2 : iv_ckm 2 1 none := ⟨List.mem_of_getElem? (i := 46) (by decide +kernel), List.mem_of_getElem? (i := 30) (by decide +kernel), ⟨by decide +kernel, by decide +kernel⟩, by decide +kernel, by decide⟩
theorem cki_2 : iv_cki 2 := ⟨List.mem_of_getElem? (i := 45) (by decide +kernel), rfl, fun mL rt code h => by cases h; rfl⟩
theorem ckm_3 : iv_ckm 3 2 (some .int) := ⟨List.mem_of_getElem? (i := 298) (by decide +kernel), List.mem_of_getElem? (i := 30) (by decide +kernel), ⟨by decide +kernel, by decide +kernel⟩, by decide +kernel, by decide⟩
theorem ckv_3 : iv_ckv 3 := ⟨List.mem_of_getElem? (i := 296) (by decide +kernel), List.mem_of_getElem? (i := 297) (by decide +kernel), _, rfl, rfl⟩
theorem ckm_4 : iv_ckm 4 4 (some .int) := ⟨List.mem_of_getElem? (i := 310) (by decide +kernel), List.mem_of_getElem? (i := 30) (by decide +kernel), ⟨by decide +kernel, by decide +kernel⟩, by decide +kernel, by decide⟩
theorem ckv_4 : iv_ckv 4 := ⟨List.mem_of_getElem? (i := 308) (by decide +kernel), List.mem_of_getElem? (i := 309) (by decide +kernel), _, rfl, rfl⟩
theorem ckm_5 : iv_ckm 5 8 (some .int) := ⟨List.mem_of_getElem? (i := 322) (by decide +kernel), List.mem_of_getElem? (i := 30) (by decide +kernel), ⟨by decide +kernel, by decide +kernel⟩, by decide +kernel, by decide⟩
theorem ckv_5 : iv_ckv 5 := ⟨List.mem_of_getElem? (i := 320) (by decide +kernel), List.mem_of_getElem? (i := 321) (by decide +kernel), _, rfl, rfl⟩
theorem ckm_6 : iv_ckm 6 5 (some .boolean) := ⟨List.mem_of_getElem? (i := 383) (by decide +kernel), List.mem_of_getElem? (i := 30) (by decide +kernel), ⟨by decide +kernel, by decide +kernel⟩, by decide +kernel, by decide⟩
theorem ckv_6 : iv_ckv 6 := ⟨List.mem_of_getElem? (i := 381) (by decide +kernel), List.mem_of_getElem? (i := 382) (by decide +kernel), _, rfl, rfl⟩
theorem ckm_7 : iv_ckm 7 3 (some .boolean) := ⟨List.mem_of_getElem? (i := 388) (by decide +kernel), List.mem_of_getElem? (i := 30) (by decide +kernel), ⟨by decide +kernel, by decide +kernel⟩, by decide +kernel, by decide⟩
theorem ckv_7 : iv_ckv 7 := ⟨List.mem_of_getElem? (i := 386) (by decide +kernel), List.mem_of_getElem? (i := 387) (by decide +kernel), _, rfl, rfl⟩
theorem ckm_8 : iv_ckm 8 3 (some .boolean) := ⟨List.mem_of_getElem? (i := 392) (by decide +kernel), List.mem_of_getElem? (i := 30) (by decide +kernel), ⟨by decide +kernel, by decide +kernel⟩, by decide +kernel, by decide⟩
theorem ckv_8 : iv_ckv 8 := ⟨List.mem_of_getElem? (i := 390) (by decide +kernel), List.mem_of_getElem? (i := 391) (by decide +kernel), _, rfl, rfl⟩
theorem ckm_9 : iv_ckm 9 3 (some .boolean) := ⟨List.mem_of_getElem? (i := 409) (by decide +kernel), List.mem_of_getElem? (i := 30) (by decide +kernel), ⟨by decide +kernel, by decide +kernel⟩, by decide +kernel, by decide⟩
theorem ckv_9 : iv_ckv 9 := ⟨List.mem_of_getElem? (i := 407) (by decide +kernel), List.mem_of_getElem? (i := 408) (by decide +kernel), _, rfl, rfl⟩
theorem ckm_10 : iv_ckm 10 3 (some .boolean) := ⟨List.mem_of_getElem? (i := 421) (by decide +kernel), List.mem_of_getElem? (i := 30) (by decide +kernel), ⟨by decide +kernel, by decide +kernel⟩, by decide +kernel, by decide⟩
theorem ckv_10 : iv_ckv 10 := ⟨List.mem_of_getElem? (i := 419) (by decide +kernel), List.mem_of_getElem? (i := 420) (by decide +kernel), _, rfl, rfl⟩
theorem ckm_11 : iv_ckm 11 2 (some .boolean) := ⟨List.mem_of_getElem? (i := 425) (by decide +kernel), List.mem_of_getElem? (i := 30) (by decide +kernel), ⟨by decide +kernel, by decide +kernel⟩, by decide +kernel, by decide⟩
theorem ckv_11 : iv_ckv 11 := ⟨List.mem_of_getElem? (i := 423) (by decide +kernel), List.mem_of_getElem? (i := 424) (by decide +kernel), _, rfl, rfl⟩
theorem ckm_12 : iv_ckm 12 4 (some .boolean) := ⟨List.mem_of_getElem? (i := 433) (by decide +kernel), List.mem_of_getElem? (i := 30) (by decide +kernel), ⟨by decide +kernel, by decide +kernel⟩, by decide +kernel, by decide⟩
theorem ckv_12 : iv_ckv 12 := ⟨List.mem_of_getElem? (i := 431) (by decide +kernel), List.mem_of_getElem? (i := 432) (by decide +kernel), _, rfl, rfl⟩
theorem ckm_13 : iv_ckm 13 2 (some .int) := ⟨List.mem_of_getElem? (i := 437) (by decide +kernel), List.mem_of_getElem? (i := 30) (by decide +kernel), ⟨by decide +kernel, by decide +kernel⟩, by decide +kernel, by decide⟩
theorem ckv_13 : iv_ckv 13 := ⟨List.mem_of_getElem? (i := 435) (by decide +kernel), List.mem_of_getElem? (i := 436) (by decide +kernel), _, rfl, rfl⟩
theorem ckm_14 : iv_ckm 14 4 (some .boolean) := ⟨List.mem_of_getElem? (i := 445) (by decide +kernel), List.mem_of_getElem? (i := 30) (by decide +kernel), ⟨by decide +kernel, by decide +kernel⟩, by decide +kernel, by decide⟩
theorem ckv_14 : iv_ckv 14 := ⟨List.mem_of_getElem? (i := 443) (by decide +kernel), List.mem_of_getElem? (i := 444) (by decide +kernel), _, rfl, rfl⟩
theorem ckm_15 : iv_ckm 15 4 (some .boolean) := ⟨List.mem_of_getElem? (i := 465) (by decide +kernel), List.mem_of_getElem? (i := 30) (by decide +kernel), ⟨by decide +kernel, by decide +kernel⟩, by decide +kernel, by decide⟩
theorem ckv_15 : iv_ckv 15 := ⟨List.mem_of_getElem? (i := 463) (by decide +kernel), List.mem_of_getElem? (i := 464) (by decide +kernel), _, rfl, rfl⟩
theorem ckm_16 : iv_ckm 16 4 (some .boolean) := ⟨List.mem_of_getElem? (i := 473) (by decide +kernel), List.mem_of_getElem? (i := 30) (by decide +kernel), ⟨by decide +kernel, by decide +kernel⟩, by decide +kernel, by decide⟩
theorem ckv_16 : iv_ckv 16 := ⟨List.mem_of_getElem? (i := 471) (by decide +kernel), List.mem_of_getElem? (i := 472) (by decide +kernel), _, rfl, rfl⟩
theorem ckm_17 : iv_ckm 17 6 (some .int) := ⟨List.mem_of_getElem? (i := 477) (by decide +kernel), List.mem_of_getElem? (i := 30) (by decide +kernel), ⟨by decide +kernel, by decide +kernel⟩, by decide +kernel, by decide⟩
theorem ckv_17 : iv_ckv 17 := ⟨List.mem_of_getElem? (i := 475) (by decide +kernel), List.mem_of_getElem? (i := 476) (by decide +kernel), _, rfl, rfl⟩
theorem ckm_18 : iv_ckm 18 4 (some .int) := ⟨List.mem_of_getElem? (i := 559) (by decide +kernel), List.mem_of_getElem? (i := 30) (by decide +kernel), ⟨by decide +kernel, by decide +kernel⟩, by decide +kernel, by decide⟩
theorem ckv_18 : iv_ckv 18 := ⟨List.mem_of_getElem? (i := 557) (by decide +kernel), List.mem_of_getElem? (i := 558) (by decide +kernel), _, rfl, rfl⟩
theorem ckm_19 : iv_ckm 19 1 (some .int) := ⟨List.mem_of_getElem? (i := 564) (by decide +kernel), List.mem_of_getElem? (i := 30) (by decide +kernel), ⟨by decide +kernel, by decide +kernel⟩, by decide +kernel, by decide⟩
theorem ckv_19 : iv_ckv 19 := ⟨List.mem_of_getElem? (i := 562) (by decide +kernel), List.mem_of_getElem? (i := 563) (by decide +kernel), _, rfl, rfl⟩
theorem ckm_20 : iv_ckm 20 1 (some .int) := ⟨List.mem_of_getElem? (i := 568) (by decide +kernel), List.mem_of_getElem? (i := 30) (by decide +kernel), ⟨by decide +kernel, by decide +kernel⟩, by decide +kernel, by decide⟩
theorem ckv_20 : iv_ckv 20 := ⟨List.mem_of_getElem? (i := 566) (by decide +kernel), List.mem_of_getElem? (i := 567) (by decide +kernel), _, rfl, rfl⟩
theorem ckm_21 : iv_ckm 21 3 (some .int) := ⟨List.mem_of_getElem? (i := 572) (by decide +kernel), List.mem_of_getElem? (i := 30) (by decide +kernel), ⟨by decide +kernel, by decide +kernel⟩, by decide +kernel, by decide⟩
theorem ckv_21 : iv_ckv 21 := ⟨List.mem_of_getElem? (i := 570) (by decide +kernel), List.mem_of_getElem? (i := 571) (by decide +kernel), _, rfl, rfl⟩
theorem ckm_22 : iv_ckm 22 3 (some .int) := ⟨List.mem_of_getElem? (i := 580) (by decide +kernel), List.mem_of_getElem? (i := 30) (by decide +kernel), ⟨by decide +kernel, by decide +kernel⟩, by decide +kernel, by decide⟩
theorem ckv_22 : iv_ckv 22 := ⟨List.mem_of_getElem? (i := 578) (by decide +kernel), List.mem_of_getElem? (i := 579) (by decide +kernel), _, rfl, rfl⟩
theorem ckm_23 : iv_ckm 23 3 (some .boolean) := ⟨List.mem_of_getElem? (i := 449) (by decide +kernel), List.mem_of_getElem? (i := 30) (by decide +kernel), ⟨by decide +kernel, by decide +kernel⟩, by decide +kernel, by decide⟩
theorem ckv_23 : iv_ckv 23 := ⟨List.mem_of_getElem? (i := 448) (by decide +kernel), List.mem_of_getElem? (i := 0) (by decide +kernel), _, rfl, rfl⟩
theorem ckm_24 : iv_ckm 24 1 none := ⟨List.mem_of_getElem? (i := 597) (by decide +kernel), List.mem_of_getElem? (i := 39) (by decide +kernel), ⟨by decide +kernel, by decide +kernel⟩, by decide +kernel, by decide⟩
theorem cki_24 : iv_cki 24 := ⟨List.mem_of_getElem? (i := 596) (by decide +kernel), rfl, fun mL rt code h => by cases h; rfl⟩
theorem ckm_25 : iv_ckm 25 3 (some .boolean) := ⟨List.mem_of_getElem? (i := 750) (by decide +kernel), List.mem_of_getElem? (i := 39) (by decide +kernel), ⟨by decide +kernel, by decide +kernel⟩, by decide +kernel, by decide⟩
theorem ckm_26 : iv_ckm 26 2 (some .int) := ⟨List.mem_of_getElem? (i := 747) (by decide +kernel), List.mem_of_getElem? (i := 39) (by decide +kernel), ⟨by decide +kernel, by decide +kernel⟩, by decide +kernel, by decide⟩
theorem ckv_26 : iv_ckv 26 := ⟨List.mem_of_getElem? (i := 745) (by decide +kernel), List.mem_of_getElem? (i := 746) (by decide +kernel), _, rfl, rfl⟩
theorem ckm_27 : iv_ckm 27 3 (some .int) := ⟨List.mem_of_getElem? (i := 754) (by decide +kernel), List.mem_of_getElem? (i := 39) (by decide +kernel), ⟨by decide +kernel, by decide +kernel⟩, by decide +kernel, by decide⟩
theorem ckv_27 : iv_ckv 27 := ⟨List.mem_of_getElem? (i := 752) (by decide +kernel), List.mem_of_getElem? (i := 753) (by decide +kernel), _, rfl, rfl⟩
theorem ckm_28 : iv_ckm 28 7 (some .int) := ⟨List.mem_of_getElem? (i := 758) (by decide +kernel), List.mem_of_getElem? (i := 39) (by decide +kernel), ⟨by decide +kernel, by decide +kernel⟩, by decide +kernel, by decide⟩
theorem ckv_28 : iv_ckv 28 := ⟨List.mem_of_getElem? (i := 756) (by decide +kernel), List.mem_of_getElem? (i := 757) (by decide +kernel), _, rfl, rfl⟩
theorem ckm_29 : iv_ckm 29 6 (some .boolean) := ⟨List.mem_of_getElem? (i := 762) (by decide +kernel), List.mem_of_getElem? (i := 39) (by decide +kernel), ⟨by decide +kernel, by decide +kernel⟩, by decide +kernel, by decide⟩
theorem ckv_29 : iv_ckv 29 := ⟨List.mem_of_getElem? (i := 760) (by decide +kernel), List.mem_of_getElem? (i := 761) (by decide +kernel), _, rfl, rfl⟩
theorem ckm_30 : iv_ckm 30 3 (some .boolean) := ⟨List.mem_of_getElem? (i := 766) (by decide +kernel), List.mem_of_getElem? (i := 39) (by decide +kernel), ⟨by decide +kernel, by decide +kernel⟩, by decide +kernel, by decide⟩
theorem ckv_30 : iv_ckv 30 := ⟨List.mem_of_getElem? (i := 764) (by decide +kernel), List.mem_of_getElem? (i := 765) (by decide +kernel), _, rfl, rfl⟩
theorem ckm_31 : iv_ckm 31 5 (some .int) := ⟨List.mem_of_getElem? (i := 774) (by decide +kernel), List.mem_of_getElem? (i := 39) (by decide +kernel), ⟨by decide +kernel, by decide +kernel⟩, by decide +kernel, by decide⟩
theorem ckv_31 : iv_ckv 31 := ⟨List.mem_of_getElem? (i := 773) (by decide +kernel), List.mem_of_getElem? (i := 13) (by decide +kernel), _, rfl, rfl⟩
theorem ckm_32 : iv_ckm 32 3 (some .boolean) := ⟨List.mem_of_getElem? (i := 770) (by decide +kernel), List.mem_of_getElem? (i := 39) (by decide +kernel), ⟨by decide +kernel, by decide +kernel⟩, by decide +kernel, by decide⟩
theorem ckv_32 : iv_ckv 32 := ⟨List.mem_of_getElem? (i := 768) (by decide +kernel), List.mem_of_getElem? (i := 769) (by decide +kernel), _, rfl, rfl⟩
theorem ckm_33 : iv_ckm 33 3 (some .boolean) := ⟨List.mem_of_getElem? (i := 778) (by decide +kernel), List.mem_of_getElem? (i := 39) (by decide +kernel), ⟨by decide +kernel, by decide +kernel⟩, by decide +kernel, by decide⟩
theorem ckv_33 : iv_ckv 33 := ⟨List.mem_of_getElem? (i := 776) (by decide +kernel), List.mem_of_getElem? (i := 777) (by decide +kernel), _, rfl, rfl⟩
theorem ckm_34 : iv_ckm 34 3 (some .boolean) := ⟨List.mem_of_getElem? (i := 782) (by decide +kernel), List.mem_of_getElem? (i := 39) (by decide +kernel), ⟨by decide +kernel, by decide +kernel⟩, by decide +kernel, by decide⟩
theorem ckv_34 : iv_ckv 34 := ⟨List.mem_of_getElem? (i := 780) (by decide +kernel), List.mem_of_getElem? (i := 781) (by decide +kernel), _, rfl, rfl⟩
theorem ckm_35 : iv_ckm 35 2 (some .boolean) := ⟨List.mem_of_getElem? (i := 786) (by decide +kernel), List.mem_of_getElem? (i := 39) (by decide +kernel), ⟨by decide +kernel, by decide +kernel⟩, by decide +kernel, by decide⟩
theorem ckv_35 : iv_ckv 35 := ⟨List.mem_of_getElem? (i := 784) (by decide +kernel), List.mem_of_getElem? (i := 785) (by decide +kernel), _, rfl, rfl⟩
theorem ckm_36 : iv_ckm 36 4 (some .boolean) := ⟨List.mem_of_getElem? (i := 790) (by decide +kernel), List.mem_of_getElem? (i := 39) (by decide +kernel), ⟨by decide +kernel, by decide +kernel⟩, by decide +kernel, by decide⟩
theorem ckv_36 : iv_ckv 36 := ⟨List.mem_of_getElem? (i := 788) (by decide +kernel), List.mem_of_getElem? (i := 789) (by decide +kernel), _, rfl, rfl⟩
theorem ckm_37 : iv_ckm 37 2 (some .int) := ⟨List.mem_of_getElem? (i := 794) (by decide +kernel), List.mem_of_getElem? (i := 39) (by decide +kernel), ⟨by decide +kernel, by decide +kernel⟩, by decide +kernel, by decide⟩
theorem ckv_37 : iv_ckv 37 := ⟨List.mem_of_getElem? (i := 792) (by decide +kernel), List.mem_of_getElem? (i := 793) (by decide +kernel), _, rfl, rfl⟩
theorem ckm_38 : iv_ckm 38 5 (some .boolean) := ⟨List.mem_of_getElem? (i := 802) (by decide +kernel), List.mem_of_getElem? (i := 39) (by decide +kernel), ⟨by decide +kernel, by decide +kernel⟩, by decide +kernel, by decide⟩
theorem ckv_38 : iv_ckv 38 := ⟨List.mem_of_getElem? (i := 801) (by decide +kernel), List.mem_of_getElem? (i := 14) (by decide +kernel), _, rfl, rfl⟩
theorem ckm_39 : iv_ckm 39 4 (some .boolean) := ⟨List.mem_of_getElem? (i := 798) (by decide +kernel), List.mem_of_getElem? (i := 39) (by decide +kernel), ⟨by decide +kernel, by decide +kernel⟩, by decide +kernel, by decide⟩
theorem ckv_39 : iv_ckv 39 := ⟨List.mem_of_getElem? (i := 796) (by decide +kernel), List.mem_of_getElem? (i := 797) (by decide +kernel), _, rfl, rfl⟩
theorem ckm_40 : iv_ckm 40 6 (some .boolean) := ⟨List.mem_of_getElem? (i := 806) (by decide +kernel), List.mem_of_getElem? (i := 39) (by decide +kernel), ⟨by decide +kernel, by decide +kernel⟩, by decide +kernel, by decide⟩
theorem ckv_40 : iv_ckv 40 := ⟨List.mem_of_getElem? (i := 804) (by decide +kernel), List.mem_of_getElem? (i := 805) (by decide +kernel), _, rfl, rfl⟩
theorem ckm_41 : iv_ckm 41 4 (some .boolean) := ⟨List.mem_of_getElem? (i := 810) (by decide +kernel), List.mem_of_getElem? (i := 39) (by decide +kernel), ⟨by decide +kernel, by decide +kernel⟩, by decide +kernel, by decide⟩
theorem ckv_41 : iv_ckv 41 := ⟨List.mem_of_getElem? (i := 808) (by decide +kernel), List.mem_of_getElem? (i := 809) (by decide +kernel), _, rfl, rfl⟩
theorem ckm_42 : iv_ckm 42 3 (some .boolean) := ⟨List.mem_of_getElem? (i := 858) (by decide +kernel), List.mem_of_getElem? (i := 39) (by decide +kernel), ⟨by decide +kernel, by decide +kernel⟩, by decide +kernel, by decide⟩
theorem ckm_43 : iv_ckm 43 5 (some .boolean) := ⟨List.mem_of_getElem? (i := 855) (by decide +kernel), List.mem_of_getElem? (i := 39) (by decide +kernel), ⟨by decide +kernel, by decide +kernel⟩, by decide +kernel, by decide⟩
theorem ckv_43 : iv_ckv 43 := ⟨List.mem_of_getElem? (i := 854) (by decide +kernel), List.mem_of_getElem? (i := 24) (by decide +kernel), _, rfl, rfl⟩
theorem ckm_44 : iv_ckm 44 5 (some .boolean) := ⟨List.mem_of_getElem? (i := 865) (by decide +kernel), List.mem_of_getElem? (i := 39) (by decide +kernel), ⟨by decide +kernel, by decide +kernel⟩, by decide +kernel, by decide⟩
theorem ckm_45 : iv_ckm 45 8 (some .boolean) := ⟨List.mem_of_getElem? (i := 869) (by decide +kernel), List.mem_of_getElem? (i := 39) (by decide +kernel), ⟨by decide +kernel, by decide +kernel⟩, by decide +kernel, by decide⟩
theorem ckv_45 : iv_ckv 45 := ⟨List.mem_of_getElem? (i := 868) (by decide +kernel), List.mem_of_getElem? (i := 26) (by decide +kernel), _, rfl, rfl⟩
theorem ckm_46 : iv_ckm 46 11 (some .boolean) := ⟨List.mem_of_getElem? (i := 862) (by decide +kernel), List.mem_of_getElem? (i := 39) (by decide +kernel), ⟨by decide +kernel, by decide +kernel⟩, by decide +kernel, by decide⟩
theorem ckv_46 : iv_ckv 46 := ⟨List.mem_of_getElem? (i := 861) (by decide +kernel), List.mem_of_getElem? (i := 25) (by decide +kernel), _, rfl, rfl⟩
theorem ckm_47 : iv_ckm 47 10 (some .int) := ⟨List.mem_of_getElem? (i := 851) (by decide +kernel), List.mem_of_getElem? (i := 39) (by decide +kernel), ⟨by decide +kernel, by decide +kernel⟩, by decide +kernel, by decide⟩
theorem ckv_47 : iv_ckv 47 := ⟨List.mem_of_getElem? (i := 850) (by decide +kernel), List.mem_of_getElem? (i := 23) (by decide +kernel), _, rfl, rfl⟩
theorem ckm_48 : iv_ckm 48 5 (some .boolean) := ⟨List.mem_of_getElem? (i := 838) (by decide +kernel), List.mem_of_getElem? (i := 39) (by decide +kernel), ⟨by decide +kernel, by decide +kernel⟩, by decide +kernel, by decide⟩
theorem ckv_48 : iv_ckv 48 := ⟨List.mem_of_getElem? (i := 837) (by decide +kernel), List.mem_of_getElem? (i := 20) (by decide +kernel), _, rfl, rfl⟩
theorem ckm_49 : iv_ckm 49 4 (some .int) := ⟨List.mem_of_getElem? (i := 834) (by decide +kernel), List.mem_of_getElem? (i := 39) (by decide +kernel), ⟨by decide +kernel, by decide +kernel⟩, by decide +kernel, by decide⟩
theorem ckv_49 : iv_ckv 49 := ⟨List.mem_of_getElem? (i := 833) (by decide +kernel), List.mem_of_getElem? (i := 19) (by decide +kernel), _, rfl, rfl⟩
theorem ckm_50 : iv_ckm 50 5 (some .int) := ⟨List.mem_of_getElem? (i := 847) (by decide +kernel), List.mem_of_getElem? (i := 39) (by decide +kernel), ⟨by decide +kernel, by decide +kernel⟩, by decide +kernel, by decide⟩
theorem ckv_50 : iv_ckv 50 := ⟨List.mem_of_getElem? (i := 846) (by decide +kernel), List.mem_of_getElem? (i := 22) (by decide +kernel), _, rfl, rfl⟩
theorem ckm_51 : iv_ckm 51 8 (some .int) := ⟨List.mem_of_getElem? (i := 843) (by decide +kernel), List.mem_of_getElem? (i := 39) (by decide +kernel), ⟨by decide +kernel, by decide +kernel⟩, by decide +kernel, by decide⟩
theorem ckv_51 : iv_ckv 51 := ⟨List.mem_of_getElem? (i := 842) (by decide +kernel), List.mem_of_getElem? (i := 21) (by decide +kernel), _, rfl, rfl⟩
theorem ckm_52 : iv_ckm 52 5 (some .int) := ⟨List.mem_of_getElem? (i := 830) (by decide +kernel), List.mem_of_getElem? (i := 39) (by decide +kernel), ⟨by decide +kernel, by decide +kernel⟩, by decide +kernel, by decide⟩
theorem ckv_52 : iv_ckv 52 := ⟨List.mem_of_getElem? (i := 829) (by decide +kernel), List.mem_of_getElem? (i := 18) (by decide +kernel), _, rfl, rfl⟩
theorem ckm_53 : iv_ckm 53 5 (some .boolean) := ⟨List.mem_of_getElem? (i := 822) (by decide +kernel), List.mem_of_getElem? (i := 39) (by decide +kernel), ⟨by decide +kernel, by decide +kernel⟩, by decide +kernel, by decide⟩
theorem ckv_53 : iv_ckv 53 := ⟨List.mem_of_getElem? (i := 821) (by decide +kernel), List.mem_of_getElem? (i := 16) (by decide +kernel), _, rfl, rfl⟩
theorem ckm_54 : iv_ckm 54 3 (some .boolean) := ⟨List.mem_of_getElem? (i := 818) (by decide +kernel), List.mem_of_getElem? (i := 39) (by decide +kernel), ⟨by decide +kernel, by decide +kernel⟩, by decide +kernel, by decide⟩
theorem ckv_54 : iv_ckv 54 := ⟨List.mem_of_getElem? (i := 817) (by decide +kernel), List.mem_of_getElem? (i := 15) (by decide +kernel), _, rfl, rfl⟩
theorem ckm_55 : iv_ckm 55 7 (some .int) := ⟨List.mem_of_getElem? (i := 826) (by decide +kernel), List.mem_of_getElem? (i := 39) (by decide +kernel), ⟨by decide +kernel, by decide +kernel⟩, by decide +kernel, by decide⟩
theorem ckv_55 : iv_ckv 55 := ⟨List.mem_of_getElem? (i := 825) (by decide +kernel), List.mem_of_getElem? (i := 17) (by decide +kernel), _, rfl, rfl⟩
theorem ckm_56 : iv_ckm 56 6 (some .int) := ⟨List.mem_of_getElem? (i := 814) (by decide +kernel), List.mem_of_getElem? (i := 39) (by decide +kernel), ⟨by decide +kernel, by decide +kernel⟩, by decide +kernel, by decide⟩
theorem ckv_56 : iv_ckv 56 := ⟨List.mem_of_getElem? (i := 812) (by decide +kernel), List.mem_of_getElem? (i := 813) (by decide +kernel), _, rfl, rfl⟩
theorem ckm_57 : iv_ckm 57 5 (some .int) := ⟨List.mem_of_getElem? (i := 873) (by decide +kernel), List.mem_of_getElem? (i := 39) (by decide +kernel), ⟨by decide +kernel, by decide +kernel⟩, by decide +kernel, by decide⟩
theorem ckv_57 : iv_ckv 57 := ⟨List.mem_of_getElem? (i := 871) (by decide +kernel), List.mem_of_getElem? (i := 872) (by decide +kernel), _, rfl, rfl⟩
theorem ckm_58 : iv_ckm 58 1 (some .int) := ⟨List.mem_of_getElem? (i := 877) (by decide +kernel), List.mem_of_getElem? (i := 39) (by decide +kernel), ⟨by decide +kernel, by decide +kernel⟩, by decide +kernel, by decide⟩
theorem ckv_58 : iv_ckv 58 := ⟨List.mem_of_getElem? (i := 875) (by decide +kernel), List.mem_of_getElem? (i := 876) (by decide +kernel), _, rfl, rfl⟩
theorem ckm_59 : iv_ckm 59 1 (some .int) := ⟨List.mem_of_getElem? (i := 881) (by decide +kernel), List.mem_of_getElem? (i := 39) (by decide +kernel), ⟨by decide +kernel, by decide +kernel⟩, by decide +kernel, by decide⟩
theorem ckv_59 : iv_ckv 59 := ⟨List.mem_of_getElem? (i := 879) (by decide +kernel), List.mem_of_getElem? (i := 880) (by decide +kernel), _, rfl, rfl⟩
theorem ckm_60 : iv_ckm 60 3 (some .int) := ⟨List.mem_of_getElem? (i := 885) (by decide +kernel), List.mem_of_getElem? (i := 39) (by decide +kernel), ⟨by decide +kernel, by decide +kernel⟩, by decide +kernel, by decide⟩
theorem ckv_60 : iv_ckv 60 := ⟨List.mem_of_getElem? (i := 883) (by decide +kernel), List.mem_of_getElem? (i := 884) (by decide +kernel), _, rfl, rfl⟩
theorem ckm_61 : iv_ckm 61 2 none := ⟨List.mem_of_getElem? (i := 897) (by decide +kernel), List.mem_of_getElem? (i := 39) (by decide +kernel), ⟨by decide +kernel, by decide +kernel⟩, by decide +kernel, by decide⟩
theorem ckv_61 : iv_ckv 61 := ⟨List.mem_of_getElem? (i := 896) (by decide +kernel), List.mem_of_getElem? (i := 28) (by decide +kernel), _, rfl, rfl⟩
theorem ckm_62 : iv_ckm 62 3 none := ⟨List.mem_of_getElem? (i := 893) (by decide +kernel), List.mem_of_getElem? (i := 39) (by decide +kernel), ⟨by decide +kernel, by decide +kernel⟩, by decide +kernel, by decide⟩
theorem ckv_62 : iv_ckv 62 := ⟨List.mem_of_getElem? (i := 892) (by decide +kernel), List.mem_of_getElem? (i := 27) (by decide +kernel), _, rfl, rfl⟩
theorem ckm_63 : iv_ckm 63 4 (some .int) := ⟨List.mem_of_getElem? (i := 889) (by decide +kernel), List.mem_of_getElem? (i := 39) (by decide +kernel), ⟨by decide +kernel, by decide +kernel⟩, by decide +kernel, by decide⟩
theorem ckv_63 : iv_ckv 63 := ⟨List.mem_of_getElem? (i := 887) (by decide +kernel), List.mem_of_getElem? (i := 888) (by decide +kernel), _, rfl, rfl⟩
theorem ckm_64 : iv_ckm 64 6 none := ⟨List.mem_of_getElem? (i := 245) (by decide +kernel), List.mem_of_getElem? (i := 38) (by decide +kernel), ⟨by decide +kernel, by decide +kernel⟩, by decide +kernel, by decide⟩
theorem cki_64 : iv_cki 64 := ⟨List.mem_of_getElem? (i := 244) (by decide +kernel), rfl, fun mL rt code h => by cases h; rfl⟩
theorem ckm_65 : iv_ckm 65 4 (some .int) := ⟨List.mem_of_getElem? (i := 487) (by decide +kernel), List.mem_of_getElem? (i := 38) (by decide +kernel), ⟨by decide +kernel, by decide +kernel⟩, by decide +kernel, by decide⟩
theorem ckv_65 : iv_ckv 65 := ⟨List.mem_of_getElem? (i := 486) (by decide +kernel), List.mem_of_getElem? (i := 2) (by decide +kernel), _, rfl, rfl⟩
theorem ckm_66 : iv_ckm 66 4 (some .boolean) := ⟨List.mem_of_getElem? (i := 491) (by decide +kernel), List.mem_of_getElem? (i := 38) (by decide +kernel), ⟨by decide +kernel, by decide +kernel⟩, by decide +kernel, by decide⟩
theorem ckv_66 : iv_ckv 66 := ⟨List.mem_of_getElem? (i := 490) (by decide +kernel), List.mem_of_getElem? (i := 3) (by decide +kernel), _, rfl, rfl⟩
theorem ckm_67 : iv_ckm 67 8 (some .int) := ⟨List.mem_of_getElem? (i := 495) (by decide +kernel), List.mem_of_getElem? (i := 38) (by decide +kernel), ⟨by decide +kernel, by decide +kernel⟩, by decide +kernel, by decide⟩
theorem ckv_67 : iv_ckv 67 := ⟨List.mem_of_getElem? (i := 494) (by decide +kernel), List.mem_of_getElem? (i := 4) (by decide +kernel), _, rfl, rfl⟩
theorem ckm_68 : iv_ckm 68 4 (some .boolean) := ⟨List.mem_of_getElem? (i := 551) (by decide +kernel), List.mem_of_getElem? (i := 38) (by decide +kernel), ⟨by decide +kernel, by decide +kernel⟩, by decide +kernel, by decide⟩
theorem ckv_68 : iv_ckv 68 := ⟨List.mem_of_getElem? (i := 550) (by decide +kernel), List.mem_of_getElem? (i := 10) (by decide +kernel), _, rfl, rfl⟩
theorem ckm_69 : iv_ckm 69 6 (some .int) := ⟨List.mem_of_getElem? (i := 499) (by decide +kernel), List.mem_of_getElem? (i := 38) (by decide +kernel), ⟨by decide +kernel, by decide +kernel⟩, by decide +kernel, by decide⟩
theorem ckv_69 : iv_ckv 69 := ⟨List.mem_of_getElem? (i := 498) (by decide +kernel), List.mem_of_getElem? (i := 5) (by decide +kernel), _, rfl, rfl⟩
theorem ckm_70 : iv_ckm 70 7 (some .int) := ⟨List.mem_of_getElem? (i := 541) (by decide +kernel), List.mem_of_getElem? (i := 38) (by decide +kernel), ⟨by decide +kernel, by decide +kernel⟩, by decide +kernel, by decide⟩
theorem ckv_70 : iv_ckv 70 := ⟨List.mem_of_getElem? (i := 540) (by decide +kernel), List.mem_of_getElem? (i := 8) (by decide +kernel), _, rfl, rfl⟩
theorem ckm_71 : iv_ckm 71 7 (some .int) := ⟨List.mem_of_getElem? (i := 545) (by decide +kernel), List.mem_of_getElem? (i := 38) (by decide +kernel), ⟨by decide +kernel, by decide +kernel⟩, by decide +kernel, by decide⟩
theorem ckv_71 : iv_ckv 71 := ⟨List.mem_of_getElem? (i := 544) (by decide +kernel), List.mem_of_getElem? (i := 9) (by decide +kernel), _, rfl, rfl⟩
theorem ckm_72 : iv_ckm 72 7 (some .int) := ⟨List.mem_of_getElem? (i := 508) (by decide +kernel), List.mem_of_getElem? (i := 38) (by decide +kernel), ⟨by decide +kernel, by decide +kernel⟩, by decide +kernel, by decide⟩
theorem ckv_72 : iv_ckv 72 := ⟨List.mem_of_getElem? (i := 506) (by decide +kernel), List.mem_of_getElem? (i := 507) (by decide +kernel), _, rfl, rfl⟩
theorem ckm_73 : iv_ckm 73 9 (some .int) := ⟨List.mem_of_getElem? (i := 512) (by decide +kernel), List.mem_of_getElem? (i := 38) (by decide +kernel), ⟨by decide +kernel, by decide +kernel⟩, by decide +kernel, by decide⟩
theorem ckv_73 : iv_ckv 73 := ⟨List.mem_of_getElem? (i := 511) (by decide +kernel), List.mem_of_getElem? (i := 6) (by decide +kernel), _, rfl, rfl⟩
theorem ckm_74 : iv_ckm 74 9 (some .int) := ⟨List.mem_of_getElem? (i := 524) (by decide +kernel), List.mem_of_getElem? (i := 38) (by decide +kernel), ⟨by decide +kernel, by decide +kernel⟩, by decide +kernel, by decide⟩
theorem ckv_74 : iv_ckv 74 := ⟨List.mem_of_getElem? (i := 523) (by decide +kernel), List.mem_of_getElem? (i := 7) (by decide +kernel), _, rfl, rfl⟩
theorem ckm_75 : iv_ckm 75 2 none := ⟨List.mem_of_getElem? (i := 129) (by decide +kernel), List.mem_of_getElem? (i := 34) (by decide +kernel), ⟨by decide +kernel, by decide +kernel⟩, by decide +kernel, by decide⟩
theorem cki_75 : iv_cki 75 := ⟨List.mem_of_getElem? (i := 128) (by decide +kernel), rfl, fun mL rt code h => by cases h; rfl⟩
theorem ckm_76 : iv_ckm 76 4 (some .boolean) := ⟨List.mem_of_getElem? (i := 338) (by decide +kernel), List.mem_of_getElem? (i := 34) (by decide +kernel), ⟨by decide +kernel, by decide +kernel⟩, by decide +kernel, by decide⟩
theorem ckv_76 : iv_ckv 76 := ⟨List.mem_of_getElem? (i := 336) (by decide +kernel), List.mem_of_getElem? (i := 337) (by decide +kernel), _, rfl, rfl⟩
theorem ckm_77 : iv_ckm 77 4 (some .boolean) := ⟨List.mem_of_getElem? (i := 516) (by decide +kernel), List.mem_of_getElem? (i := 34) (by decide +kernel), ⟨by decide +kernel, by decide +kernel⟩, by decide +kernel, by decide⟩
theorem ckv_77 : iv_ckv 77 := ⟨List.mem_of_getElem? (i := 514) (by decide +kernel), List.mem_of_getElem? (i := 515) (by decide +kernel), _, rfl, rfl⟩
theorem ckm_78 : iv_ckm 78 4 none := ⟨List.mem_of_getElem? (i := 342) (by decide +kernel), List.mem_of_getElem? (i := 40) (by decide +kernel), ⟨by decide +kernel, by decide +kernel⟩, by decide +kernel, by decide⟩
theorem cki_78 : iv_cki 78 := ⟨List.mem_of_getElem? (i := 341) (by decide +kernel), rfl, fun mL rt code h => by cases h; rfl⟩
theorem ckm_79 : iv_ckm 79 3 (some .boolean) := ⟨List.mem_of_getElem? (i := 520) (by decide +kernel), List.mem_of_getElem? (i := 40) (by decide +kernel), ⟨by decide +kernel, by decide +kernel⟩, by decide +kernel, by decide⟩
theorem ckv_79 : iv_ckv 79 := ⟨List.mem_of_getElem? (i := 518) (by decide +kernel), List.mem_of_getElem? (i := 519) (by decide +kernel), _, rfl, rfl⟩
theorem ckm_80 : iv_ckm 80 2 (some .boolean) := ⟨List.mem_of_getElem? (i := 528) (by decide +kernel), List.mem_of_getElem? (i := 40) (by decide +kernel), ⟨by decide +kernel, by decide +kernel⟩, by decide +kernel, by decide⟩
theorem ckv_80 : iv_ckv 80 := ⟨List.mem_of_getElem? (i := 526) (by decide +kernel), List.mem_of_getElem? (i := 527) (by decide +kernel), _, rfl, rfl⟩
theorem ckm_81 : iv_ckm 81 2 none := ⟨List.mem_of_getElem? (i := 165) (by decide +kernel), List.mem_of_getElem? (i := 35) (by decide +kernel), ⟨by decide +kernel, by decide +kernel⟩, by decide +kernel, by decide⟩
theorem cki_81 : iv_cki 81 := ⟨List.mem_of_getElem? (i := 164) (by decide +kernel), rfl, fun mL rt code h => by cases h; rfl⟩
theorem ckm_82 : iv_ckm 82 2 (some .boolean) := ⟨List.mem_of_getElem? (i := 396) (by decide +kernel), List.mem_of_getElem? (i := 35) (by decide +kernel), ⟨by decide +kernel, by decide +kernel⟩, by decide +kernel, by decide⟩
theorem ckv_82 : iv_ckv 82 := ⟨List.mem_of_getElem? (i := 394) (by decide +kernel), List.mem_of_getElem? (i := 395) (by decide +kernel), _, rfl, rfl⟩
theorem ckm_83 : iv_ckm 83 2 (some .boolean) := ⟨List.mem_of_getElem? (i := 413) (by decide +kernel), List.mem_of_getElem? (i := 35) (by decide +kernel), ⟨by decide +kernel, by decide +kernel⟩, by decide +kernel, by decide⟩
theorem ckv_83 : iv_ckv 83 := ⟨List.mem_of_getElem? (i := 411) (by decide +kernel), List.mem_of_getElem? (i := 412) (by decide +kernel), _, rfl, rfl⟩
theorem ckm_84 : iv_ckm 84 3 (some .boolean) := ⟨List.mem_of_getElem? (i := 400) (by decide +kernel), List.mem_of_getElem? (i := 35) (by decide +kernel), ⟨by decide +kernel, by decide +kernel⟩, by decide +kernel, by decide⟩
theorem ckv_84 : iv_ckv 84 := ⟨List.mem_of_getElem? (i := 398) (by decide +kernel), List.mem_of_getElem? (i := 399) (by decide +kernel), _, rfl, rfl⟩
theorem ckm_85 : iv_ckm 85 4 none := ⟨List.mem_of_getElem? (i := 404) (by decide +kernel), List.mem_of_getElem? (i := 35) (by decide +kernel), ⟨by decide +kernel, by decide +kernel⟩, by decide +kernel, by decide⟩
theorem ckv_85 : iv_ckv 85 := ⟨List.mem_of_getElem? (i := 402) (by decide +kernel), List.mem_of_getElem? (i := 403) (by decide +kernel), _, rfl, rfl⟩
theorem ckm_86 : iv_ckm 86 5 (some .boolean) := ⟨List.mem_of_getElem? (i := 481) (by decide +kernel), List.mem_of_getElem? (i := 35) (by decide +kernel), ⟨by decide +kernel, by decide +kernel⟩, by decide +kernel, by decide⟩
theorem ckv_86 : iv_ckv 86 := ⟨List.mem_of_getElem? (i := 480) (by decide +kernel), List.mem_of_getElem? (i := 1) (by decide +kernel), _, rfl, rfl⟩
theorem ckm_87 : iv_ckm 87 2 none := ⟨List.mem_of_getElem? (i := 210) (by decide +kernel), List.mem_of_getElem? (i := 37) (by decide +kernel), ⟨by decide +kernel, by decide +kernel⟩, by decide +kernel, by decide⟩
theorem cki_87 : iv_cki 87 := ⟨List.mem_of_getElem? (i := 209) (by decide +kernel), rfl, fun mL rt code h => by cases h; rfl⟩
theorem ckm_88 : iv_ckm 88 2 (some .boolean) := ⟨List.mem_of_getElem? (i := 576) (by decide +kernel), List.mem_of_getElem? (i := 37) (by decide +kernel), ⟨by decide +kernel, by decide +kernel⟩, by decide +kernel, by decide⟩
theorem ckv_88 : iv_ckv 88 := ⟨List.mem_of_getElem? (i := 574) (by decide +kernel), List.mem_of_getElem? (i := 575) (by decide +kernel), _, rfl, rfl⟩
theorem ckm_89 : iv_ckm 89 10 (some .boolean) := ⟨List.mem_of_getElem? (i := 532) (by decide +kernel), List.mem_of_getElem? (i := 37) (by decide +kernel), ⟨by decide +kernel, by decide +kernel⟩, by decide +kernel, by decide⟩
theorem ckv_89 : iv_ckv 89 := ⟨List.mem_of_getElem? (i := 530) (by decide +kernel), List.mem_of_getElem? (i := 531) (by decide +kernel), _, rfl, rfl⟩
theorem ckm_90 : iv_ckm 90 2 (some .int) := ⟨List.mem_of_getElem? (i := 555) (by decide +kernel), List.mem_of_getElem? (i := 37) (by decide +kernel), ⟨by decide +kernel, by decide +kernel⟩, by decide +kernel, by decide⟩
theorem ckv_90 : iv_ckv 90 := ⟨List.mem_of_getElem? (i := 553) (by decide +kernel), List.mem_of_getElem? (i := 554) (by decide +kernel), _, rfl, rfl⟩
theorem ckm_91 : iv_ckm 91 4 none := ⟨List.mem_of_getElem? (i := 584) (by decide +kernel), List.mem_of_getElem? (i := 37) (by decide +kernel), ⟨by decide +kernel, by decide +kernel⟩, by decide +kernel, by decide⟩
theorem ckv_91 : iv_ckv 91 := ⟨List.mem_of_getElem? (i := 582) (by decide +kernel), List.mem_of_getElem? (i := 583) (by decide +kernel), _, rfl, rfl⟩
theorem ckm_92 : iv_ckm 92 3 none := ⟨List.mem_of_getElem? (i := 588) (by decide +kernel), List.mem_of_getElem? (i := 37) (by decide +kernel), ⟨by decide +kernel, by decide +kernel⟩, by decide +kernel, by decide⟩
theorem ckv_92 : iv_ckv 92 := ⟨List.mem_of_getElem? (i := 587) (by decide +kernel), List.mem_of_getElem? (i := 11) (by decide +kernel), _, rfl, rfl⟩
theorem ckm_93 : iv_ckm 93 2 none := ⟨List.mem_of_getElem? (i := 592) (by decide +kernel), List.mem_of_getElem? (i := 37) (by decide +kernel), ⟨by decide +kernel, by decide +kernel⟩, by decide +kernel, by decide⟩
theorem ckv_93 : iv_ckv 93 := ⟨List.mem_of_getElem? (i := 591) (by decide +kernel), List.mem_of_getElem? (i := 12) (by decide +kernel), _, rfl, rfl⟩
theorem ckm_94 : iv_ckm 94 2 none := ⟨List.mem_of_getElem? (i := 61) (by decide +kernel), List.mem_of_getElem? (i := 32) (by decide +kernel), ⟨by decide +kernel, by decide +kernel⟩, by decide +kernel, by decide⟩
theorem cki_94 : iv_cki 94 := ⟨List.mem_of_getElem? (i := 60) (by decide +kernel), rfl, fun mL rt code h => by cases h; rfl⟩
theorem ckm_95 : iv_ckm 95 2 (some .boolean) := ⟨List.mem_of_getElem? (i := 417) (by decide +kernel), List.mem_of_getElem? (i := 32) (by decide +kernel), ⟨by decide +kernel, by decide +kernel⟩, by decide +kernel, by decide⟩
theorem ckv_95 : iv_ckv 95 := ⟨List.mem_of_getElem? (i := 415) (by decide +kernel), List.mem_of_getElem? (i := 416) (by decide +kernel), _, rfl, rfl⟩
theorem ckm_96 : iv_ckm 96 5 none := ⟨List.mem_of_getElem? (i := 361) (by decide +kernel), List.mem_of_getElem? (i := 41) (by decide +kernel), ⟨by decide +kernel, by decide +kernel⟩, by decide +kernel, by decide⟩
theorem cki_96 : iv_cki 96 := ⟨List.mem_of_getElem? (i := 360) (by decide +kernel), rfl, fun mL rt code h => by cases h; rfl⟩
theorem ckm_97 : iv_ckm 97 2 none := ⟨List.mem_of_getElem? (i := 120) (by decide +kernel), List.mem_of_getElem? (i := 33) (by decide +kernel), ⟨by decide +kernel, by decide +kernel⟩, by decide +kernel, by decide⟩
theorem cki_97 : iv_cki 97 := ⟨List.mem_of_getElem? (i := 119) (by decide +kernel), rfl, fun mL rt code h => by cases h; rfl⟩
theorem ckm_98 : iv_ckm 98 2 (some .boolean) := ⟨List.mem_of_getElem? (i := 330) (by decide +kernel), List.mem_of_getElem? (i := 33) (by decide +kernel), ⟨by decide +kernel, by decide +kernel⟩, by decide +kernel, by decide⟩
theorem ckv_98 : iv_ckv 98 := ⟨List.mem_of_getElem? (i := 328) (by decide +kernel), List.mem_of_getElem? (i := 329) (by decide +kernel), _, rfl, rfl⟩
theorem ckm_99 : iv_ckm 99 5 (some (.object "RuleGraph$Composition")) := ⟨List.mem_of_getElem? (i := 334) (by decide +kernel), List.mem_of_getElem? (i := 33) (by decide +kernel), ⟨by decide +kernel, by decide +kernel⟩, by decide +kernel, by decide⟩
theorem ckv_99 : iv_ckv 99 := ⟨List.mem_of_getElem? (i := 332) (by decide +kernel), List.mem_of_getElem? (i := 333) (by decide +kernel), _, rfl, rfl⟩
theorem ckm_100 : iv_ckm 100 5 (some .int) := ⟨List.mem_of_getElem? (i := 357) (by decide +kernel), List.mem_of_getElem? (i := 33) (by decide +kernel), ⟨by decide +kernel, by decide +kernel⟩, by decide +kernel, by decide⟩
theorem ckv_100 : iv_ckv 100 := ⟨List.mem_of_getElem? (i := 355) (by decide +kernel), List.mem_of_getElem? (i := 356) (by decide +kernel), _, rfl, rfl⟩
theorem ckm_101 : iv_ckm 101 2 none := ⟨List.mem_of_getElem? (i := 54) (by decide +kernel), List.mem_of_getElem? (i := 31) (by decide +kernel), ⟨by decide +kernel, by decide +kernel⟩, by decide +kernel, by decide⟩
theorem cki_101 : iv_cki 101 := ⟨List.mem_of_getElem? (i := 53) (by decide +kernel), rfl, fun mL rt code h => by cases h; rfl⟩
theorem ckm_102 : iv_ckm 102 2 (some .boolean) := ⟨List.mem_of_getElem? (i := 302) (by decide +kernel), List.mem_of_getElem? (i := 31) (by decide +kernel), ⟨by decide +kernel, by decide +kernel⟩, by decide +kernel, by decide⟩
theorem ckv_102 : iv_ckv 102 := ⟨List.mem_of_getElem? (i := 300) (by decide +kernel), List.mem_of_getElem? (i := 301) (by decide +kernel), _, rfl, rfl⟩
theorem ckm_103 : iv_ckm 103 2 (some .boolean) := ⟨List.mem_of_getElem? (i := 326) (by decide +kernel), List.mem_of_getElem? (i := 31) (by decide +kernel), ⟨by decide +kernel, by decide +kernel⟩, by decide +kernel, by decide⟩
theorem ckv_103 : iv_ckv 103 := ⟨List.mem_of_getElem? (i := 324) (by decide +kernel), List.mem_of_getElem? (i := 325) (by decide +kernel), _, rfl, rfl⟩
theorem ckm_104 : iv_ckm 104 2 (some .boolean) := ⟨List.mem_of_getElem? (i := 461) (by decide +kernel), List.mem_of_getElem? (i := 31) (by decide +kernel), ⟨by decide +kernel, by decide +kernel⟩, by decide +kernel, by decide⟩
theorem ckv_104 : iv_ckv 104 := ⟨List.mem_of_getElem? (i := 459) (by decide +kernel), List.mem_of_getElem? (i := 460) (by decide +kernel), _, rfl, rfl⟩
theorem ckm_105 : iv_ckm 105 2 (some .boolean) := ⟨List.mem_of_getElem? (i := 429) (by decide +kernel), List.mem_of_getElem? (i := 31) (by decide +kernel), ⟨by decide +kernel, by decide +kernel⟩, by decide +kernel, by decide⟩
theorem ckv_105 : iv_ckv 105 := ⟨List.mem_of_getElem? (i := 427) (by decide +kernel), List.mem_of_getElem? (i := 428) (by decide +kernel), _, rfl, rfl⟩
theorem ckm_106 : iv_ckm 106 3 (some .boolean) := ⟨List.mem_of_getElem? (i := 457) (by decide +kernel), List.mem_of_getElem? (i := 31) (by decide +kernel), ⟨by decide +kernel, by decide +kernel⟩, by decide +kernel, by decide⟩
theorem ckv_106 : iv_ckv 106 := ⟨List.mem_of_getElem? (i := 455) (by decide +kernel), List.mem_of_getElem? (i := 456) (by decide +kernel), _, rfl, rfl⟩
theorem ckm_107 : iv_ckm 107 4 (some .int) := ⟨List.mem_of_getElem? (i := 503) (by decide +kernel), List.mem_of_getElem? (i := 31) (by decide +kernel), ⟨by decide +kernel, by decide +kernel⟩, by decide +kernel, by decide⟩
theorem ckv_107 : iv_ckv 107 := ⟨List.mem_of_getElem? (i := 501) (by decide +kernel), List.mem_of_getElem? (i := 502) (by decide +kernel), _, rfl, rfl⟩
theorem ckm_108 : iv_ckm 108 3 (some .int) := ⟨List.mem_of_getElem? (i := 306) (by decide +kernel), List.mem_of_getElem? (i := 31) (by decide +kernel), ⟨by decide +kernel, by decide +kernel⟩, by decide +kernel, by decide⟩
theorem ckv_108 : iv_ckv 108 := ⟨List.mem_of_getElem? (i := 304) (by decide +kernel), List.mem_of_getElem? (i := 305) (by decide +kernel), _, rfl, rfl⟩
theorem ckm_109 : iv_ckm 109 5 (some .int) := ⟨List.mem_of_getElem? (i := 314) (by decide +kernel), List.mem_of_getElem? (i := 31) (by decide +kernel), ⟨by decide +kernel, by decide +kernel⟩, by decide +kernel, by decide⟩
theorem ckv_109 : iv_ckv 109 := ⟨List.mem_of_getElem? (i := 312) (by decide +kernel), List.mem_of_getElem? (i := 313) (by decide +kernel), _, rfl, rfl⟩
theorem ckm_110 : iv_ckm 110 1 none := ⟨List.mem_of_getElem? (i := 186) (by decide +kernel), List.mem_of_getElem? (i := 36) (by decide +kernel), ⟨by decide +kernel, by decide +kernel⟩, by decide +kernel, by decide⟩
theorem cki_110 : iv_cki 110 := ⟨List.mem_of_getElem? (i := 185) (by decide +kernel), rfl, fun mL rt code h => by cases h; rfl⟩
theorem ckm_111 : iv_ckm 111 2 (some .boolean) := ⟨List.mem_of_getElem? (i := 453) (by decide +kernel), List.mem_of_getElem? (i := 36) (by decide +kernel), ⟨by decide +kernel, by decide +kernel⟩, by decide +kernel, by decide⟩
theorem ckv_111 : iv_ckv 111 := ⟨List.mem_of_getElem? (i := 451) (by decide +kernel), List.mem_of_getElem? (i := 452) (by decide +kernel), _, rfl, rfl⟩
theorem ckm_112 : iv_ckm 112 4 none := ⟨List.mem_of_getElem? (i := 318) (by decide +kernel), List.mem_of_getElem? (i := 36) (by decide +kernel), ⟨by decide +kernel, by decide +kernel⟩, by decide +kernel, by decide⟩
theorem ckv_112 : iv_ckv 112 := ⟨List.mem_of_getElem? (i := 316) (by decide +kernel), List.mem_of_getElem? (i := 317) (by decide +kernel), _, rfl, rfl⟩
theorem ckm_113 : iv_ckm 113 2 (some .int) := ⟨List.mem_of_getElem? (i := 441) (by decide +kernel), List.mem_of_getElem? (i := 36) (by decide +kernel), ⟨by decide +kernel, by decide +kernel⟩, by decide +kernel, by decide⟩
theorem ckv_113 : iv_ckv 113 := ⟨List.mem_of_getElem? (i := 439) (by decide +kernel), List.mem_of_getElem? (i := 440) (by decide +kernel), _, rfl, rfl⟩
theorem ckm_114 : iv_ckm 114 5 (some .boolean) := ⟨List.mem_of_getElem? (i := 469) (by decide +kernel), List.mem_of_getElem? (i := 36) (by decide +kernel), ⟨by decide +kernel, by decide +kernel⟩, by decide +kernel, by decide⟩
theorem ckv_114 : iv_ckv 114 := ⟨List.mem_of_getElem? (i := 467) (by decide +kernel), List.mem_of_getElem? (i := 468) (by decide +kernel), _, rfl, rfl⟩
theorem ckm_115 : iv_ckm 115 4 (some .int) := ⟨List.mem_of_getElem? (i := 537) (by decide +kernel), List.mem_of_getElem? (i := 36) (by decide +kernel), ⟨by decide +kernel, by decide +kernel⟩, by decide +kernel, by decide⟩
theorem ckv_115 : iv_ckv 115 := ⟨List.mem_of_getElem? (i := 535) (by decide +kernel), List.mem_of_getElem? (i := 536) (by decide +kernel), _, rfl, rfl⟩
theorem ck_m : ∀ (x mL : Nat) (rt : Option FieldType) (code : List iv_I), iv_M x = some (mL, rt, code) → iv_ckm x mL rt := by
  intro x mL rt code h
  unfold iv_M at h
  split at h
  · cases h
  · rename_i h2
    have hi : x < 116 := (List.getElem?_eq_some_iff.mp h).1
    match x, h2, hi, h with
    | 0, h2, _, _ => exact absurd (by decide) h2
    | 1, h2, _, _ => exact absurd (by decide) h2
    | 2, _, _, h => cases h; exact ckm_2
    | 3, _, _, h => cases h; exact ckm_3
    | 4, _, _, h => cases h; exact ckm_4
    | 5, _, _, h => cases h; exact ckm_5
    | 6, _, _, h => cases h; exact ckm_6
    | 7, _, _, h => cases h; exact ckm_7
    | 8, _, _, h => cases h; exact ckm_8
    | 9, _, _, h => cases h; exact ckm_9
    | 10, _, _, h => cases h; exact ckm_10
    | 11, _, _, h => cases h; exact ckm_11
    | 12, _, _, h => cases h; exact ckm_12
    | 13, _, _, h => cases h; exact ckm_13
    | 14, _, _, h => cases h; exact ckm_14
    | 15, _, _, h => cases h; exact ckm_15
    | 16, _, _, h => cases h; exact ckm_16
    | 17, _, _, h => cases h; exact ckm_17
    | 18, _, _, h => cases h; exact ckm_18
    | 19, _, _, h => cases h; exact ckm_19
    | 20, _, _, h => cases h; exact ckm_20
    | 21, _, _, h => cases h; exact ckm_21
    | 22, _, _, h => cases h; exact ckm_22
    | 23, _, _, h => cases h; exact ckm_23
    | 24, _, _, h => cases h; exact ckm_24
    | 25, _, _, h => cases h; exact ckm_25
    | 26, _, _, h => cases h; exact ckm_26
    | 27, _, _, h => cases h; exact ckm_27
    | 28, _, _, h => cases h; exact ckm_28
    | 29, _, _, h => cases h; exact ckm_29
    | 30, _, _, h => cases h; exact ckm_30
    | 31, _, _, h => cases h; exact ckm_31
    | 32, _, _, h => cases h; exact ckm_32
    | 33, _, _, h => cases h; exact ckm_33
    | 34, _, _, h => cases h; exact ckm_34
    | 35, _, _, h => cases h; exact ckm_35
    | 36, _, _, h => cases h; exact ckm_36
    | 37, _, _, h => cases h; exact ckm_37
    | 38, _, _, h => cases h; exact ckm_38
    | 39, _, _, h => cases h; exact ckm_39
    | 40, _, _, h => cases h; exact ckm_40
    | 41, _, _, h => cases h; exact ckm_41
    | 42, _, _, h => cases h; exact ckm_42
    | 43, _, _, h => cases h; exact ckm_43
    | 44, _, _, h => cases h; exact ckm_44
    | 45, _, _, h => cases h; exact ckm_45
    | 46, _, _, h => cases h; exact ckm_46
    | 47, _, _, h => cases h; exact ckm_47
    | 48, _, _, h => cases h; exact ckm_48
    | 49, _, _, h => cases h; exact ckm_49
    | 50, _, _, h => cases h; exact ckm_50
    | 51, _, _, h => cases h; exact ckm_51
    | 52, _, _, h => cases h; exact ckm_52
    | 53, _, _, h => cases h; exact ckm_53
    | 54, _, _, h => cases h; exact ckm_54
    | 55, _, _, h => cases h; exact ckm_55
    | 56, _, _, h => cases h; exact ckm_56
    | 57, _, _, h => cases h; exact ckm_57
    | 58, _, _, h => cases h; exact ckm_58
    | 59, _, _, h => cases h; exact ckm_59
    | 60, _, _, h => cases h; exact ckm_60
    | 61, _, _, h => cases h; exact ckm_61
    | 62, _, _, h => cases h; exact ckm_62
    | 63, _, _, h => cases h; exact ckm_63
    | 64, _, _, h => cases h; exact ckm_64
    | 65, _, _, h => cases h; exact ckm_65
    | 66, _, _, h => cases h; exact ckm_66
    | 67, _, _, h => cases h; exact ckm_67
    | 68, _, _, h => cases h; exact ckm_68
    | 69, _, _, h => cases h; exact ckm_69
    | 70, _, _, h => cases h; exact ckm_70
    | 71, _, _, h => cases h; exact ckm_71
    | 72, _, _, h => cases h; exact ckm_72
    | 73, _, _, h => cases h; exact ckm_73
    | 74, _, _, h => cases h; exact ckm_74
    | 75, _, _, h => cases h; exact ckm_75
    | 76, _, _, h => cases h; exact ckm_76
    | 77, _, _, h => cases h; exact ckm_77
    | 78, _, _, h => cases h; exact ckm_78
    | 79, _, _, h => cases h; exact ckm_79
    | 80, _, _, h => cases h; exact ckm_80
    | 81, _, _, h => cases h; exact ckm_81
    | 82, _, _, h => cases h; exact ckm_82
    | 83, _, _, h => cases h; exact ckm_83
    | 84, _, _, h => cases h; exact ckm_84
    | 85, _, _, h => cases h; exact ckm_85
    | 86, _, _, h => cases h; exact ckm_86
    | 87, _, _, h => cases h; exact ckm_87
    | 88, _, _, h => cases h; exact ckm_88
    | 89, _, _, h => cases h; exact ckm_89
    | 90, _, _, h => cases h; exact ckm_90
    | 91, _, _, h => cases h; exact ckm_91
    | 92, _, _, h => cases h; exact ckm_92
    | 93, _, _, h => cases h; exact ckm_93
    | 94, _, _, h => cases h; exact ckm_94
    | 95, _, _, h => cases h; exact ckm_95
    | 96, _, _, h => cases h; exact ckm_96
    | 97, _, _, h => cases h; exact ckm_97
    | 98, _, _, h => cases h; exact ckm_98
    | 99, _, _, h => cases h; exact ckm_99
    | 100, _, _, h => cases h; exact ckm_100
    | 101, _, _, h => cases h; exact ckm_101
    | 102, _, _, h => cases h; exact ckm_102
    | 103, _, _, h => cases h; exact ckm_103
    | 104, _, _, h => cases h; exact ckm_104
    | 105, _, _, h => cases h; exact ckm_105
    | 106, _, _, h => cases h; exact ckm_106
    | 107, _, _, h => cases h; exact ckm_107
    | 108, _, _, h => cases h; exact ckm_108
    | 109, _, _, h => cases h; exact ckm_109
    | 110, _, _, h => cases h; exact ckm_110
    | 111, _, _, h => cases h; exact ckm_111
    | 112, _, _, h => cases h; exact ckm_112
    | 113, _, _, h => cases h; exact ckm_113
    | 114, _, _, h => cases h; exact ckm_114
    | 115, _, _, h => cases h; exact ckm_115
    | n + 116, _, hi, _ => omega
