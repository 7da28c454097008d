section
-- ===== PART A: goes FIRST, ahead of the names: the tables' words, and 'selects' of the private methods out of them =====
/-- a private method of a class that the tables say can be made, by its rows of tables_1 -/
def lw_okq (q : MethodName × Nat) : Prop := (q.1.cls ≠ "java/lang/invoke/MethodHandle" ∧ q.1.cls ≠ "java/lang/invoke/VarHandle") ∧ Cond.instantiable q.1.cls q.2 ∈ tables_1 ∧ Cond.privateMethod q.1 ∈ tables_1 ∧ Cond.instanceMethod q.1 ∈ tables_1
theorem lw_p0 : lw_okq (⟨"RuleGraph", "hasField", "(II)Z"⟩, 6) := ⟨⟨by decide +kernel, by decide +kernel⟩, List.mem_of_getElem? (i := 14) (by decide +kernel), List.mem_of_getElem? (i := 418) (by decide +kernel), List.mem_of_getElem? (i := 419) (by decide +kernel)⟩
theorem lw_p1 : lw_okq (⟨"RuleGraph$Groups", "flatten", "(II)Z"⟩, 3) := ⟨⟨by decide +kernel, by decide +kernel⟩, List.mem_of_getElem? (i := 133) (by decide +kernel), List.mem_of_getElem? (i := 450) (by decide +kernel), List.mem_of_getElem? (i := 451) (by decide +kernel)⟩
theorem lw_p2 : lw_okq (⟨"RuleGraph$Checker", "check", "(II)I"⟩, 9) := ⟨⟨by decide +kernel, by decide +kernel⟩, List.mem_of_getElem? (i := 213) (by decide +kernel), List.mem_of_getElem? (i := 456) (by decide +kernel), List.mem_of_getElem? (i := 457) (by decide +kernel)⟩
theorem lw_p3 : lw_okq (⟨"RuleGraph$Checker", "isOpen", "(II)Z"⟩, 9) := ⟨⟨by decide +kernel, by decide +kernel⟩, List.mem_of_getElem? (i := 213) (by decide +kernel), List.mem_of_getElem? (i := 460) (by decide +kernel), List.mem_of_getElem? (i := 461) (by decide +kernel)⟩
theorem lw_p4 : lw_okq (⟨"RuleGraph$Checker", "goThroughStages", "(II)I"⟩, 9) := ⟨⟨by decide +kernel, by decide +kernel⟩, List.mem_of_getElem? (i := 213) (by decide +kernel), List.mem_of_getElem? (i := 464) (by decide +kernel), List.mem_of_getElem? (i := 465) (by decide +kernel)⟩
theorem lw_p5 : lw_okq (⟨"RuleGraph$Checker", "goThroughStage", "(II)I"⟩, 9) := ⟨⟨by decide +kernel, by decide +kernel⟩, List.mem_of_getElem? (i := 213) (by decide +kernel), List.mem_of_getElem? (i := 468) (by decide +kernel), List.mem_of_getElem? (i := 469) (by decide +kernel)⟩
theorem lw_p6 : lw_okq (⟨"RuleGraph$Checker", "tryRule", "(ILRuleGraph$Rule;I)I"⟩, 9) := ⟨⟨by decide +kernel, by decide +kernel⟩, List.mem_of_getElem? (i := 213) (by decide +kernel), List.mem_of_getElem? (i := 481) (by decide +kernel), List.mem_of_getElem? (i := 482) (by decide +kernel)⟩
theorem lw_p7 : lw_okq (⟨"RuleGraph$Checker", "judge", "(ILRuleGraph$Rule;III)I"⟩, 9) := ⟨⟨by decide +kernel, by decide +kernel⟩, List.mem_of_getElem? (i := 213) (by decide +kernel), List.mem_of_getElem? (i := 493) (by decide +kernel), List.mem_of_getElem? (i := 494) (by decide +kernel)⟩
theorem lw_p8 : lw_okq (⟨"RuleGraph$Checker", "follow", "(III)I"⟩, 9) := ⟨⟨by decide +kernel, by decide +kernel⟩, List.mem_of_getElem? (i := 213) (by decide +kernel), List.mem_of_getElem? (i := 510) (by decide +kernel), List.mem_of_getElem? (i := 511) (by decide +kernel)⟩
theorem lw_p9 : lw_okq (⟨"RuleGraph$Checker", "goOver", "(IIII)I"⟩, 9) := ⟨⟨by decide +kernel, by decide +kernel⟩, List.mem_of_getElem? (i := 213) (by decide +kernel), List.mem_of_getElem? (i := 514) (by decide +kernel), List.mem_of_getElem? (i := 515) (by decide +kernel)⟩
theorem lw_p10 : lw_okq (⟨"RuleGraph$Checker", "isGood", "(LRuleGraph$Row;)Z"⟩, 9) := ⟨⟨by decide +kernel, by decide +kernel⟩, List.mem_of_getElem? (i := 213) (by decide +kernel), List.mem_of_getElem? (i := 520) (by decide +kernel), List.mem_of_getElem? (i := 521) (by decide +kernel)⟩
theorem lw_p11 : lw_okq (⟨"RuleGraph$Report", "spellStep", "(II)V"⟩, 6) := ⟨⟨by decide +kernel, by decide +kernel⟩, List.mem_of_getElem? (i := 178) (by decide +kernel), List.mem_of_getElem? (i := 557) (by decide +kernel), List.mem_of_getElem? (i := 558) (by decide +kernel)⟩
theorem lw_p12 : lw_okq (⟨"RuleGraph$Report", "write", "(C)V"⟩, 6) := ⟨⟨by decide +kernel, by decide +kernel⟩, List.mem_of_getElem? (i := 178) (by decide +kernel), List.mem_of_getElem? (i := 561) (by decide +kernel), List.mem_of_getElem? (i := 562) (by decide +kernel)⟩
theorem lw_p13 : lw_okq (⟨"RuleGraphModel", "closure", "(I)I"⟩, 48) := ⟨⟨by decide +kernel, by decide +kernel⟩, List.mem_of_getElem? (i := 565) (by decide +kernel), List.mem_of_getElem? (i := 743) (by decide +kernel), List.mem_of_getElem? (i := 744) (by decide +kernel)⟩
theorem lw_p14 : lw_okq (⟨"RuleGraphModel", "has", "(II)Z"⟩, 48) := ⟨⟨by decide +kernel, by decide +kernel⟩, List.mem_of_getElem? (i := 565) (by decide +kernel), List.mem_of_getElem? (i := 771) (by decide +kernel), List.mem_of_getElem? (i := 772) (by decide +kernel)⟩
theorem lw_p15 : lw_okq (⟨"RuleGraphModel", "cyclic", "(I)Z"⟩, 48) := ⟨⟨by decide +kernel, by decide +kernel⟩, List.mem_of_getElem? (i := 565) (by decide +kernel), List.mem_of_getElem? (i := 787) (by decide +kernel), List.mem_of_getElem? (i := 788) (by decide +kernel)⟩
def lw_privs_1 : List (MethodName × Nat) := [(⟨"RuleGraph", "hasField", "(II)Z"⟩, 6), (⟨"RuleGraph$Groups", "flatten", "(II)Z"⟩, 3), (⟨"RuleGraph$Checker", "check", "(II)I"⟩, 9), (⟨"RuleGraph$Checker", "isOpen", "(II)Z"⟩, 9), (⟨"RuleGraph$Checker", "goThroughStages", "(II)I"⟩, 9), (⟨"RuleGraph$Checker", "goThroughStage", "(II)I"⟩, 9), (⟨"RuleGraph$Checker", "tryRule", "(ILRuleGraph$Rule;I)I"⟩, 9), (⟨"RuleGraph$Checker", "judge", "(ILRuleGraph$Rule;III)I"⟩, 9), (⟨"RuleGraph$Checker", "follow", "(III)I"⟩, 9), (⟨"RuleGraph$Checker", "goOver", "(IIII)I"⟩, 9), (⟨"RuleGraph$Checker", "isGood", "(LRuleGraph$Row;)Z"⟩, 9), (⟨"RuleGraph$Report", "spellStep", "(II)V"⟩, 6), (⟨"RuleGraph$Report", "write", "(C)V"⟩, 6), (⟨"RuleGraphModel", "closure", "(I)I"⟩, 48), (⟨"RuleGraphModel", "has", "(II)Z"⟩, 48), (⟨"RuleGraphModel", "cyclic", "(I)Z"⟩, 48)]
theorem lw_r1 : ∀ q ∈ lw_privs_1, lw_okq q := List.forall_mem_cons.mpr ⟨lw_p0, List.forall_mem_cons.mpr ⟨lw_p1, List.forall_mem_cons.mpr ⟨lw_p2, List.forall_mem_cons.mpr ⟨lw_p3, List.forall_mem_cons.mpr ⟨lw_p4, List.forall_mem_cons.mpr ⟨lw_p5, List.forall_mem_cons.mpr ⟨lw_p6, List.forall_mem_cons.mpr ⟨lw_p7, List.forall_mem_cons.mpr ⟨lw_p8, List.forall_mem_cons.mpr ⟨lw_p9, List.forall_mem_cons.mpr ⟨lw_p10, List.forall_mem_cons.mpr ⟨lw_p11, List.forall_mem_cons.mpr ⟨lw_p12, List.forall_mem_cons.mpr ⟨lw_p13, List.forall_mem_cons.mpr ⟨lw_p14, List.forall_mem_cons.mpr ⟨lw_p15, fun _ h => absurd h List.not_mem_nil⟩⟩⟩⟩⟩⟩⟩⟩⟩⟩⟩⟩⟩⟩⟩⟩
theorem lw_p16 : lw_okq (⟨"RuleGraphModel", "comesUpon", "(II)Z"⟩, 48) := ⟨⟨by decide +kernel, by decide +kernel⟩, List.mem_of_getElem? (i := 565) (by decide +kernel), List.mem_of_getElem? (i := 791) (by decide +kernel), List.mem_of_getElem? (i := 792) (by decide +kernel)⟩
theorem lw_p17 : lw_okq (⟨"RuleGraphModel", "flat", "(I)I"⟩, 48) := ⟨⟨by decide +kernel, by decide +kernel⟩, List.mem_of_getElem? (i := 565) (by decide +kernel), List.mem_of_getElem? (i := 795) (by decide +kernel), List.mem_of_getElem? (i := 796) (by decide +kernel)⟩
theorem lw_p18 : lw_okq (⟨"RuleGraphModel", "check", "(II)I"⟩, 48) := ⟨⟨by decide +kernel, by decide +kernel⟩, List.mem_of_getElem? (i := 565) (by decide +kernel), List.mem_of_getElem? (i := 799) (by decide +kernel), List.mem_of_getElem? (i := 800) (by decide +kernel)⟩
theorem lw_p19 : lw_okq (⟨"RuleGraphModel", "enter", "(II)I"⟩, 48) := ⟨⟨by decide +kernel, by decide +kernel⟩, List.mem_of_getElem? (i := 565) (by decide +kernel), List.mem_of_getElem? (i := 803) (by decide +kernel), List.mem_of_getElem? (i := 804) (by decide +kernel)⟩
theorem lw_p20 : lw_okq (⟨"RuleGraphModel", "good", "(I)Z"⟩, 48) := ⟨⟨by decide +kernel, by decide +kernel⟩, List.mem_of_getElem? (i := 565) (by decide +kernel), List.mem_of_getElem? (i := 807) (by decide +kernel), List.mem_of_getElem? (i := 808) (by decide +kernel)⟩
theorem lw_p21 : lw_okq (⟨"RuleGraphModel", "onwards", "(I)I"⟩, 48) := ⟨⟨by decide +kernel, by decide +kernel⟩, List.mem_of_getElem? (i := 565) (by decide +kernel), List.mem_of_getElem? (i := 812) (by decide +kernel), List.mem_of_getElem? (i := 813) (by decide +kernel)⟩
theorem lw_p22 : lw_okq (⟨"RuleGraphModel", "begin", "(I)I"⟩, 48) := ⟨⟨by decide +kernel, by decide +kernel⟩, List.mem_of_getElem? (i := 565) (by decide +kernel), List.mem_of_getElem? (i := 816) (by decide +kernel), List.mem_of_getElem? (i := 817) (by decide +kernel)⟩
theorem lw_p23 : lw_okq (⟨"RuleGraphModel", "rulesOf", "(III)I"⟩, 48) := ⟨⟨by decide +kernel, by decide +kernel⟩, List.mem_of_getElem? (i := 565) (by decide +kernel), List.mem_of_getElem? (i := 820) (by decide +kernel), List.mem_of_getElem? (i := 821) (by decide +kernel)⟩
theorem lw_p24 : lw_okq (⟨"RuleGraphModel", "fits", "(I)Z"⟩, 48) := ⟨⟨by decide +kernel, by decide +kernel⟩, List.mem_of_getElem? (i := 565) (by decide +kernel), List.mem_of_getElem? (i := 824) (by decide +kernel), List.mem_of_getElem? (i := 825) (by decide +kernel)⟩
theorem lw_p25 : lw_okq (⟨"RuleGraphModel", "looks", "(III)Z"⟩, 48) := ⟨⟨by decide +kernel, by decide +kernel⟩, List.mem_of_getElem? (i := 565) (by decide +kernel), List.mem_of_getElem? (i := 831) (by decide +kernel), List.mem_of_getElem? (i := 832) (by decide +kernel)⟩
theorem lw_p26 : lw_okq (⟨"RuleGraphModel", "keep", "(IIII)Z"⟩, 48) := ⟨⟨by decide +kernel, by decide +kernel⟩, List.mem_of_getElem? (i := 565) (by decide +kernel), List.mem_of_getElem? (i := 838) (by decide +kernel), List.mem_of_getElem? (i := 839) (by decide +kernel)⟩
theorem lw_p27 : lw_okq (⟨"RuleGraphModel", "sayStep", "(II)V"⟩, 48) := ⟨⟨by decide +kernel, by decide +kernel⟩, List.mem_of_getElem? (i := 565) (by decide +kernel), List.mem_of_getElem? (i := 862) (by decide +kernel), List.mem_of_getElem? (i := 863) (by decide +kernel)⟩
theorem lw_p28 : lw_okq (⟨"RuleGraphModel", "say", "(I)V"⟩, 48) := ⟨⟨by decide +kernel, by decide +kernel⟩, List.mem_of_getElem? (i := 565) (by decide +kernel), List.mem_of_getElem? (i := 866) (by decide +kernel), List.mem_of_getElem? (i := 867) (by decide +kernel)⟩
def lw_privs_2 : List (MethodName × Nat) := [(⟨"RuleGraphModel", "comesUpon", "(II)Z"⟩, 48), (⟨"RuleGraphModel", "flat", "(I)I"⟩, 48), (⟨"RuleGraphModel", "check", "(II)I"⟩, 48), (⟨"RuleGraphModel", "enter", "(II)I"⟩, 48), (⟨"RuleGraphModel", "good", "(I)Z"⟩, 48), (⟨"RuleGraphModel", "onwards", "(I)I"⟩, 48), (⟨"RuleGraphModel", "begin", "(I)I"⟩, 48), (⟨"RuleGraphModel", "rulesOf", "(III)I"⟩, 48), (⟨"RuleGraphModel", "fits", "(I)Z"⟩, 48), (⟨"RuleGraphModel", "looks", "(III)Z"⟩, 48), (⟨"RuleGraphModel", "keep", "(IIII)Z"⟩, 48), (⟨"RuleGraphModel", "sayStep", "(II)V"⟩, 48), (⟨"RuleGraphModel", "say", "(I)V"⟩, 48)]
theorem lw_r2 : ∀ q ∈ lw_privs_2, lw_okq q := List.forall_mem_cons.mpr ⟨lw_p16, List.forall_mem_cons.mpr ⟨lw_p17, List.forall_mem_cons.mpr ⟨lw_p18, List.forall_mem_cons.mpr ⟨lw_p19, List.forall_mem_cons.mpr ⟨lw_p20, List.forall_mem_cons.mpr ⟨lw_p21, List.forall_mem_cons.mpr ⟨lw_p22, List.forall_mem_cons.mpr ⟨lw_p23, List.forall_mem_cons.mpr ⟨lw_p24, List.forall_mem_cons.mpr ⟨lw_p25, List.forall_mem_cons.mpr ⟨lw_p26, List.forall_mem_cons.mpr ⟨lw_p27, List.forall_mem_cons.mpr ⟨lw_p28, fun _ h => absurd h List.not_mem_nil⟩⟩⟩⟩⟩⟩⟩⟩⟩⟩⟩⟩⟩
def lw_privs : List (MethodName × Nat) := lw_privs_1 ++ (lw_privs_2)
def lw_tbl : List Cond := k2_sels lw_privs ++ tables_1
theorem lw_privs_ok : ∀ q ∈ lw_privs, lw_okq q := by
  show ∀ q ∈ lw_privs_1 ++ (lw_privs_2), lw_okq q
  exact List.forall_mem_append.mpr ⟨lw_r1, lw_r2⟩
end
section
/-! the classes, the arrays and the methods, as rows (by program: wip/whole/gen/tables.py) -/
abbrev iv_I : Type := (Nat × Nat) × Instr × Nat × Nat × Nat
def cl_0 : u_T := fun k => (([("RuleGraph", "shape", "LRuleGraph$Shape;", true), ("RuleGraph", "rulebook", "LRuleGraph$Rulebook;", true), ("RuleGraph", "groups", "LRuleGraph$Groups;", true), ("RuleGraph", "store", "LRuleGraph$Store;", true), ("RuleGraph", "report", "LRuleGraph$Report;", true), ("RuleGraph", "checker", "LRuleGraph$Checker;", true)] : List (String × String × String × Bool)).getD k ("", "", "", false))
def cl_1 : u_T := fun k => (([("RuleGraphModel", "types", "I", false), ("RuleGraphModel", "parent", "[I", false), ("RuleGraphModel", "fields", "I", false), ("RuleGraphModel", "owner", "[I", false), ("RuleGraphModel", "sort", "[I", false), ("RuleGraphModel", "cascades", "[Z", false), ("RuleGraphModel", "turns", "[I", false), ("RuleGraphModel", "rules", "I", false), ("RuleGraphModel", "ruleField", "[I", false), ("RuleGraphModel", "ruleElement", "[Z", false), ("RuleGraphModel", "ruleKind", "[I", false), ("RuleGraphModel", "ruleA", "[I", false), ("RuleGraphModel", "ruleB", "[I", false), ("RuleGraphModel", "ruleGroups", "[I", false), ("RuleGraphModel", "parts", "[I", false), ("RuleGraphModel", "partKind", "[I", false), ("RuleGraphModel", "partA", "[I", false), ("RuleGraphModel", "partB", "[I", false), ("RuleGraphModel", "alone", "[Z", false), ("RuleGraphModel", "extended", "[I", false), ("RuleGraphModel", "members", "[I", false), ("RuleGraphModel", "member", "[I", false), ("RuleGraphModel", "entries", "[I", false), ("RuleGraphModel", "entry", "[I", false), ("RuleGraphModel", "objects", "I", false), ("RuleGraphModel", "type", "[I", false), ("RuleGraphModel", "value", "[I", false), ("RuleGraphModel", "element", "[I", false), ("RuleGraphModel", "depth", "I", false), ("RuleGraphModel", "who", "[I", false), ("RuleGraphModel", "group", "[I", false), ("RuleGraphModel", "stage", "[I", false), ("RuleGraphModel", "stageGroup", "[I", false), ("RuleGraphModel", "onward", "[Z", false), ("RuleGraphModel", "nextField", "[I", false), ("RuleGraphModel", "nextPlace", "[I", false), ("RuleGraphModel", "before", "[I", false), ("RuleGraphModel", "trailField", "[I", false), ("RuleGraphModel", "trailPlace", "[I", false), ("RuleGraphModel", "visits", "I", false), ("RuleGraphModel", "row", "[I", false), ("RuleGraphModel", "count", "I", false), ("RuleGraphModel", "told", "[I", false), ("RuleGraphModel", "steps", "[I", false), ("RuleGraphModel", "wayField", "[I", false), ("RuleGraphModel", "wayPlace", "[I", false), ("RuleGraphModel", "text", "[I", false), ("RuleGraphModel", "size", "I", false)] : List (String × String × String × Bool)).getD k ("", "", "", false))
def cl_2 : u_T := fun k => (([("RuleGraph$Checker", "shape", "LRuleGraph$Shape;", true), ("RuleGraph$Checker", "rulebook", "LRuleGraph$Rulebook;", true), ("RuleGraph$Checker", "groups", "LRuleGraph$Groups;", true), ("RuleGraph$Checker", "store", "LRuleGraph$Store;", true), ("RuleGraph$Checker", "report", "LRuleGraph$Report;", true), ("RuleGraph$Checker", "openObjects", "[I", true), ("RuleGraph$Checker", "openGroups", "[I", true), ("RuleGraph$Checker", "openCount", "I", false), ("RuleGraph$Checker", "visitCount", "I", false)] : List (String × String × String × Bool)).getD k ("", "", "", false))
def cl_3 : u_T := fun k => (([("RuleGraph$Composition", "parts", "[LRuleGraph$Demand;", true), ("RuleGraph$Composition", "size", "I", false), ("RuleGraph$Composition", "isSingle", "Z", false)] : List (String × String × String × Bool)).getD k ("", "", "", false))
def cl_4 : u_T := fun k => (([("RuleGraph$Demand", "kind", "I", true), ("RuleGraph$Demand", "a", "I", true), ("RuleGraph$Demand", "b", "I", true)] : List (String × String × String × Bool)).getD k ("", "", "", false))
def cl_5 : u_T := fun k => (([("RuleGraph$Groups", "closures", "[I", true), ("RuleGraph$Groups", "sequences", "[LRuleGraph$Row;", true), ("RuleGraph$Groups", "flat", "LRuleGraph$Row;", true)] : List (String × String × String × Bool)).getD k ("", "", "", false))
def cl_6 : u_T := fun k => (([("RuleGraph$Report", "count", "I", false), ("RuleGraph$Report", "facts", "[[I", true), ("RuleGraph$Report", "ways", "[LRuleGraph$Row;", true), ("RuleGraph$Report", "trail", "LRuleGraph$Row;", true), ("RuleGraph$Report", "text", "[C", true), ("RuleGraph$Report", "textLength", "I", false)] : List (String × String × String × Bool)).getD k ("", "", "", false))
def cl_7 : u_T := fun k => (([("RuleGraph$Row", "items", "[I", true), ("RuleGraph$Row", "size", "I", false)] : List (String × String × String × Bool)).getD k ("", "", "", false))
def cl_8 : u_T := fun k => (([("RuleGraph$Rule", "field", "I", true), ("RuleGraph$Rule", "element", "Z", true), ("RuleGraph$Rule", "demands", "LRuleGraph$Composition;", true), ("RuleGraph$Rule", "groups", "I", true)] : List (String × String × String × Bool)).getD k ("", "", "", false))
def cl_9 : u_T := fun k => (([("RuleGraph$Rulebook", "rules", "[LRuleGraph$Rule;", true), ("RuleGraph$Rulebook", "ruleCount", "I", false), ("RuleGraph$Rulebook", "compositions", "[LRuleGraph$Composition;", true)] : List (String × String × String × Bool)).getD k ("", "", "", false))
def cl_10 : u_T := fun k => (([("RuleGraph$Shape", "classCount", "I", false), ("RuleGraph$Shape", "lines", "[I", true), ("RuleGraph$Shape", "orders", "[LRuleGraph$Row;", true), ("RuleGraph$Shape", "fieldCount", "I", false), ("RuleGraph$Shape", "owners", "[I", true), ("RuleGraph$Shape", "kinds", "[I", true), ("RuleGraph$Shape", "cascaded", "[Z", true), ("RuleGraph$Shape", "conversions", "[[I", true)] : List (String × String × String × Bool)).getD k ("", "", "", false))
def cl_11 : u_T := fun k => (([("RuleGraph$Store", "objectCount", "I", false), ("RuleGraph$Store", "classes", "[I", true), ("RuleGraph$Store", "values", "[[I", true), ("RuleGraph$Store", "elements", "[[I", true)] : List (String × String × String × Bool)).getD k ("", "", "", false))
def iv_cl : List vw_C := [("RuleGraph", cl_0, 6), ("RuleGraphModel", cl_1, 48), ("RuleGraph$Checker", cl_2, 9), ("RuleGraph$Composition", cl_3, 3), ("RuleGraph$Demand", cl_4, 3), ("RuleGraph$Groups", cl_5, 3), ("RuleGraph$Report", cl_6, 6), ("RuleGraph$Row", cl_7, 2), ("RuleGraph$Rule", cl_8, 4), ("RuleGraph$Rulebook", cl_9, 3), ("RuleGraph$Shape", cl_10, 8), ("RuleGraph$Store", cl_11, 4)]
def iv_ftl : List (List FieldType) := [[(.object "RuleGraph$Shape"), (.object "RuleGraph$Rulebook"), (.object "RuleGraph$Groups"), (.object "RuleGraph$Store"), (.object "RuleGraph$Report"), (.object "RuleGraph$Checker")], [.int, (.array .int), .int, (.array .int), (.array .int), (.array .boolean), (.array .int), .int, (.array .int), (.array .boolean), (.array .int), (.array .int), (.array .int), (.array .int), (.array .int), (.array .int), (.array .int), (.array .int), (.array .boolean), (.array .int), (.array .int), (.array .int), (.array .int), (.array .int), .int, (.array .int), (.array .int), (.array .int), .int, (.array .int), (.array .int), (.array .int), (.array .int), (.array .boolean), (.array .int), (.array .int), (.array .int), (.array .int), (.array .int), .int, (.array .int), .int, (.array .int), (.array .int), (.array .int), (.array .int), (.array .int), .int], [(.object "RuleGraph$Shape"), (.object "RuleGraph$Rulebook"), (.object "RuleGraph$Groups"), (.object "RuleGraph$Store"), (.object "RuleGraph$Report"), (.array .int), (.array .int), .int, .int], [(.array (.object "RuleGraph$Demand")), .int, .boolean], [.int, .int, .int], [(.array .int), (.array (.object "RuleGraph$Row")), (.object "RuleGraph$Row")], [.int, (.array (.array .int)), (.array (.object "RuleGraph$Row")), (.object "RuleGraph$Row"), (.array .char), .int], [(.array .int), .int], [.int, .boolean, (.object "RuleGraph$Composition"), .int], [(.array (.object "RuleGraph$Rule")), .int, (.array (.object "RuleGraph$Composition"))], [.int, (.array .int), (.array (.object "RuleGraph$Row")), .int, (.array .int), (.array .int), (.array .boolean), (.array (.array .int))], [.int, (.array .int), (.array (.array .int)), (.array (.array .int))]]
def iv_ft (i k : Nat) : FieldType := (iv_ftl.getD i []).getD k .int
def iv_dfl : List (List Value) := [[.null, .null, .null, .null, .null, .null], [.int 0, .null, .int 0, .null, .null, .null, .null, .int 0, .null, .null, .null, .null, .null, .null, .null, .null, .null, .null, .null, .null, .null, .null, .null, .null, .int 0, .null, .null, .null, .int 0, .null, .null, .null, .null, .null, .null, .null, .null, .null, .null, .int 0, .null, .int 0, .null, .null, .null, .null, .null, .int 0], [.null, .null, .null, .null, .null, .null, .null, .int 0, .int 0], [.null, .int 0, .int 0], [.int 0, .int 0, .int 0], [.null, .null, .null], [.int 0, .null, .null, .null, .null, .int 0], [.null, .int 0], [.int 0, .int 0, .null, .int 0], [.null, .int 0, .null], [.int 0, .null, .null, .int 0, .null, .null, .null, .null], [.int 0, .null, .null, .null]]
def iv_df (i : Nat) : Option (List Value) := iv_dfl[i]?
def iv_ar (t : Nat) : Option FieldType := match t with
  | 100 => some .int
  | 101 => some .boolean
  | 102 => some .char
  | 103 => some (.array .int)
  | 104 => some (.object "RuleGraph$Composition")
  | 105 => some (.object "RuleGraph$Demand")
  | 106 => some (.object "RuleGraph$Row")
  | 107 => some (.object "RuleGraph$Rule")
  | 150 => some .int
  | _ => none
def iv_ac (t : Nat) : Option Nat := match t with
  | 104 => some 3
  | 105 => some 4
  | 106 => some 7
  | 107 => some 8
  | _ => none
/-- 1: RuleGraphLaw.law([I)Z -/
def mc_1 : List iv_I := [
  (((0, 3), .new 7, 0, 0, 42) : iv_I),
  (((3, 1), .dup, 0, 0, 0) : iv_I),
  (((4, 3), .invokespecial 9, 2, 1, 44) : iv_I),
  (((7, 1), .astore_n 1, 0, 0, 0) : iv_I),
  (((8, 3), .new 10, 1, 0, 593) : iv_I),
  (((11, 1), .dup, 0, 0, 0) : iv_I),
  (((12, 3), .invokespecial 12, 24, 1, 595) : iv_I),
  (((15, 1), .astore_n 2, 0, 0, 0) : iv_I),
  (((16, 1), .iconst 0, 0, 0, 0) : iv_I),
  (((17, 1), .istore_n 3, 0, 0, 0) : iv_I),
  (((18, 1), .iload_n 3, 0, 0, 0) : iv_I),
  (((19, 1), .aload_n 0, 0, 0, 0) : iv_I),
  (((20, 1), .arraylength, 0, 0, 0) : iv_I),
  (((21, 2), .bipush 7, 0, 0, 0) : iv_I),
  (((23, 1), .isub, 0, 0, 0) : iv_I),
  (((24, 3), .if_icmp .gt 860, 628, 0, 0) : iv_I),
  (((27, 1), .aload_n 0, 0, 0, 0) : iv_I),
  (((28, 1), .iload_n 3, 0, 0, 0) : iv_I),
  (((29, 1), .iaload, 0, 0, 0) : iv_I),
  (((30, 2), .bipush 31, 0, 0, 0) : iv_I),
  (((32, 1), .iand, 0, 0, 0) : iv_I),
  (((33, 95), .tableswitch 845 0 19 #[95, 118, 151, 242, 295, 344, 377, 410, 443, 466, 509, 532, 575, 618, 677, 710, 753, 766, 779, 812], 0, 0, 0) : iv_I),
  (((128, 1), .aload_n 1, 0, 0, 0) : iv_I),
  (((129, 1), .aload_n 0, 0, 0, 0) : iv_I),
  (((130, 1), .iload_n 3, 0, 0, 0) : iv_I),
  (((131, 1), .iconst 1, 0, 0, 0) : iv_I),
  (((132, 1), .iadd, 0, 0, 0) : iv_I),
  (((133, 1), .iaload, 0, 0, 0) : iv_I),
  (((134, 3), .invokevirtual 13, 3, 2, 295) : iv_I),
  (((137, 1), .aload_n 2, 0, 0, 0) : iv_I),
  (((138, 1), .aload_n 0, 0, 0, 0) : iv_I),
  (((139, 1), .iload_n 3, 0, 0, 0) : iv_I),
  (((140, 1), .iconst 1, 0, 0, 0) : iv_I),
  (((141, 1), .iadd, 0, 0, 0) : iv_I),
  (((142, 1), .iaload, 0, 0, 0) : iv_I),
  (((143, 3), .invokevirtual 17, 26, 2, 744) : iv_I),
  (((146, 3), .if_icmp .eq 732, 626, 0, 0) : iv_I),
  (((149, 1), .iconst 0, 0, 0, 0) : iv_I),
  (((150, 1), .ireturn, 0, 0, 0) : iv_I),
  (((151, 1), .aload_n 1, 0, 0, 0) : iv_I),
  (((152, 1), .aload_n 0, 0, 0, 0) : iv_I),
  (((153, 1), .iload_n 3, 0, 0, 0) : iv_I),
  (((154, 1), .iconst 1, 0, 0, 0) : iv_I),
  (((155, 1), .iadd, 0, 0, 0) : iv_I),
  (((156, 1), .iaload, 0, 0, 0) : iv_I),
  (((157, 1), .aload_n 0, 0, 0, 0) : iv_I),
  (((158, 1), .iload_n 3, 0, 0, 0) : iv_I),
  (((159, 1), .iconst 2, 0, 0, 0) : iv_I),
  (((160, 1), .iadd, 0, 0, 0) : iv_I),
  (((161, 1), .iaload, 0, 0, 0) : iv_I),
  (((162, 3), .invokevirtual 18, 4, 3, 307) : iv_I),
  (((165, 1), .aload_n 2, 0, 0, 0) : iv_I),
  (((166, 1), .aload_n 0, 0, 0, 0) : iv_I),
  (((167, 1), .iload_n 3, 0, 0, 0) : iv_I),
  (((168, 1), .iconst 1, 0, 0, 0) : iv_I),
  (((169, 1), .iadd, 0, 0, 0) : iv_I),
  (((170, 1), .iaload, 0, 0, 0) : iv_I),
  (((171, 1), .aload_n 0, 0, 0, 0) : iv_I),
  (((172, 1), .iload_n 3, 0, 0, 0) : iv_I),
  (((173, 1), .iconst 2, 0, 0, 0) : iv_I),
  (((174, 1), .iadd, 0, 0, 0) : iv_I),
  (((175, 1), .iaload, 0, 0, 0) : iv_I),
  (((176, 3), .invokevirtual 22, 27, 3, 751) : iv_I),
  (((179, 3), .if_icmp .eq 699, 626, 0, 0) : iv_I),
  (((182, 1), .iconst 0, 0, 0, 0) : iv_I),
  (((183, 1), .ireturn, 0, 0, 0) : iv_I),
  (((184, 1), .aload_n 1, 0, 0, 0) : iv_I),
  (((185, 1), .aload_n 0, 0, 0, 0) : iv_I),
  (((186, 1), .iload_n 3, 0, 0, 0) : iv_I),
  (((187, 1), .iconst 1, 0, 0, 0) : iv_I),
  (((188, 1), .iadd, 0, 0, 0) : iv_I),
  (((189, 1), .iaload, 0, 0, 0) : iv_I),
  (((190, 1), .aload_n 0, 0, 0, 0) : iv_I),
  (((191, 1), .iload_n 3, 0, 0, 0) : iv_I),
  (((192, 1), .iconst 2, 0, 0, 0) : iv_I),
  (((193, 1), .iadd, 0, 0, 0) : iv_I),
  (((194, 1), .iaload, 0, 0, 0) : iv_I),
  (((195, 3), .ifCond .eq 7, 80, 0, 0) : iv_I),
  (((198, 1), .iconst 1, 0, 0, 0) : iv_I),
  (((199, 3), .goto 4, 81, 0, 0) : iv_I),
  (((202, 1), .iconst 0, 0, 0, 0) : iv_I),
  (((203, 1), .aload_n 0, 0, 0, 0) : iv_I),
  (((204, 1), .iload_n 3, 0, 0, 0) : iv_I),
  (((205, 1), .iconst 3, 0, 0, 0) : iv_I),
  (((206, 1), .iadd, 0, 0, 0) : iv_I),
  (((207, 1), .iaload, 0, 0, 0) : iv_I),
  (((208, 1), .aload_n 0, 0, 0, 0) : iv_I),
  (((209, 1), .iload_n 3, 0, 0, 0) : iv_I),
  (((210, 1), .iconst 4, 0, 0, 0) : iv_I),
  (((211, 1), .iadd, 0, 0, 0) : iv_I),
  (((212, 1), .iaload, 0, 0, 0) : iv_I),
  (((213, 1), .aload_n 0, 0, 0, 0) : iv_I),
  (((214, 1), .iload_n 3, 0, 0, 0) : iv_I),
  (((215, 1), .iconst 5, 0, 0, 0) : iv_I),
  (((216, 1), .iadd, 0, 0, 0) : iv_I),
  (((217, 1), .iaload, 0, 0, 0) : iv_I),
  (((218, 1), .aload_n 0, 0, 0, 0) : iv_I),
  (((219, 1), .iload_n 3, 0, 0, 0) : iv_I),
  (((220, 2), .bipush 6, 0, 0, 0) : iv_I),
  (((222, 1), .iadd, 0, 0, 0) : iv_I),
  (((223, 1), .iaload, 0, 0, 0) : iv_I),
  (((224, 3), .invokevirtual 23, 5, 7, 319) : iv_I),
  (((227, 1), .aload_n 2, 0, 0, 0) : iv_I),
  (((228, 1), .aload_n 0, 0, 0, 0) : iv_I),
  (((229, 1), .iload_n 3, 0, 0, 0) : iv_I),
  (((230, 1), .iconst 1, 0, 0, 0) : iv_I),
  (((231, 1), .iadd, 0, 0, 0) : iv_I),
  (((232, 1), .iaload, 0, 0, 0) : iv_I),
  (((233, 1), .aload_n 0, 0, 0, 0) : iv_I),
  (((234, 1), .iload_n 3, 0, 0, 0) : iv_I),
  (((235, 1), .iconst 2, 0, 0, 0) : iv_I),
  (((236, 1), .iadd, 0, 0, 0) : iv_I),
  (((237, 1), .iaload, 0, 0, 0) : iv_I),
  (((238, 3), .ifCond .eq 7, 116, 0, 0) : iv_I),
  (((241, 1), .iconst 1, 0, 0, 0) : iv_I),
  (((242, 3), .goto 4, 117, 0, 0) : iv_I),
  (((245, 1), .iconst 0, 0, 0, 0) : iv_I),
  (((246, 1), .aload_n 0, 0, 0, 0) : iv_I),
  (((247, 1), .iload_n 3, 0, 0, 0) : iv_I),
  (((248, 1), .iconst 3, 0, 0, 0) : iv_I),
  (((249, 1), .iadd, 0, 0, 0) : iv_I),
  (((250, 1), .iaload, 0, 0, 0) : iv_I),
  (((251, 1), .aload_n 0, 0, 0, 0) : iv_I),
  (((252, 1), .iload_n 3, 0, 0, 0) : iv_I),
  (((253, 1), .iconst 4, 0, 0, 0) : iv_I),
  (((254, 1), .iadd, 0, 0, 0) : iv_I),
  (((255, 1), .iaload, 0, 0, 0) : iv_I),
  (((256, 1), .aload_n 0, 0, 0, 0) : iv_I),
  (((257, 1), .iload_n 3, 0, 0, 0) : iv_I),
  (((258, 1), .iconst 5, 0, 0, 0) : iv_I),
  (((259, 1), .iadd, 0, 0, 0) : iv_I),
  (((260, 1), .iaload, 0, 0, 0) : iv_I),
  (((261, 1), .aload_n 0, 0, 0, 0) : iv_I),
  (((262, 1), .iload_n 3, 0, 0, 0) : iv_I),
  (((263, 2), .bipush 6, 0, 0, 0) : iv_I),
  (((265, 1), .iadd, 0, 0, 0) : iv_I),
  (((266, 1), .iaload, 0, 0, 0) : iv_I),
  (((267, 3), .invokevirtual 27, 28, 7, 755) : iv_I),
  (((270, 3), .if_icmp .eq 608, 626, 0, 0) : iv_I),
  (((273, 1), .iconst 0, 0, 0, 0) : iv_I),
  (((274, 1), .ireturn, 0, 0, 0) : iv_I),
  (((275, 1), .aload_n 1, 0, 0, 0) : iv_I),
  (((276, 1), .aload_n 0, 0, 0, 0) : iv_I),
  (((277, 1), .iload_n 3, 0, 0, 0) : iv_I),
  (((278, 1), .iconst 1, 0, 0, 0) : iv_I),
  (((279, 1), .iadd, 0, 0, 0) : iv_I),
  (((280, 1), .iaload, 0, 0, 0) : iv_I),
  (((281, 1), .aload_n 0, 0, 0, 0) : iv_I),
  (((282, 1), .iload_n 3, 0, 0, 0) : iv_I),
  (((283, 1), .iconst 2, 0, 0, 0) : iv_I),
  (((284, 1), .iadd, 0, 0, 0) : iv_I),
  (((285, 1), .iaload, 0, 0, 0) : iv_I),
  (((286, 1), .aload_n 0, 0, 0, 0) : iv_I),
  (((287, 1), .iload_n 3, 0, 0, 0) : iv_I),
  (((288, 1), .iconst 3, 0, 0, 0) : iv_I),
  (((289, 1), .iadd, 0, 0, 0) : iv_I),
  (((290, 1), .iaload, 0, 0, 0) : iv_I),
  (((291, 1), .aload_n 0, 0, 0, 0) : iv_I),
  (((292, 1), .iload_n 3, 0, 0, 0) : iv_I),
  (((293, 1), .iconst 4, 0, 0, 0) : iv_I),
  (((294, 1), .iadd, 0, 0, 0) : iv_I),
  (((295, 1), .iaload, 0, 0, 0) : iv_I),
  (((296, 3), .invokevirtual 28, 6, 5, 380) : iv_I),
  (((299, 1), .aload_n 2, 0, 0, 0) : iv_I),
  (((300, 1), .aload_n 0, 0, 0, 0) : iv_I),
  (((301, 1), .iload_n 3, 0, 0, 0) : iv_I),
  (((302, 1), .iconst 1, 0, 0, 0) : iv_I),
  (((303, 1), .iadd, 0, 0, 0) : iv_I),
  (((304, 1), .iaload, 0, 0, 0) : iv_I),
  (((305, 1), .aload_n 0, 0, 0, 0) : iv_I),
  (((306, 1), .iload_n 3, 0, 0, 0) : iv_I),
  (((307, 1), .iconst 2, 0, 0, 0) : iv_I),
  (((308, 1), .iadd, 0, 0, 0) : iv_I),
  (((309, 1), .iaload, 0, 0, 0) : iv_I),
  (((310, 1), .aload_n 0, 0, 0, 0) : iv_I),
  (((311, 1), .iload_n 3, 0, 0, 0) : iv_I),
  (((312, 1), .iconst 3, 0, 0, 0) : iv_I),
  (((313, 1), .iadd, 0, 0, 0) : iv_I),
  (((314, 1), .iaload, 0, 0, 0) : iv_I),
  (((315, 1), .aload_n 0, 0, 0, 0) : iv_I),
  (((316, 1), .iload_n 3, 0, 0, 0) : iv_I),
  (((317, 1), .iconst 4, 0, 0, 0) : iv_I),
  (((318, 1), .iadd, 0, 0, 0) : iv_I),
  (((319, 1), .iaload, 0, 0, 0) : iv_I),
  (((320, 3), .invokevirtual 32, 29, 5, 759) : iv_I),
  (((323, 3), .if_icmp .eq 555, 626, 0, 0) : iv_I),
  (((326, 1), .iconst 0, 0, 0, 0) : iv_I),
  (((327, 1), .ireturn, 0, 0, 0) : iv_I),
  (((328, 1), .aload_n 1, 0, 0, 0) : iv_I),
  (((329, 1), .aload_n 0, 0, 0, 0) : iv_I),
  (((330, 1), .iload_n 3, 0, 0, 0) : iv_I),
  (((331, 1), .iconst 1, 0, 0, 0) : iv_I),
  (((332, 1), .iadd, 0, 0, 0) : iv_I),
  (((333, 1), .iaload, 0, 0, 0) : iv_I),
  (((334, 1), .aload_n 0, 0, 0, 0) : iv_I),
  (((335, 1), .iload_n 3, 0, 0, 0) : iv_I),
  (((336, 1), .iconst 2, 0, 0, 0) : iv_I),
  (((337, 1), .iadd, 0, 0, 0) : iv_I),
  (((338, 1), .iaload, 0, 0, 0) : iv_I),
  (((339, 3), .ifCond .eq 7, 202, 0, 0) : iv_I),
  (((342, 1), .iconst 1, 0, 0, 0) : iv_I),
  (((343, 3), .goto 4, 203, 0, 0) : iv_I),
  (((346, 1), .iconst 0, 0, 0, 0) : iv_I),
  (((347, 3), .invokevirtual 33, 7, 3, 385) : iv_I),
  (((350, 1), .aload_n 2, 0, 0, 0) : iv_I),
  (((351, 1), .aload_n 0, 0, 0, 0) : iv_I),
  (((352, 1), .iload_n 3, 0, 0, 0) : iv_I),
  (((353, 1), .iconst 1, 0, 0, 0) : iv_I),
  (((354, 1), .iadd, 0, 0, 0) : iv_I),
  (((355, 1), .iaload, 0, 0, 0) : iv_I),
  (((356, 1), .aload_n 0, 0, 0, 0) : iv_I),
  (((357, 1), .iload_n 3, 0, 0, 0) : iv_I),
  (((358, 1), .iconst 2, 0, 0, 0) : iv_I),
  (((359, 1), .iadd, 0, 0, 0) : iv_I),
  (((360, 1), .iaload, 0, 0, 0) : iv_I),
  (((361, 3), .ifCond .eq 7, 218, 0, 0) : iv_I),
  (((364, 1), .iconst 1, 0, 0, 0) : iv_I),
  (((365, 3), .goto 4, 219, 0, 0) : iv_I),
  (((368, 1), .iconst 0, 0, 0, 0) : iv_I),
  (((369, 3), .invokevirtual 37, 30, 3, 763) : iv_I),
  (((372, 3), .if_icmp .eq 506, 626, 0, 0) : iv_I),
  (((375, 1), .iconst 0, 0, 0, 0) : iv_I),
  (((376, 1), .ireturn, 0, 0, 0) : iv_I),
  (((377, 1), .aload_n 1, 0, 0, 0) : iv_I),
  (((378, 1), .aload_n 0, 0, 0, 0) : iv_I),
  (((379, 1), .iload_n 3, 0, 0, 0) : iv_I),
  (((380, 1), .iconst 1, 0, 0, 0) : iv_I),
  (((381, 1), .iadd, 0, 0, 0) : iv_I),
  (((382, 1), .iaload, 0, 0, 0) : iv_I),
  (((383, 1), .aload_n 0, 0, 0, 0) : iv_I),
  (((384, 1), .iload_n 3, 0, 0, 0) : iv_I),
  (((385, 1), .iconst 2, 0, 0, 0) : iv_I),
  (((386, 1), .iadd, 0, 0, 0) : iv_I),
  (((387, 1), .iaload, 0, 0, 0) : iv_I),
  (((388, 3), .invokevirtual 38, 8, 3, 389) : iv_I),
  (((391, 1), .aload_n 2, 0, 0, 0) : iv_I),
  (((392, 1), .aload_n 0, 0, 0, 0) : iv_I),
  (((393, 1), .iload_n 3, 0, 0, 0) : iv_I),
  (((394, 1), .iconst 1, 0, 0, 0) : iv_I),
  (((395, 1), .iadd, 0, 0, 0) : iv_I),
  (((396, 1), .iaload, 0, 0, 0) : iv_I),
  (((397, 1), .aload_n 0, 0, 0, 0) : iv_I),
  (((398, 1), .iload_n 3, 0, 0, 0) : iv_I),
  (((399, 1), .iconst 2, 0, 0, 0) : iv_I),
  (((400, 1), .iadd, 0, 0, 0) : iv_I),
  (((401, 1), .iaload, 0, 0, 0) : iv_I),
  (((402, 3), .invokevirtual 42, 32, 3, 767) : iv_I),
  (((405, 3), .if_icmp .eq 473, 626, 0, 0) : iv_I),
  (((408, 1), .iconst 0, 0, 0, 0) : iv_I),
  (((409, 1), .ireturn, 0, 0, 0) : iv_I),
  (((410, 1), .aload_n 1, 0, 0, 0) : iv_I),
  (((411, 1), .aload_n 0, 0, 0, 0) : iv_I),
  (((412, 1), .iload_n 3, 0, 0, 0) : iv_I),
  (((413, 1), .iconst 1, 0, 0, 0) : iv_I),
  (((414, 1), .iadd, 0, 0, 0) : iv_I),
  (((415, 1), .iaload, 0, 0, 0) : iv_I),
  (((416, 1), .aload_n 0, 0, 0, 0) : iv_I),
  (((417, 1), .iload_n 3, 0, 0, 0) : iv_I),
  (((418, 1), .iconst 2, 0, 0, 0) : iv_I),
  (((419, 1), .iadd, 0, 0, 0) : iv_I),
  (((420, 1), .iaload, 0, 0, 0) : iv_I),
  (((421, 3), .invokevirtual 43, 9, 3, 406) : iv_I),
  (((424, 1), .aload_n 2, 0, 0, 0) : iv_I),
  (((425, 1), .aload_n 0, 0, 0, 0) : iv_I),
  (((426, 1), .iload_n 3, 0, 0, 0) : iv_I),
  (((427, 1), .iconst 1, 0, 0, 0) : iv_I),
  (((428, 1), .iadd, 0, 0, 0) : iv_I),
  (((429, 1), .iaload, 0, 0, 0) : iv_I),
  (((430, 1), .aload_n 0, 0, 0, 0) : iv_I),
  (((431, 1), .iload_n 3, 0, 0, 0) : iv_I),
  (((432, 1), .iconst 2, 0, 0, 0) : iv_I),
  (((433, 1), .iadd, 0, 0, 0) : iv_I),
  (((434, 1), .iaload, 0, 0, 0) : iv_I),
  (((435, 3), .invokevirtual 46, 33, 3, 775) : iv_I),
  (((438, 3), .if_icmp .eq 440, 626, 0, 0) : iv_I),
  (((441, 1), .iconst 0, 0, 0, 0) : iv_I),
  (((442, 1), .ireturn, 0, 0, 0) : iv_I),
  (((443, 1), .aload_n 1, 0, 0, 0) : iv_I),
  (((444, 1), .aload_n 0, 0, 0, 0) : iv_I),
  (((445, 1), .iload_n 3, 0, 0, 0) : iv_I),
  (((446, 1), .iconst 1, 0, 0, 0) : iv_I),
  (((447, 1), .iadd, 0, 0, 0) : iv_I),
  (((448, 1), .iaload, 0, 0, 0) : iv_I),
  (((449, 1), .aload_n 0, 0, 0, 0) : iv_I),
  (((450, 1), .iload_n 3, 0, 0, 0) : iv_I),
  (((451, 1), .iconst 2, 0, 0, 0) : iv_I),
  (((452, 1), .iadd, 0, 0, 0) : iv_I),
  (((453, 1), .iaload, 0, 0, 0) : iv_I),
  (((454, 3), .invokevirtual 47, 10, 3, 418) : iv_I),
  (((457, 1), .aload_n 2, 0, 0, 0) : iv_I),
  (((458, 1), .aload_n 0, 0, 0, 0) : iv_I),
  (((459, 1), .iload_n 3, 0, 0, 0) : iv_I),
  (((460, 1), .iconst 1, 0, 0, 0) : iv_I),
  (((461, 1), .iadd, 0, 0, 0) : iv_I),
  (((462, 1), .iaload, 0, 0, 0) : iv_I),
  (((463, 1), .aload_n 0, 0, 0, 0) : iv_I),
  (((464, 1), .iload_n 3, 0, 0, 0) : iv_I),
  (((465, 1), .iconst 2, 0, 0, 0) : iv_I),
  (((466, 1), .iadd, 0, 0, 0) : iv_I),
  (((467, 1), .iaload, 0, 0, 0) : iv_I),
  (((468, 3), .invokevirtual 50, 34, 3, 779) : iv_I),
  (((471, 3), .if_icmp .eq 407, 626, 0, 0) : iv_I),
  (((474, 1), .iconst 0, 0, 0, 0) : iv_I),
  (((475, 1), .ireturn, 0, 0, 0) : iv_I),
  (((476, 1), .aload_n 1, 0, 0, 0) : iv_I),
  (((477, 1), .aload_n 0, 0, 0, 0) : iv_I),
  (((478, 1), .iload_n 3, 0, 0, 0) : iv_I),
  (((479, 1), .iconst 1, 0, 0, 0) : iv_I),
  (((480, 1), .iadd, 0, 0, 0) : iv_I),
  (((481, 1), .iaload, 0, 0, 0) : iv_I),
  (((482, 3), .invokevirtual 51, 11, 2, 422) : iv_I),
  (((485, 1), .aload_n 2, 0, 0, 0) : iv_I),
  (((486, 1), .aload_n 0, 0, 0, 0) : iv_I),
  (((487, 1), .iload_n 3, 0, 0, 0) : iv_I),
  (((488, 1), .iconst 1, 0, 0, 0) : iv_I),
  (((489, 1), .iadd, 0, 0, 0) : iv_I),
  (((490, 1), .iaload, 0, 0, 0) : iv_I),
  (((491, 3), .invokevirtual 55, 35, 2, 783) : iv_I),
  (((494, 3), .if_icmp .eq 384, 626, 0, 0) : iv_I),
  (((497, 1), .iconst 0, 0, 0, 0) : iv_I),
  (((498, 1), .ireturn, 0, 0, 0) : iv_I),
  (((499, 1), .aload_n 1, 0, 0, 0) : iv_I),
  (((500, 1), .aload_n 0, 0, 0, 0) : iv_I),
  (((501, 1), .iload_n 3, 0, 0, 0) : iv_I),
  (((502, 1), .iconst 1, 0, 0, 0) : iv_I),
  (((503, 1), .iadd, 0, 0, 0) : iv_I),
  (((504, 1), .iaload, 0, 0, 0) : iv_I),
  (((505, 1), .aload_n 0, 0, 0, 0) : iv_I),
  (((506, 1), .iload_n 3, 0, 0, 0) : iv_I),
  (((507, 1), .iconst 2, 0, 0, 0) : iv_I),
  (((508, 1), .iadd, 0, 0, 0) : iv_I),
  (((509, 1), .iaload, 0, 0, 0) : iv_I),
  (((510, 1), .aload_n 0, 0, 0, 0) : iv_I),
  (((511, 1), .iload_n 3, 0, 0, 0) : iv_I),
  (((512, 1), .iconst 3, 0, 0, 0) : iv_I),
  (((513, 1), .iadd, 0, 0, 0) : iv_I),
  (((514, 1), .iaload, 0, 0, 0) : iv_I),
  (((515, 3), .invokevirtual 56, 12, 4, 430) : iv_I),
  (((518, 1), .aload_n 2, 0, 0, 0) : iv_I),
  (((519, 1), .aload_n 0, 0, 0, 0) : iv_I),
  (((520, 1), .iload_n 3, 0, 0, 0) : iv_I),
  (((521, 1), .iconst 1, 0, 0, 0) : iv_I),
  (((522, 1), .iadd, 0, 0, 0) : iv_I),
  (((523, 1), .iaload, 0, 0, 0) : iv_I),
  (((524, 1), .aload_n 0, 0, 0, 0) : iv_I),
  (((525, 1), .iload_n 3, 0, 0, 0) : iv_I),
  (((526, 1), .iconst 2, 0, 0, 0) : iv_I),
  (((527, 1), .iadd, 0, 0, 0) : iv_I),
  (((528, 1), .iaload, 0, 0, 0) : iv_I),
  (((529, 1), .aload_n 0, 0, 0, 0) : iv_I),
  (((530, 1), .iload_n 3, 0, 0, 0) : iv_I),
  (((531, 1), .iconst 3, 0, 0, 0) : iv_I),
  (((532, 1), .iadd, 0, 0, 0) : iv_I),
  (((533, 1), .iaload, 0, 0, 0) : iv_I),
  (((534, 3), .invokevirtual 60, 36, 4, 787) : iv_I),
  (((537, 3), .if_icmp .eq 341, 626, 0, 0) : iv_I),
  (((540, 1), .iconst 0, 0, 0, 0) : iv_I),
  (((541, 1), .ireturn, 0, 0, 0) : iv_I),
  (((542, 1), .aload_n 1, 0, 0, 0) : iv_I),
  (((543, 1), .aload_n 0, 0, 0, 0) : iv_I),
  (((544, 1), .iload_n 3, 0, 0, 0) : iv_I),
  (((545, 1), .iconst 1, 0, 0, 0) : iv_I),
  (((546, 1), .iadd, 0, 0, 0) : iv_I),
  (((547, 1), .iaload, 0, 0, 0) : iv_I),
  (((548, 3), .invokevirtual 61, 13, 2, 434) : iv_I),
  (((551, 1), .aload_n 2, 0, 0, 0) : iv_I),
  (((552, 1), .aload_n 0, 0, 0, 0) : iv_I),
  (((553, 1), .iload_n 3, 0, 0, 0) : iv_I),
  (((554, 1), .iconst 1, 0, 0, 0) : iv_I),
  (((555, 1), .iadd, 0, 0, 0) : iv_I),
  (((556, 1), .iaload, 0, 0, 0) : iv_I),
  (((557, 3), .invokevirtual 64, 37, 2, 791) : iv_I),
  (((560, 3), .if_icmp .eq 318, 626, 0, 0) : iv_I),
  (((563, 1), .iconst 0, 0, 0, 0) : iv_I),
  (((564, 1), .ireturn, 0, 0, 0) : iv_I),
  (((565, 1), .aload_n 1, 0, 0, 0) : iv_I),
  (((566, 1), .aload_n 0, 0, 0, 0) : iv_I),
  (((567, 1), .iload_n 3, 0, 0, 0) : iv_I),
  (((568, 1), .iconst 1, 0, 0, 0) : iv_I),
  (((569, 1), .iadd, 0, 0, 0) : iv_I),
  (((570, 1), .iaload, 0, 0, 0) : iv_I),
  (((571, 1), .aload_n 0, 0, 0, 0) : iv_I),
  (((572, 1), .iload_n 3, 0, 0, 0) : iv_I),
  (((573, 1), .iconst 2, 0, 0, 0) : iv_I),
  (((574, 1), .iadd, 0, 0, 0) : iv_I),
  (((575, 1), .iaload, 0, 0, 0) : iv_I),
  (((576, 1), .aload_n 0, 0, 0, 0) : iv_I),
  (((577, 1), .iload_n 3, 0, 0, 0) : iv_I),
  (((578, 1), .iconst 3, 0, 0, 0) : iv_I),
  (((579, 1), .iadd, 0, 0, 0) : iv_I),
  (((580, 1), .iaload, 0, 0, 0) : iv_I),
  (((581, 3), .invokevirtual 65, 14, 4, 442) : iv_I),
  (((584, 1), .aload_n 2, 0, 0, 0) : iv_I),
  (((585, 1), .aload_n 0, 0, 0, 0) : iv_I),
  (((586, 1), .iload_n 3, 0, 0, 0) : iv_I),
  (((587, 1), .iconst 1, 0, 0, 0) : iv_I),
  (((588, 1), .iadd, 0, 0, 0) : iv_I),
  (((589, 1), .iaload, 0, 0, 0) : iv_I),
  (((590, 1), .aload_n 0, 0, 0, 0) : iv_I),
  (((591, 1), .iload_n 3, 0, 0, 0) : iv_I),
  (((592, 1), .iconst 2, 0, 0, 0) : iv_I),
  (((593, 1), .iadd, 0, 0, 0) : iv_I),
  (((594, 1), .iaload, 0, 0, 0) : iv_I),
  (((595, 1), .aload_n 0, 0, 0, 0) : iv_I),
  (((596, 1), .iload_n 3, 0, 0, 0) : iv_I),
  (((597, 1), .iconst 3, 0, 0, 0) : iv_I),
  (((598, 1), .iadd, 0, 0, 0) : iv_I),
  (((599, 1), .iaload, 0, 0, 0) : iv_I),
  (((600, 3), .invokevirtual 68, 39, 4, 795) : iv_I),
  (((603, 3), .if_icmp .eq 275, 626, 0, 0) : iv_I),
  (((606, 1), .iconst 0, 0, 0, 0) : iv_I),
  (((607, 1), .ireturn, 0, 0, 0) : iv_I),
  (((608, 1), .aload_n 1, 0, 0, 0) : iv_I),
  (((609, 1), .aload_n 0, 0, 0, 0) : iv_I),
  (((610, 1), .iload_n 3, 0, 0, 0) : iv_I),
  (((611, 1), .iconst 1, 0, 0, 0) : iv_I),
  (((612, 1), .iadd, 0, 0, 0) : iv_I),
  (((613, 1), .iaload, 0, 0, 0) : iv_I),
  (((614, 1), .aload_n 0, 0, 0, 0) : iv_I),
  (((615, 1), .iload_n 3, 0, 0, 0) : iv_I),
  (((616, 1), .iconst 2, 0, 0, 0) : iv_I),
  (((617, 1), .iadd, 0, 0, 0) : iv_I),
  (((618, 1), .iaload, 0, 0, 0) : iv_I),
  (((619, 1), .aload_n 0, 0, 0, 0) : iv_I),
  (((620, 1), .iload_n 3, 0, 0, 0) : iv_I),
  (((621, 1), .iconst 3, 0, 0, 0) : iv_I),
  (((622, 1), .iadd, 0, 0, 0) : iv_I),
  (((623, 1), .iaload, 0, 0, 0) : iv_I),
  (((624, 3), .invokevirtual 69, 15, 4, 462) : iv_I),
  (((627, 1), .aload_n 2, 0, 0, 0) : iv_I),
  (((628, 1), .aload_n 0, 0, 0, 0) : iv_I),
  (((629, 1), .iload_n 3, 0, 0, 0) : iv_I),
  (((630, 1), .iconst 1, 0, 0, 0) : iv_I),
  (((631, 1), .iadd, 0, 0, 0) : iv_I),
  (((632, 1), .iaload, 0, 0, 0) : iv_I),
  (((633, 1), .aload_n 0, 0, 0, 0) : iv_I),
  (((634, 1), .iload_n 3, 0, 0, 0) : iv_I),
  (((635, 1), .iconst 2, 0, 0, 0) : iv_I),
  (((636, 1), .iadd, 0, 0, 0) : iv_I),
  (((637, 1), .iaload, 0, 0, 0) : iv_I),
  (((638, 1), .aload_n 0, 0, 0, 0) : iv_I),
  (((639, 1), .iload_n 3, 0, 0, 0) : iv_I),
  (((640, 1), .iconst 3, 0, 0, 0) : iv_I),
  (((641, 1), .iadd, 0, 0, 0) : iv_I),
  (((642, 1), .iaload, 0, 0, 0) : iv_I),
  (((643, 3), .invokevirtual 72, 40, 4, 803) : iv_I),
  (((646, 3), .if_icmp .eq 232, 626, 0, 0) : iv_I),
  (((649, 1), .iconst 0, 0, 0, 0) : iv_I),
  (((650, 1), .ireturn, 0, 0, 0) : iv_I),
  (((651, 1), .aload_n 1, 0, 0, 0) : iv_I),
  (((652, 1), .aload_n 0, 0, 0, 0) : iv_I),
  (((653, 1), .iload_n 3, 0, 0, 0) : iv_I),
  (((654, 1), .iconst 1, 0, 0, 0) : iv_I),
  (((655, 1), .iadd, 0, 0, 0) : iv_I),
  (((656, 1), .iaload, 0, 0, 0) : iv_I),
  (((657, 1), .aload_n 0, 0, 0, 0) : iv_I),
  (((658, 1), .iload_n 3, 0, 0, 0) : iv_I),
  (((659, 1), .iconst 2, 0, 0, 0) : iv_I),
  (((660, 1), .iadd, 0, 0, 0) : iv_I),
  (((661, 1), .iaload, 0, 0, 0) : iv_I),
  (((662, 1), .aload_n 0, 0, 0, 0) : iv_I),
  (((663, 1), .iload_n 3, 0, 0, 0) : iv_I),
  (((664, 1), .iconst 3, 0, 0, 0) : iv_I),
  (((665, 1), .iadd, 0, 0, 0) : iv_I),
  (((666, 1), .iaload, 0, 0, 0) : iv_I),
  (((667, 3), .ifCond .eq 7, 468, 0, 0) : iv_I),
  (((670, 1), .iconst 1, 0, 0, 0) : iv_I),
  (((671, 3), .goto 4, 469, 0, 0) : iv_I),
  (((674, 1), .iconst 0, 0, 0, 0) : iv_I),
  (((675, 3), .invokevirtual 73, 16, 4, 470) : iv_I),
  (((678, 1), .aload_n 2, 0, 0, 0) : iv_I),
  (((679, 1), .aload_n 0, 0, 0, 0) : iv_I),
  (((680, 1), .iload_n 3, 0, 0, 0) : iv_I),
  (((681, 1), .iconst 1, 0, 0, 0) : iv_I),
  (((682, 1), .iadd, 0, 0, 0) : iv_I),
  (((683, 1), .iaload, 0, 0, 0) : iv_I),
  (((684, 1), .aload_n 0, 0, 0, 0) : iv_I),
  (((685, 1), .iload_n 3, 0, 0, 0) : iv_I),
  (((686, 1), .iconst 2, 0, 0, 0) : iv_I),
  (((687, 1), .iadd, 0, 0, 0) : iv_I),
  (((688, 1), .iaload, 0, 0, 0) : iv_I),
  (((689, 1), .aload_n 0, 0, 0, 0) : iv_I),
  (((690, 1), .iload_n 3, 0, 0, 0) : iv_I),
  (((691, 1), .iconst 3, 0, 0, 0) : iv_I),
  (((692, 1), .iadd, 0, 0, 0) : iv_I),
  (((693, 1), .iaload, 0, 0, 0) : iv_I),
  (((694, 3), .ifCond .eq 7, 489, 0, 0) : iv_I),
  (((697, 1), .iconst 1, 0, 0, 0) : iv_I),
  (((698, 3), .goto 4, 490, 0, 0) : iv_I),
  (((701, 1), .iconst 0, 0, 0, 0) : iv_I),
  (((702, 3), .invokevirtual 77, 41, 4, 807) : iv_I),
  (((705, 3), .if_icmp .eq 173, 626, 0, 0) : iv_I),
  (((708, 1), .iconst 0, 0, 0, 0) : iv_I),
  (((709, 1), .ireturn, 0, 0, 0) : iv_I),
  (((710, 1), .aload_n 1, 0, 0, 0) : iv_I),
  (((711, 1), .aload_n 0, 0, 0, 0) : iv_I),
  (((712, 1), .iload_n 3, 0, 0, 0) : iv_I),
  (((713, 1), .iconst 1, 0, 0, 0) : iv_I),
  (((714, 1), .iadd, 0, 0, 0) : iv_I),
  (((715, 1), .iaload, 0, 0, 0) : iv_I),
  (((716, 1), .aload_n 0, 0, 0, 0) : iv_I),
  (((717, 1), .iload_n 3, 0, 0, 0) : iv_I),
  (((718, 1), .iconst 2, 0, 0, 0) : iv_I),
  (((719, 1), .iadd, 0, 0, 0) : iv_I),
  (((720, 1), .iaload, 0, 0, 0) : iv_I),
  (((721, 3), .invokevirtual 78, 17, 3, 474) : iv_I),
  (((724, 1), .aload_n 2, 0, 0, 0) : iv_I),
  (((725, 1), .aload_n 0, 0, 0, 0) : iv_I),
  (((726, 1), .iload_n 3, 0, 0, 0) : iv_I),
  (((727, 1), .iconst 1, 0, 0, 0) : iv_I),
  (((728, 1), .iadd, 0, 0, 0) : iv_I),
  (((729, 1), .iaload, 0, 0, 0) : iv_I),
  (((730, 1), .aload_n 0, 0, 0, 0) : iv_I),
  (((731, 1), .iload_n 3, 0, 0, 0) : iv_I),
  (((732, 1), .iconst 2, 0, 0, 0) : iv_I),
  (((733, 1), .iadd, 0, 0, 0) : iv_I),
  (((734, 1), .iaload, 0, 0, 0) : iv_I),
  (((735, 3), .invokevirtual 81, 56, 3, 811) : iv_I),
  (((738, 3), .if_icmp .eq 140, 626, 0, 0) : iv_I),
  (((741, 1), .iconst 0, 0, 0, 0) : iv_I),
  (((742, 1), .ireturn, 0, 0, 0) : iv_I),
  (((743, 1), .aload_n 1, 0, 0, 0) : iv_I),
  (((744, 1), .aload_n 0, 0, 0, 0) : iv_I),
  (((745, 1), .iload_n 3, 0, 0, 0) : iv_I),
  (((746, 1), .iconst 1, 0, 0, 0) : iv_I),
  (((747, 1), .iadd, 0, 0, 0) : iv_I),
  (((748, 1), .iaload, 0, 0, 0) : iv_I),
  (((749, 1), .aload_n 0, 0, 0, 0) : iv_I),
  (((750, 1), .iload_n 3, 0, 0, 0) : iv_I),
  (((751, 1), .iconst 2, 0, 0, 0) : iv_I),
  (((752, 1), .iadd, 0, 0, 0) : iv_I),
  (((753, 1), .iaload, 0, 0, 0) : iv_I),
  (((754, 1), .aload_n 0, 0, 0, 0) : iv_I),
  (((755, 1), .iload_n 3, 0, 0, 0) : iv_I),
  (((756, 1), .iconst 3, 0, 0, 0) : iv_I),
  (((757, 1), .iadd, 0, 0, 0) : iv_I),
  (((758, 1), .iaload, 0, 0, 0) : iv_I),
  (((759, 3), .invokevirtual 82, 18, 4, 556) : iv_I),
  (((762, 1), .aload_n 2, 0, 0, 0) : iv_I),
  (((763, 1), .aload_n 0, 0, 0, 0) : iv_I),
  (((764, 1), .iload_n 3, 0, 0, 0) : iv_I),
  (((765, 1), .iconst 1, 0, 0, 0) : iv_I),
  (((766, 1), .iadd, 0, 0, 0) : iv_I),
  (((767, 1), .iaload, 0, 0, 0) : iv_I),
  (((768, 1), .aload_n 0, 0, 0, 0) : iv_I),
  (((769, 1), .iload_n 3, 0, 0, 0) : iv_I),
  (((770, 1), .iconst 2, 0, 0, 0) : iv_I),
  (((771, 1), .iadd, 0, 0, 0) : iv_I),
  (((772, 1), .iaload, 0, 0, 0) : iv_I),
  (((773, 1), .aload_n 0, 0, 0, 0) : iv_I),
  (((774, 1), .iload_n 3, 0, 0, 0) : iv_I),
  (((775, 1), .iconst 3, 0, 0, 0) : iv_I),
  (((776, 1), .iadd, 0, 0, 0) : iv_I),
  (((777, 1), .iaload, 0, 0, 0) : iv_I),
  (((778, 3), .invokevirtual 86, 57, 4, 870) : iv_I),
  (((781, 3), .if_icmp .eq 97, 626, 0, 0) : iv_I),
  (((784, 1), .iconst 0, 0, 0, 0) : iv_I),
  (((785, 1), .ireturn, 0, 0, 0) : iv_I),
  (((786, 1), .aload_n 1, 0, 0, 0) : iv_I),
  (((787, 3), .invokevirtual 87, 19, 1, 561) : iv_I),
  (((790, 1), .aload_n 2, 0, 0, 0) : iv_I),
  (((791, 3), .invokevirtual 91, 58, 1, 874) : iv_I),
  (((794, 3), .if_icmp .eq 84, 626, 0, 0) : iv_I),
  (((797, 1), .iconst 0, 0, 0, 0) : iv_I),
  (((798, 1), .ireturn, 0, 0, 0) : iv_I),
  (((799, 1), .aload_n 1, 0, 0, 0) : iv_I),
  (((800, 3), .invokevirtual 92, 20, 1, 565) : iv_I),
  (((803, 1), .aload_n 2, 0, 0, 0) : iv_I),
  (((804, 3), .invokevirtual 95, 59, 1, 878) : iv_I),
  (((807, 3), .if_icmp .eq 71, 626, 0, 0) : iv_I),
  (((810, 1), .iconst 0, 0, 0, 0) : iv_I),
  (((811, 1), .ireturn, 0, 0, 0) : iv_I),
  (((812, 1), .aload_n 1, 0, 0, 0) : iv_I),
  (((813, 1), .aload_n 0, 0, 0, 0) : iv_I),
  (((814, 1), .iload_n 3, 0, 0, 0) : iv_I),
  (((815, 1), .iconst 1, 0, 0, 0) : iv_I),
  (((816, 1), .iadd, 0, 0, 0) : iv_I),
  (((817, 1), .iaload, 0, 0, 0) : iv_I),
  (((818, 1), .aload_n 0, 0, 0, 0) : iv_I),
  (((819, 1), .iload_n 3, 0, 0, 0) : iv_I),
  (((820, 1), .iconst 2, 0, 0, 0) : iv_I),
  (((821, 1), .iadd, 0, 0, 0) : iv_I),
  (((822, 1), .iaload, 0, 0, 0) : iv_I),
  (((823, 3), .invokevirtual 96, 21, 3, 569) : iv_I),
  (((826, 1), .aload_n 2, 0, 0, 0) : iv_I),
  (((827, 1), .aload_n 0, 0, 0, 0) : iv_I),
  (((828, 1), .iload_n 3, 0, 0, 0) : iv_I),
  (((829, 1), .iconst 1, 0, 0, 0) : iv_I),
  (((830, 1), .iadd, 0, 0, 0) : iv_I),
  (((831, 1), .iaload, 0, 0, 0) : iv_I),
  (((832, 1), .aload_n 0, 0, 0, 0) : iv_I),
  (((833, 1), .iload_n 3, 0, 0, 0) : iv_I),
  (((834, 1), .iconst 2, 0, 0, 0) : iv_I),
  (((835, 1), .iadd, 0, 0, 0) : iv_I),
  (((836, 1), .iaload, 0, 0, 0) : iv_I),
  (((837, 3), .invokevirtual 99, 60, 3, 882) : iv_I),
  (((840, 3), .if_icmp .eq 38, 626, 0, 0) : iv_I),
  (((843, 1), .iconst 0, 0, 0, 0) : iv_I),
  (((844, 1), .ireturn, 0, 0, 0) : iv_I),
  (((845, 1), .aload_n 1, 0, 0, 0) : iv_I),
  (((846, 1), .aload_n 0, 0, 0, 0) : iv_I),
  (((847, 1), .iload_n 3, 0, 0, 0) : iv_I),
  (((848, 1), .iconst 1, 0, 0, 0) : iv_I),
  (((849, 1), .iadd, 0, 0, 0) : iv_I),
  (((850, 1), .iaload, 0, 0, 0) : iv_I),
  (((851, 1), .aload_n 0, 0, 0, 0) : iv_I),
  (((852, 1), .iload_n 3, 0, 0, 0) : iv_I),
  (((853, 1), .iconst 2, 0, 0, 0) : iv_I),
  (((854, 1), .iadd, 0, 0, 0) : iv_I),
  (((855, 1), .iaload, 0, 0, 0) : iv_I),
  (((856, 3), .invokevirtual 100, 22, 3, 577) : iv_I),
  (((859, 1), .aload_n 2, 0, 0, 0) : iv_I),
  (((860, 1), .aload_n 0, 0, 0, 0) : iv_I),
  (((861, 1), .iload_n 3, 0, 0, 0) : iv_I),
  (((862, 1), .iconst 1, 0, 0, 0) : iv_I),
  (((863, 1), .iadd, 0, 0, 0) : iv_I),
  (((864, 1), .iaload, 0, 0, 0) : iv_I),
  (((865, 1), .aload_n 0, 0, 0, 0) : iv_I),
  (((866, 1), .iload_n 3, 0, 0, 0) : iv_I),
  (((867, 1), .iconst 2, 0, 0, 0) : iv_I),
  (((868, 1), .iadd, 0, 0, 0) : iv_I),
  (((869, 1), .iaload, 0, 0, 0) : iv_I),
  (((870, 3), .invokevirtual 103, 63, 3, 886) : iv_I),
  (((873, 3), .if_icmp .eq 5, 626, 0, 0) : iv_I),
  (((876, 1), .iconst 0, 0, 0, 0) : iv_I),
  (((877, 1), .ireturn, 0, 0, 0) : iv_I),
  (((878, 3), .iinc 3 7, 0, 0, 0) : iv_I),
  (((881, 3), .goto (-863), 10, 0, 0) : iv_I),
  (((884, 1), .iconst 1, 0, 0, 0) : iv_I),
  (((885, 1), .ireturn, 0, 0, 0) : iv_I)]
/-- 2: RuleGraph.<init>()V -/
def mc_2 : List iv_I := [
  (((0, 1), .aload_n 0, 0, 0, 0) : iv_I),
  (((1, 3), .invokespecial 3, 0, 1, 47) : iv_I),
  (((4, 1), .aload_n 0, 0, 0, 0) : iv_I),
  (((5, 3), .new 9, 10, 0, 50) : iv_I),
  (((8, 1), .dup, 0, 0, 0) : iv_I),
  (((9, 3), .invokespecial 11, 101, 1, 52) : iv_I),
  (((12, 3), .putfield 12, 0, 0, 276) : iv_I),
  (((15, 1), .aload_n 0, 0, 0, 0) : iv_I),
  (((16, 3), .new 16, 9, 0, 116) : iv_I),
  (((19, 1), .dup, 0, 0, 0) : iv_I),
  (((20, 3), .invokespecial 18, 97, 1, 118) : iv_I),
  (((23, 3), .putfield 19, 0, 1, 277) : iv_I),
  (((26, 1), .aload_n 0, 0, 0, 0) : iv_I),
  (((27, 3), .new 23, 5, 0, 161) : iv_I),
  (((30, 1), .dup, 0, 0, 0) : iv_I),
  (((31, 3), .invokespecial 25, 81, 1, 163) : iv_I),
  (((34, 3), .putfield 26, 0, 2, 278) : iv_I),
  (((37, 1), .aload_n 0, 0, 0, 0) : iv_I),
  (((38, 3), .new 30, 11, 0, 182) : iv_I),
  (((41, 1), .dup, 0, 0, 0) : iv_I),
  (((42, 3), .invokespecial 32, 110, 1, 184) : iv_I),
  (((45, 3), .putfield 33, 0, 3, 279) : iv_I),
  (((48, 1), .aload_n 0, 0, 0, 0) : iv_I),
  (((49, 3), .new 37, 6, 0, 206) : iv_I),
  (((52, 1), .dup, 0, 0, 0) : iv_I),
  (((53, 3), .invokespecial 39, 87, 1, 208) : iv_I),
  (((56, 3), .putfield 40, 0, 4, 280) : iv_I),
  (((59, 1), .aload_n 0, 0, 0, 0) : iv_I),
  (((60, 3), .new 44, 2, 0, 241) : iv_I),
  (((63, 1), .dup, 0, 0, 0) : iv_I),
  (((64, 1), .aload_n 0, 0, 0, 0) : iv_I),
  (((65, 3), .getfield 12, 0, 0, 276) : iv_I),
  (((68, 1), .aload_n 0, 0, 0, 0) : iv_I),
  (((69, 3), .getfield 19, 0, 1, 277) : iv_I),
  (((72, 1), .aload_n 0, 0, 0, 0) : iv_I),
  (((73, 3), .getfield 26, 0, 2, 278) : iv_I),
  (((76, 1), .aload_n 0, 0, 0, 0) : iv_I),
  (((77, 3), .getfield 33, 0, 3, 279) : iv_I),
  (((80, 1), .aload_n 0, 0, 0, 0) : iv_I),
  (((81, 3), .getfield 40, 0, 4, 280) : iv_I),
  (((84, 3), .invokespecial 46, 64, 6, 243) : iv_I),
  (((87, 3), .putfield 49, 0, 5, 281) : iv_I),
  (((90, 1), .return_, 0, 0, 0) : iv_I)]
/-- 3: RuleGraph.type(I)I -/
def mc_3 : List iv_I := [
  (((0, 1), .iload_n 1, 0, 0, 0) : iv_I),
  (((1, 1), .iconst (-1), 0, 0, 0) : iv_I),
  (((2, 3), .if_icmp .eq 16, 10, 0, 0) : iv_I),
  (((5, 1), .aload_n 0, 0, 0, 0) : iv_I),
  (((6, 3), .getfield 12, 0, 0, 276) : iv_I),
  (((9, 1), .iload_n 1, 0, 0, 0) : iv_I),
  (((10, 3), .invokevirtual 53, 102, 2, 299) : iv_I),
  (((13, 3), .ifCond .ne 5, 10, 0, 0) : iv_I),
  (((16, 1), .iconst (-1), 0, 0, 0) : iv_I),
  (((17, 1), .ireturn, 0, 0, 0) : iv_I),
  (((18, 1), .aload_n 0, 0, 0, 0) : iv_I),
  (((19, 3), .getfield 12, 0, 0, 276) : iv_I),
  (((22, 1), .iload_n 1, 0, 0, 0) : iv_I),
  (((23, 3), .invokevirtual 57, 108, 2, 303) : iv_I),
  (((26, 1), .ireturn, 0, 0, 0) : iv_I)]
/-- 4: RuleGraph.field(II)I -/
def mc_4 : List iv_I := [
  (((0, 1), .aload_n 0, 0, 0, 0) : iv_I),
  (((1, 3), .getfield 12, 0, 0, 276) : iv_I),
  (((4, 1), .iload_n 1, 0, 0, 0) : iv_I),
  (((5, 3), .invokevirtual 53, 102, 2, 299) : iv_I),
  (((8, 3), .ifCond .eq 12, 10, 0, 0) : iv_I),
  (((11, 1), .iload_n 2, 0, 0, 0) : iv_I),
  (((12, 3), .ifCond .lt 8, 10, 0, 0) : iv_I),
  (((15, 1), .iload_n 2, 0, 0, 0) : iv_I),
  (((16, 1), .iconst 3, 0, 0, 0) : iv_I),
  (((17, 3), .if_icmp .le 5, 12, 0, 0) : iv_I),
  (((20, 1), .iconst (-1), 0, 0, 0) : iv_I),
  (((21, 1), .ireturn, 0, 0, 0) : iv_I),
  (((22, 1), .aload_n 0, 0, 0, 0) : iv_I),
  (((23, 3), .getfield 12, 0, 0, 276) : iv_I),
  (((26, 1), .iload_n 1, 0, 0, 0) : iv_I),
  (((27, 1), .iload_n 2, 0, 0, 0) : iv_I),
  (((28, 3), .invokevirtual 61, 109, 3, 311) : iv_I),
  (((31, 1), .istore_n 3, 0, 0, 0) : iv_I),
  (((32, 1), .iload_n 3, 0, 0, 0) : iv_I),
  (((33, 1), .iconst (-1), 0, 0, 0) : iv_I),
  (((34, 3), .if_icmp .eq 20, 30, 0, 0) : iv_I),
  (((37, 1), .aload_n 0, 0, 0, 0) : iv_I),
  (((38, 3), .getfield 33, 0, 3, 279) : iv_I),
  (((41, 1), .iload_n 3, 0, 0, 0) : iv_I),
  (((42, 1), .iload_n 2, 0, 0, 0) : iv_I),
  (((43, 3), .ifCond .ne 7, 28, 0, 0) : iv_I),
  (((46, 1), .iconst 0, 0, 0, 0) : iv_I),
  (((47, 3), .goto 4, 29, 0, 0) : iv_I),
  (((50, 1), .iconst (-1), 0, 0, 0) : iv_I),
  (((51, 3), .invokevirtual 65, 112, 3, 315) : iv_I),
  (((54, 1), .iload_n 3, 0, 0, 0) : iv_I),
  (((55, 1), .ireturn, 0, 0, 0) : iv_I)]
/-- 5: RuleGraph.rule(IZIIII)I -/
def mc_5 : List iv_I := [
  (((0, 1), .aload_n 0, 0, 0, 0) : iv_I),
  (((1, 3), .getfield 12, 0, 0, 276) : iv_I),
  (((4, 1), .iload_n 1, 0, 0, 0) : iv_I),
  (((5, 3), .invokevirtual 69, 103, 2, 323) : iv_I),
  (((8, 3), .ifCond .eq 12, 10, 0, 0) : iv_I),
  (((11, 1), .iload_n 3, 0, 0, 0) : iv_I),
  (((12, 3), .ifCond .lt 8, 10, 0, 0) : iv_I),
  (((15, 1), .iload_n 3, 0, 0, 0) : iv_I),
  (((16, 1), .iconst 4, 0, 0, 0) : iv_I),
  (((17, 3), .if_icmp .le 5, 12, 0, 0) : iv_I),
  (((20, 1), .iconst (-1), 0, 0, 0) : iv_I),
  (((21, 1), .ireturn, 0, 0, 0) : iv_I),
  (((22, 1), .iload_n 3, 0, 0, 0) : iv_I),
  (((23, 1), .iconst 4, 0, 0, 0) : iv_I),
  (((24, 3), .if_icmp .ne 17, 22, 0, 0) : iv_I),
  (((27, 1), .aload_n 0, 0, 0, 0) : iv_I),
  (((28, 3), .getfield 19, 0, 1, 277) : iv_I),
  (((31, 2), .iload 4, 0, 0, 0) : iv_I),
  (((33, 3), .invokevirtual 72, 98, 2, 327) : iv_I),
  (((36, 3), .ifCond .ne 5, 22, 0, 0) : iv_I),
  (((39, 1), .iconst (-1), 0, 0, 0) : iv_I),
  (((40, 1), .ireturn, 0, 0, 0) : iv_I),
  (((41, 2), .iload 6, 0, 0, 0) : iv_I),
  (((43, 1), .iconst 1, 0, 0, 0) : iv_I),
  (((44, 3), .if_icmp .lt 10, 28, 0, 0) : iv_I),
  (((47, 2), .iload 6, 0, 0, 0) : iv_I),
  (((49, 2), .bipush 63, 0, 0, 0) : iv_I),
  (((51, 3), .if_icmp .le 5, 30, 0, 0) : iv_I),
  (((54, 1), .iconst (-1), 0, 0, 0) : iv_I),
  (((55, 1), .ireturn, 0, 0, 0) : iv_I),
  (((56, 1), .iload_n 3, 0, 0, 0) : iv_I),
  (((57, 1), .iconst 4, 0, 0, 0) : iv_I),
  (((58, 3), .if_icmp .ne 16, 39, 0, 0) : iv_I),
  (((61, 1), .aload_n 0, 0, 0, 0) : iv_I),
  (((62, 3), .getfield 19, 0, 1, 277) : iv_I),
  (((65, 3), .getfield 75, 9, 2, 153) : iv_I),
  (((68, 2), .iload 4, 0, 0, 0) : iv_I),
  (((70, 1), .aaload, 0, 0, 0) : iv_I),
  (((71, 3), .goto 15, 45, 0, 0) : iv_I),
  (((74, 1), .aload_n 0, 0, 0, 0) : iv_I),
  (((75, 3), .getfield 19, 0, 1, 277) : iv_I),
  (((78, 1), .iload_n 3, 0, 0, 0) : iv_I),
  (((79, 2), .iload 4, 0, 0, 0) : iv_I),
  (((81, 2), .iload 5, 0, 0, 0) : iv_I),
  (((83, 3), .invokevirtual 79, 99, 4, 331) : iv_I),
  (((86, 2), .astore 7, 0, 0, 0) : iv_I),
  (((88, 1), .aload_n 0, 0, 0, 0) : iv_I),
  (((89, 3), .getfield 19, 0, 1, 277) : iv_I),
  (((92, 1), .iload_n 1, 0, 0, 0) : iv_I),
  (((93, 1), .iload_n 2, 0, 0, 0) : iv_I),
  (((94, 2), .aload 7, 0, 0, 0) : iv_I),
  (((96, 2), .iload 6, 0, 0, 0) : iv_I),
  (((98, 3), .invokevirtual 83, 100, 5, 354) : iv_I),
  (((101, 1), .ireturn, 0, 0, 0) : iv_I)]
/-- 6: RuleGraph.part(IIII)Z -/
def mc_6 : List iv_I := [
  (((0, 1), .aload_n 0, 0, 0, 0) : iv_I),
  (((1, 3), .getfield 19, 0, 1, 277) : iv_I),
  (((4, 1), .iload_n 1, 0, 0, 0) : iv_I),
  (((5, 3), .invokevirtual 72, 98, 2, 327) : iv_I),
  (((8, 3), .ifCond .eq 12, 10, 0, 0) : iv_I),
  (((11, 1), .iload_n 2, 0, 0, 0) : iv_I),
  (((12, 3), .ifCond .lt 8, 10, 0, 0) : iv_I),
  (((15, 1), .iload_n 2, 0, 0, 0) : iv_I),
  (((16, 1), .iconst 3, 0, 0, 0) : iv_I),
  (((17, 3), .if_icmp .le 5, 12, 0, 0) : iv_I),
  (((20, 1), .iconst 0, 0, 0, 0) : iv_I),
  (((21, 1), .ireturn, 0, 0, 0) : iv_I),
  (((22, 1), .aload_n 0, 0, 0, 0) : iv_I),
  (((23, 3), .getfield 19, 0, 1, 277) : iv_I),
  (((26, 3), .getfield 75, 9, 2, 153) : iv_I),
  (((29, 1), .iload_n 1, 0, 0, 0) : iv_I),
  (((30, 1), .aaload, 0, 0, 0) : iv_I),
  (((31, 1), .iload_n 2, 0, 0, 0) : iv_I),
  (((32, 1), .iload_n 3, 0, 0, 0) : iv_I),
  (((33, 2), .iload 4, 0, 0, 0) : iv_I),
  (((35, 3), .invokevirtual 87, 76, 4, 384) : iv_I),
  (((38, 1), .ireturn, 0, 0, 0) : iv_I)]
/-- 7: RuleGraph.single(IZ)Z -/
def mc_7 : List iv_I := [
  (((0, 1), .aload_n 0, 0, 0, 0) : iv_I),
  (((1, 3), .getfield 19, 0, 1, 277) : iv_I),
  (((4, 1), .iload_n 1, 0, 0, 0) : iv_I),
  (((5, 3), .invokevirtual 72, 98, 2, 327) : iv_I),
  (((8, 3), .ifCond .ne 5, 7, 0, 0) : iv_I),
  (((11, 1), .iconst 0, 0, 0, 0) : iv_I),
  (((12, 1), .ireturn, 0, 0, 0) : iv_I),
  (((13, 1), .aload_n 0, 0, 0, 0) : iv_I),
  (((14, 3), .getfield 19, 0, 1, 277) : iv_I),
  (((17, 3), .getfield 75, 9, 2, 153) : iv_I),
  (((20, 1), .iload_n 1, 0, 0, 0) : iv_I),
  (((21, 1), .aaload, 0, 0, 0) : iv_I),
  (((22, 1), .iload_n 2, 0, 0, 0) : iv_I),
  (((23, 3), .putfield 93, 3, 2, 139) : iv_I),
  (((26, 1), .iconst 1, 0, 0, 0) : iv_I),
  (((27, 1), .ireturn, 0, 0, 0) : iv_I)]
/-- 8: RuleGraph.extend(II)Z -/
def mc_8 : List iv_I := [
  (((0, 1), .aload_n 0, 0, 0, 0) : iv_I),
  (((1, 3), .getfield 26, 0, 2, 278) : iv_I),
  (((4, 1), .iload_n 1, 0, 0, 0) : iv_I),
  (((5, 3), .invokevirtual 97, 82, 2, 393) : iv_I),
  (((8, 3), .ifCond .eq 26, 16, 0, 0) : iv_I),
  (((11, 1), .aload_n 0, 0, 0, 0) : iv_I),
  (((12, 3), .getfield 26, 0, 2, 278) : iv_I),
  (((15, 1), .iload_n 2, 0, 0, 0) : iv_I),
  (((16, 3), .invokevirtual 97, 82, 2, 393) : iv_I),
  (((19, 3), .ifCond .eq 15, 16, 0, 0) : iv_I),
  (((22, 1), .aload_n 0, 0, 0, 0) : iv_I),
  (((23, 3), .getfield 26, 0, 2, 278) : iv_I),
  (((26, 1), .iload_n 2, 0, 0, 0) : iv_I),
  (((27, 1), .iload_n 1, 0, 0, 0) : iv_I),
  (((28, 3), .invokevirtual 100, 84, 3, 397) : iv_I),
  (((31, 3), .ifCond .eq 5, 18, 0, 0) : iv_I),
  (((34, 1), .iconst 0, 0, 0, 0) : iv_I),
  (((35, 1), .ireturn, 0, 0, 0) : iv_I),
  (((36, 1), .aload_n 0, 0, 0, 0) : iv_I),
  (((37, 3), .getfield 26, 0, 2, 278) : iv_I),
  (((40, 1), .iload_n 1, 0, 0, 0) : iv_I),
  (((41, 1), .iload_n 2, 0, 0, 0) : iv_I),
  (((42, 3), .invokevirtual 104, 85, 3, 401) : iv_I),
  (((45, 1), .iconst 1, 0, 0, 0) : iv_I),
  (((46, 1), .ireturn, 0, 0, 0) : iv_I)]
/-- 9: RuleGraph.member(II)Z -/
def mc_9 : List iv_I := [
  (((0, 1), .aload_n 0, 0, 0, 0) : iv_I),
  (((1, 3), .getfield 26, 0, 2, 278) : iv_I),
  (((4, 1), .iload_n 1, 0, 0, 0) : iv_I),
  (((5, 3), .invokevirtual 107, 83, 2, 410) : iv_I),
  (((8, 3), .ifCond .eq 25, 15, 0, 0) : iv_I),
  (((11, 1), .aload_n 0, 0, 0, 0) : iv_I),
  (((12, 3), .getfield 26, 0, 2, 278) : iv_I),
  (((15, 1), .iload_n 2, 0, 0, 0) : iv_I),
  (((16, 3), .invokevirtual 97, 82, 2, 393) : iv_I),
  (((19, 3), .ifCond .ne 16, 17, 0, 0) : iv_I),
  (((22, 1), .aload_n 0, 0, 0, 0) : iv_I),
  (((23, 3), .getfield 26, 0, 2, 278) : iv_I),
  (((26, 1), .iload_n 2, 0, 0, 0) : iv_I),
  (((27, 3), .invokevirtual 107, 83, 2, 410) : iv_I),
  (((30, 3), .ifCond .ne 5, 17, 0, 0) : iv_I),
  (((33, 1), .iconst 0, 0, 0, 0) : iv_I),
  (((34, 1), .ireturn, 0, 0, 0) : iv_I),
  (((35, 1), .aload_n 0, 0, 0, 0) : iv_I),
  (((36, 3), .getfield 26, 0, 2, 278) : iv_I),
  (((39, 3), .getfield 110, 5, 1, 172) : iv_I),
  (((42, 1), .iload_n 1, 0, 0, 0) : iv_I),
  (((43, 2), .bipush 6, 0, 0, 0) : iv_I),
  (((45, 1), .isub, 0, 0, 0) : iv_I),
  (((46, 1), .aaload, 0, 0, 0) : iv_I),
  (((47, 1), .iload_n 2, 0, 0, 0) : iv_I),
  (((48, 3), .invokevirtual 114, 95, 2, 414) : iv_I),
  (((51, 1), .ireturn, 0, 0, 0) : iv_I)]
/-- 10: RuleGraph.order(II)Z -/
def mc_10 : List iv_I := [
  (((0, 1), .aload_n 0, 0, 0, 0) : iv_I),
  (((1, 3), .getfield 12, 0, 0, 276) : iv_I),
  (((4, 1), .iload_n 1, 0, 0, 0) : iv_I),
  (((5, 3), .invokevirtual 53, 102, 2, 299) : iv_I),
  (((8, 3), .ifCond .eq 19, 13, 0, 0) : iv_I),
  (((11, 1), .iload_n 2, 0, 0, 0) : iv_I),
  (((12, 1), .iconst (-1), 0, 0, 0) : iv_I),
  (((13, 3), .if_icmp .eq 16, 15, 0, 0) : iv_I),
  (((16, 1), .aload_n 0, 0, 0, 0) : iv_I),
  (((17, 3), .getfield 26, 0, 2, 278) : iv_I),
  (((20, 1), .iload_n 2, 0, 0, 0) : iv_I),
  (((21, 3), .invokevirtual 97, 82, 2, 393) : iv_I),
  (((24, 3), .ifCond .ne 5, 15, 0, 0) : iv_I),
  (((27, 1), .iconst 0, 0, 0, 0) : iv_I),
  (((28, 1), .ireturn, 0, 0, 0) : iv_I),
  (((29, 1), .aload_n 0, 0, 0, 0) : iv_I),
  (((30, 3), .getfield 12, 0, 0, 276) : iv_I),
  (((33, 3), .getfield 119, 10, 2, 85) : iv_I),
  (((36, 1), .iload_n 1, 0, 0, 0) : iv_I),
  (((37, 1), .aaload, 0, 0, 0) : iv_I),
  (((38, 1), .iload_n 2, 0, 0, 0) : iv_I),
  (((39, 3), .invokevirtual 114, 95, 2, 414) : iv_I),
  (((42, 1), .ireturn, 0, 0, 0) : iv_I)]
/-- 11: RuleGraph.cascade(I)Z -/
def mc_11 : List iv_I := [
  (((0, 1), .aload_n 0, 0, 0, 0) : iv_I),
  (((1, 3), .getfield 12, 0, 0, 276) : iv_I),
  (((4, 1), .iload_n 1, 0, 0, 0) : iv_I),
  (((5, 3), .invokevirtual 69, 103, 2, 323) : iv_I),
  (((8, 3), .ifCond .eq 14, 10, 0, 0) : iv_I),
  (((11, 1), .aload_n 0, 0, 0, 0) : iv_I),
  (((12, 3), .getfield 12, 0, 0, 276) : iv_I),
  (((15, 1), .iload_n 1, 0, 0, 0) : iv_I),
  (((16, 3), .invokevirtual 122, 105, 2, 426) : iv_I),
  (((19, 3), .ifCond .ne 5, 12, 0, 0) : iv_I),
  (((22, 1), .iconst 0, 0, 0, 0) : iv_I),
  (((23, 1), .ireturn, 0, 0, 0) : iv_I),
  (((24, 1), .aload_n 0, 0, 0, 0) : iv_I),
  (((25, 3), .getfield 12, 0, 0, 276) : iv_I),
  (((28, 3), .getfield 125, 10, 6, 94) : iv_I),
  (((31, 1), .iload_n 1, 0, 0, 0) : iv_I),
  (((32, 1), .iconst 1, 0, 0, 0) : iv_I),
  (((33, 1), .bastore, 0, 0, 0) : iv_I),
  (((34, 1), .iconst 1, 0, 0, 0) : iv_I),
  (((35, 1), .ireturn, 0, 0, 0) : iv_I)]
/-- 12: RuleGraph.convert(III)Z -/
def mc_12 : List iv_I := [
  (((0, 1), .aload_n 0, 0, 0, 0) : iv_I),
  (((1, 3), .getfield 12, 0, 0, 276) : iv_I),
  (((4, 1), .iload_n 1, 0, 0, 0) : iv_I),
  (((5, 3), .invokevirtual 69, 103, 2, 323) : iv_I),
  (((8, 3), .ifCond .eq 25, 15, 0, 0) : iv_I),
  (((11, 1), .aload_n 0, 0, 0, 0) : iv_I),
  (((12, 3), .getfield 26, 0, 2, 278) : iv_I),
  (((15, 1), .iload_n 2, 0, 0, 0) : iv_I),
  (((16, 3), .invokevirtual 97, 82, 2, 393) : iv_I),
  (((19, 3), .ifCond .eq 14, 15, 0, 0) : iv_I),
  (((22, 1), .aload_n 0, 0, 0, 0) : iv_I),
  (((23, 3), .getfield 26, 0, 2, 278) : iv_I),
  (((26, 1), .iload_n 3, 0, 0, 0) : iv_I),
  (((27, 3), .invokevirtual 97, 82, 2, 393) : iv_I),
  (((30, 3), .ifCond .ne 5, 17, 0, 0) : iv_I),
  (((33, 1), .iconst 0, 0, 0, 0) : iv_I),
  (((34, 1), .ireturn, 0, 0, 0) : iv_I),
  (((35, 1), .aload_n 0, 0, 0, 0) : iv_I),
  (((36, 3), .getfield 12, 0, 0, 276) : iv_I),
  (((39, 3), .getfield 129, 10, 7, 97) : iv_I),
  (((42, 1), .iload_n 1, 0, 0, 0) : iv_I),
  (((43, 1), .aaload, 0, 0, 0) : iv_I),
  (((44, 1), .iload_n 2, 0, 0, 0) : iv_I),
  (((45, 1), .iload_n 3, 0, 0, 0) : iv_I),
  (((46, 1), .iastore, 0, 0, 0) : iv_I),
  (((47, 1), .iconst 1, 0, 0, 0) : iv_I),
  (((48, 1), .ireturn, 0, 0, 0) : iv_I)]
/-- 13: RuleGraph.object(I)I -/
def mc_13 : List iv_I := [
  (((0, 1), .aload_n 0, 0, 0, 0) : iv_I),
  (((1, 3), .getfield 12, 0, 0, 276) : iv_I),
  (((4, 1), .iload_n 1, 0, 0, 0) : iv_I),
  (((5, 3), .invokevirtual 53, 102, 2, 299) : iv_I),
  (((8, 3), .ifCond .ne 5, 7, 0, 0) : iv_I),
  (((11, 1), .iconst (-1), 0, 0, 0) : iv_I),
  (((12, 1), .ireturn, 0, 0, 0) : iv_I),
  (((13, 1), .aload_n 0, 0, 0, 0) : iv_I),
  (((14, 3), .getfield 33, 0, 3, 279) : iv_I),
  (((17, 1), .iload_n 1, 0, 0, 0) : iv_I),
  (((18, 3), .invokevirtual 133, 113, 2, 438) : iv_I),
  (((21, 1), .ireturn, 0, 0, 0) : iv_I)]
/-- 14: RuleGraph.put(III)Z -/
def mc_14 : List iv_I := [
  (((0, 1), .aload_n 0, 0, 0, 0) : iv_I),
  (((1, 1), .iload_n 1, 0, 0, 0) : iv_I),
  (((2, 1), .iload_n 2, 0, 0, 0) : iv_I),
  (((3, 3), .invokevirtual 136, 23, 3, 446) : iv_I),
  (((6, 3), .ifCond .eq 14, 10, 0, 0) : iv_I),
  (((9, 1), .aload_n 0, 0, 0, 0) : iv_I),
  (((10, 3), .getfield 12, 0, 0, 276) : iv_I),
  (((13, 1), .iload_n 2, 0, 0, 0) : iv_I),
  (((14, 3), .invokevirtual 139, 104, 2, 458) : iv_I),
  (((17, 3), .ifCond .eq 5, 12, 0, 0) : iv_I),
  (((20, 1), .iconst 0, 0, 0, 0) : iv_I),
  (((21, 1), .ireturn, 0, 0, 0) : iv_I),
  (((22, 1), .aload_n 0, 0, 0, 0) : iv_I),
  (((23, 3), .getfield 12, 0, 0, 276) : iv_I),
  (((26, 3), .getfield 142, 10, 5, 91) : iv_I),
  (((29, 1), .iload_n 2, 0, 0, 0) : iv_I),
  (((30, 1), .iaload, 0, 0, 0) : iv_I),
  (((31, 1), .iconst 1, 0, 0, 0) : iv_I),
  (((32, 3), .if_icmp .ne 21, 29, 0, 0) : iv_I),
  (((35, 1), .iload_n 3, 0, 0, 0) : iv_I),
  (((36, 1), .iconst (-1), 0, 0, 0) : iv_I),
  (((37, 3), .if_icmp .eq 16, 29, 0, 0) : iv_I),
  (((40, 1), .aload_n 0, 0, 0, 0) : iv_I),
  (((41, 3), .getfield 33, 0, 3, 279) : iv_I),
  (((44, 1), .iload_n 3, 0, 0, 0) : iv_I),
  (((45, 3), .invokevirtual 146, 111, 2, 450) : iv_I),
  (((48, 3), .ifCond .ne 5, 29, 0, 0) : iv_I),
  (((51, 1), .iconst 0, 0, 0, 0) : iv_I),
  (((52, 1), .ireturn, 0, 0, 0) : iv_I),
  (((53, 1), .aload_n 0, 0, 0, 0) : iv_I),
  (((54, 3), .getfield 33, 0, 3, 279) : iv_I),
  (((57, 3), .getfield 149, 11, 2, 195) : iv_I),
  (((60, 1), .iload_n 1, 0, 0, 0) : iv_I),
  (((61, 1), .aaload, 0, 0, 0) : iv_I),
  (((62, 1), .iload_n 2, 0, 0, 0) : iv_I),
  (((63, 1), .iload_n 3, 0, 0, 0) : iv_I),
  (((64, 1), .iastore, 0, 0, 0) : iv_I),
  (((65, 1), .iconst 1, 0, 0, 0) : iv_I),
  (((66, 1), .ireturn, 0, 0, 0) : iv_I)]
/-- 15: RuleGraph.append(III)Z -/
def mc_15 : List iv_I := [
  (((0, 1), .aload_n 0, 0, 0, 0) : iv_I),
  (((1, 1), .iload_n 1, 0, 0, 0) : iv_I),
  (((2, 1), .iload_n 2, 0, 0, 0) : iv_I),
  (((3, 3), .invokevirtual 136, 23, 3, 446) : iv_I),
  (((6, 3), .ifCond .eq 14, 10, 0, 0) : iv_I),
  (((9, 1), .aload_n 0, 0, 0, 0) : iv_I),
  (((10, 3), .getfield 12, 0, 0, 276) : iv_I),
  (((13, 1), .iload_n 2, 0, 0, 0) : iv_I),
  (((14, 3), .invokevirtual 139, 104, 2, 458) : iv_I),
  (((17, 3), .ifCond .ne 5, 12, 0, 0) : iv_I),
  (((20, 1), .iconst 0, 0, 0, 0) : iv_I),
  (((21, 1), .ireturn, 0, 0, 0) : iv_I),
  (((22, 1), .aload_n 0, 0, 0, 0) : iv_I),
  (((23, 3), .getfield 12, 0, 0, 276) : iv_I),
  (((26, 3), .getfield 142, 10, 5, 91) : iv_I),
  (((29, 1), .iload_n 2, 0, 0, 0) : iv_I),
  (((30, 1), .iaload, 0, 0, 0) : iv_I),
  (((31, 1), .iconst 3, 0, 0, 0) : iv_I),
  (((32, 3), .if_icmp .ne 16, 26, 0, 0) : iv_I),
  (((35, 1), .aload_n 0, 0, 0, 0) : iv_I),
  (((36, 3), .getfield 33, 0, 3, 279) : iv_I),
  (((39, 1), .iload_n 3, 0, 0, 0) : iv_I),
  (((40, 3), .invokevirtual 146, 111, 2, 450) : iv_I),
  (((43, 3), .ifCond .ne 5, 26, 0, 0) : iv_I),
  (((46, 1), .iconst 0, 0, 0, 0) : iv_I),
  (((47, 1), .ireturn, 0, 0, 0) : iv_I),
  (((48, 1), .aload_n 0, 0, 0, 0) : iv_I),
  (((49, 3), .getfield 33, 0, 3, 279) : iv_I),
  (((52, 1), .iload_n 1, 0, 0, 0) : iv_I),
  (((53, 1), .iload_n 2, 0, 0, 0) : iv_I),
  (((54, 1), .iload_n 3, 0, 0, 0) : iv_I),
  (((55, 3), .invokevirtual 152, 114, 4, 466) : iv_I),
  (((58, 1), .ireturn, 0, 0, 0) : iv_I)]
/-- 16: RuleGraph.clear(IIZ)Z -/
def mc_16 : List iv_I := [
  (((0, 1), .aload_n 0, 0, 0, 0) : iv_I),
  (((1, 1), .iload_n 1, 0, 0, 0) : iv_I),
  (((2, 1), .iload_n 2, 0, 0, 0) : iv_I),
  (((3, 3), .invokevirtual 136, 23, 3, 446) : iv_I),
  (((6, 3), .ifCond .eq 14, 10, 0, 0) : iv_I),
  (((9, 1), .aload_n 0, 0, 0, 0) : iv_I),
  (((10, 3), .getfield 12, 0, 0, 276) : iv_I),
  (((13, 1), .iload_n 2, 0, 0, 0) : iv_I),
  (((14, 3), .invokevirtual 139, 104, 2, 458) : iv_I),
  (((17, 3), .ifCond .ne 5, 12, 0, 0) : iv_I),
  (((20, 1), .iconst 0, 0, 0, 0) : iv_I),
  (((21, 1), .ireturn, 0, 0, 0) : iv_I),
  (((22, 1), .aload_n 0, 0, 0, 0) : iv_I),
  (((23, 3), .getfield 33, 0, 3, 279) : iv_I),
  (((26, 3), .getfield 149, 11, 2, 195) : iv_I),
  (((29, 1), .iload_n 1, 0, 0, 0) : iv_I),
  (((30, 1), .aaload, 0, 0, 0) : iv_I),
  (((31, 1), .iload_n 2, 0, 0, 0) : iv_I),
  (((32, 1), .iload_n 3, 0, 0, 0) : iv_I),
  (((33, 3), .ifCond .eq 7, 22, 0, 0) : iv_I),
  (((36, 1), .iconst (-1), 0, 0, 0) : iv_I),
  (((37, 3), .goto 4, 23, 0, 0) : iv_I),
  (((40, 1), .iconst 0, 0, 0, 0) : iv_I),
  (((41, 1), .iastore, 0, 0, 0) : iv_I),
  (((42, 1), .iconst 1, 0, 0, 0) : iv_I),
  (((43, 1), .ireturn, 0, 0, 0) : iv_I)]
/-- 17: RuleGraph.validate(II)I -/
def mc_17 : List iv_I := [
  (((0, 1), .aload_n 0, 0, 0, 0) : iv_I),
  (((1, 3), .getfield 33, 0, 3, 279) : iv_I),
  (((4, 1), .iload_n 1, 0, 0, 0) : iv_I),
  (((5, 3), .invokevirtual 146, 111, 2, 450) : iv_I),
  (((8, 3), .ifCond .eq 25, 15, 0, 0) : iv_I),
  (((11, 1), .aload_n 0, 0, 0, 0) : iv_I),
  (((12, 3), .getfield 26, 0, 2, 278) : iv_I),
  (((15, 1), .iload_n 2, 0, 0, 0) : iv_I),
  (((16, 3), .invokevirtual 97, 82, 2, 393) : iv_I),
  (((19, 3), .ifCond .ne 16, 17, 0, 0) : iv_I),
  (((22, 1), .aload_n 0, 0, 0, 0) : iv_I),
  (((23, 3), .getfield 26, 0, 2, 278) : iv_I),
  (((26, 1), .iload_n 2, 0, 0, 0) : iv_I),
  (((27, 3), .invokevirtual 107, 83, 2, 410) : iv_I),
  (((30, 3), .ifCond .ne 5, 17, 0, 0) : iv_I),
  (((33, 1), .iconst (-1), 0, 0, 0) : iv_I),
  (((34, 1), .ireturn, 0, 0, 0) : iv_I),
  (((35, 1), .aload_n 0, 0, 0, 0) : iv_I),
  (((36, 3), .getfield 40, 0, 4, 280) : iv_I),
  (((39, 1), .iconst 0, 0, 0, 0) : iv_I),
  (((40, 3), .putfield 155, 6, 0, 217) : iv_I),
  (((43, 1), .aload_n 0, 0, 0, 0) : iv_I),
  (((44, 3), .getfield 49, 0, 5, 281) : iv_I),
  (((47, 1), .iconst 0, 0, 0, 0) : iv_I),
  (((48, 3), .putfield 159, 2, 8, 256) : iv_I),
  (((51, 1), .aload_n 0, 0, 0, 0) : iv_I),
  (((52, 3), .getfield 26, 0, 2, 278) : iv_I),
  (((55, 3), .getfield 162, 5, 2, 174) : iv_I),
  (((58, 1), .astore_n 3, 0, 0, 0) : iv_I),
  (((59, 1), .aload_n 3, 0, 0, 0) : iv_I),
  (((60, 1), .iconst 0, 0, 0, 0) : iv_I),
  (((61, 3), .putfield 166, 7, 1, 72) : iv_I),
  (((64, 1), .aload_n 0, 0, 0, 0) : iv_I),
  (((65, 3), .getfield 26, 0, 2, 278) : iv_I),
  (((68, 1), .iload_n 2, 0, 0, 0) : iv_I),
  (((69, 1), .iconst 0, 0, 0, 0) : iv_I),
  (((70, 3), .invokevirtual 169, 86, 3, 478) : iv_I),
  (((73, 3), .ifCond .eq 7, 40, 0, 0) : iv_I),
  (((76, 1), .iconst 0, 0, 0, 0) : iv_I),
  (((77, 3), .goto 5, 41, 0, 0) : iv_I),
  (((80, 2), .bipush (-2), 0, 0, 0) : iv_I),
  (((82, 2), .istore 4, 0, 0, 0) : iv_I),
  (((84, 1), .iconst 0, 0, 0, 0) : iv_I),
  (((85, 2), .istore 5, 0, 0, 0) : iv_I),
  (((87, 2), .iload 5, 0, 0, 0) : iv_I),
  (((89, 1), .aload_n 3, 0, 0, 0) : iv_I),
  (((90, 3), .getfield 166, 7, 1, 72) : iv_I),
  (((93, 3), .if_icmp .ge 41, 65, 0, 0) : iv_I),
  (((96, 2), .iload 4, 0, 0, 0) : iv_I),
  (((98, 3), .ifCond .ne 36, 65, 0, 0) : iv_I),
  (((101, 1), .aload_n 0, 0, 0, 0) : iv_I),
  (((102, 3), .getfield 40, 0, 4, 280) : iv_I),
  (((105, 3), .getfield 155, 6, 0, 217) : iv_I),
  (((108, 3), .ifCond .ne 26, 65, 0, 0) : iv_I),
  (((111, 1), .aload_n 0, 0, 0, 0) : iv_I),
  (((112, 3), .getfield 49, 0, 5, 281) : iv_I),
  (((115, 1), .iload_n 1, 0, 0, 0) : iv_I),
  (((116, 1), .aload_n 3, 0, 0, 0) : iv_I),
  (((117, 3), .getfield 172, 7, 0, 67) : iv_I),
  (((120, 2), .iload 5, 0, 0, 0) : iv_I),
  (((122, 1), .iaload, 0, 0, 0) : iv_I),
  (((123, 3), .invokevirtual 175, 65, 3, 484) : iv_I),
  (((126, 2), .istore 4, 0, 0, 0) : iv_I),
  (((128, 3), .iinc 5 1, 0, 0, 0) : iv_I),
  (((131, 3), .goto (-44), 44, 0, 0) : iv_I),
  (((134, 1), .aload_n 0, 0, 0, 0) : iv_I),
  (((135, 3), .getfield 40, 0, 4, 280) : iv_I),
  (((138, 2), .iload 4, 0, 0, 0) : iv_I),
  (((140, 3), .invokevirtual 178, 90, 2, 552) : iv_I),
  (((143, 1), .ireturn, 0, 0, 0) : iv_I)]
/-- 18: RuleGraph.look(III)I -/
def mc_18 : List iv_I := [
  (((0, 1), .aload_n 0, 0, 0, 0) : iv_I),
  (((1, 1), .iload_n 1, 0, 0, 0) : iv_I),
  (((2, 1), .iload_n 2, 0, 0, 0) : iv_I),
  (((3, 3), .invokevirtual 136, 23, 3, 446) : iv_I),
  (((6, 3), .ifCond .eq 14, 10, 0, 0) : iv_I),
  (((9, 1), .aload_n 0, 0, 0, 0) : iv_I),
  (((10, 3), .getfield 26, 0, 2, 278) : iv_I),
  (((13, 1), .iload_n 3, 0, 0, 0) : iv_I),
  (((14, 3), .invokevirtual 97, 82, 2, 393) : iv_I),
  (((17, 3), .ifCond .ne 5, 12, 0, 0) : iv_I),
  (((20, 1), .iconst (-1), 0, 0, 0) : iv_I),
  (((21, 1), .ireturn, 0, 0, 0) : iv_I),
  (((22, 1), .aload_n 0, 0, 0, 0) : iv_I),
  (((23, 3), .getfield 40, 0, 4, 280) : iv_I),
  (((26, 1), .iconst 0, 0, 0, 0) : iv_I),
  (((27, 3), .putfield 155, 6, 0, 217) : iv_I),
  (((30, 1), .aload_n 0, 0, 0, 0) : iv_I),
  (((31, 3), .getfield 40, 0, 4, 280) : iv_I),
  (((34, 1), .aload_n 0, 0, 0, 0) : iv_I),
  (((35, 3), .getfield 49, 0, 5, 281) : iv_I),
  (((38, 1), .iload_n 1, 0, 0, 0) : iv_I),
  (((39, 1), .iconst 1, 0, 0, 0) : iv_I),
  (((40, 1), .iload_n 2, 0, 0, 0) : iv_I),
  (((41, 1), .ishl, 0, 0, 0) : iv_I),
  (((42, 1), .iload_n 3, 0, 0, 0) : iv_I),
  (((43, 3), .invokevirtual 181, 72, 4, 560) : iv_I),
  (((46, 3), .invokevirtual 178, 90, 2, 552) : iv_I),
  (((49, 1), .ireturn, 0, 0, 0) : iv_I)]
/-- 19: RuleGraph.found()I -/
def mc_19 : List iv_I := [
  (((0, 1), .aload_n 0, 0, 0, 0) : iv_I),
  (((1, 3), .getfield 40, 0, 4, 280) : iv_I),
  (((4, 3), .getfield 155, 6, 0, 217) : iv_I),
  (((7, 1), .ireturn, 0, 0, 0) : iv_I)]
/-- 20: RuleGraph.visits()I -/
def mc_20 : List iv_I := [
  (((0, 1), .aload_n 0, 0, 0, 0) : iv_I),
  (((1, 3), .getfield 49, 0, 5, 281) : iv_I),
  (((4, 3), .getfield 159, 2, 8, 256) : iv_I),
  (((7, 1), .ireturn, 0, 0, 0) : iv_I)]
/-- 21: RuleGraph.violation(II)I -/
def mc_21 : List iv_I := [
  (((0, 1), .aload_n 0, 0, 0, 0) : iv_I),
  (((1, 3), .getfield 40, 0, 4, 280) : iv_I),
  (((4, 1), .iload_n 1, 0, 0, 0) : iv_I),
  (((5, 3), .invokevirtual 185, 88, 2, 573) : iv_I),
  (((8, 3), .ifCond .eq 13, 10, 0, 0) : iv_I),
  (((11, 1), .iload_n 2, 0, 0, 0) : iv_I),
  (((12, 3), .ifCond .lt 9, 10, 0, 0) : iv_I),
  (((15, 1), .iload_n 2, 0, 0, 0) : iv_I),
  (((16, 2), .bipush 6, 0, 0, 0) : iv_I),
  (((18, 3), .if_icmp .lt 5, 12, 0, 0) : iv_I),
  (((21, 1), .iconst (-1), 0, 0, 0) : iv_I),
  (((22, 1), .ireturn, 0, 0, 0) : iv_I),
  (((23, 1), .aload_n 0, 0, 0, 0) : iv_I),
  (((24, 3), .getfield 40, 0, 4, 280) : iv_I),
  (((27, 3), .getfield 188, 6, 1, 219) : iv_I),
  (((30, 1), .iload_n 1, 0, 0, 0) : iv_I),
  (((31, 1), .aaload, 0, 0, 0) : iv_I),
  (((32, 1), .iload_n 2, 0, 0, 0) : iv_I),
  (((33, 1), .iaload, 0, 0, 0) : iv_I),
  (((34, 1), .ireturn, 0, 0, 0) : iv_I)]
/-- 22: RuleGraph.way(II)I -/
def mc_22 : List iv_I := [
  (((0, 1), .aload_n 0, 0, 0, 0) : iv_I),
  (((1, 3), .getfield 40, 0, 4, 280) : iv_I),
  (((4, 1), .iload_n 1, 0, 0, 0) : iv_I),
  (((5, 3), .invokevirtual 185, 88, 2, 573) : iv_I),
  (((8, 3), .ifCond .ne 5, 7, 0, 0) : iv_I),
  (((11, 1), .iconst (-1), 0, 0, 0) : iv_I),
  (((12, 1), .ireturn, 0, 0, 0) : iv_I),
  (((13, 1), .aload_n 0, 0, 0, 0) : iv_I),
  (((14, 3), .getfield 40, 0, 4, 280) : iv_I),
  (((17, 1), .iload_n 1, 0, 0, 0) : iv_I),
  (((18, 3), .invokevirtual 191, 91, 2, 581) : iv_I),
  (((21, 1), .iload_n 2, 0, 0, 0) : iv_I),
  (((22, 1), .iconst (-1), 0, 0, 0) : iv_I),
  (((23, 3), .if_icmp .ne 11, 18, 0, 0) : iv_I),
  (((26, 1), .aload_n 0, 0, 0, 0) : iv_I),
  (((27, 3), .getfield 40, 0, 4, 280) : iv_I),
  (((30, 3), .getfield 195, 6, 5, 226) : iv_I),
  (((33, 1), .ireturn, 0, 0, 0) : iv_I),
  (((34, 1), .iload_n 2, 0, 0, 0) : iv_I),
  (((35, 3), .ifCond .lt 14, 25, 0, 0) : iv_I),
  (((38, 1), .iload_n 2, 0, 0, 0) : iv_I),
  (((39, 1), .aload_n 0, 0, 0, 0) : iv_I),
  (((40, 3), .getfield 40, 0, 4, 280) : iv_I),
  (((43, 3), .getfield 195, 6, 5, 226) : iv_I),
  (((46, 3), .if_icmp .lt 5, 27, 0, 0) : iv_I),
  (((49, 1), .iconst (-1), 0, 0, 0) : iv_I),
  (((50, 1), .ireturn, 0, 0, 0) : iv_I),
  (((51, 1), .aload_n 0, 0, 0, 0) : iv_I),
  (((52, 3), .getfield 40, 0, 4, 280) : iv_I),
  (((55, 3), .getfield 198, 6, 4, 224) : iv_I),
  (((58, 1), .iload_n 2, 0, 0, 0) : iv_I),
  (((59, 1), .caload, 0, 0, 0) : iv_I),
  (((60, 1), .ireturn, 0, 0, 0) : iv_I)]
/-- 23: RuleGraph.hasField(II)Z -/
def mc_23 : List iv_I := [
  (((0, 1), .aload_n 0, 0, 0, 0) : iv_I),
  (((1, 3), .getfield 33, 0, 3, 279) : iv_I),
  (((4, 1), .iload_n 1, 0, 0, 0) : iv_I),
  (((5, 3), .invokevirtual 146, 111, 2, 450) : iv_I),
  (((8, 3), .ifCond .eq 38, 22, 0, 0) : iv_I),
  (((11, 1), .aload_n 0, 0, 0, 0) : iv_I),
  (((12, 3), .getfield 12, 0, 0, 276) : iv_I),
  (((15, 1), .iload_n 2, 0, 0, 0) : iv_I),
  (((16, 3), .invokevirtual 69, 103, 2, 323) : iv_I),
  (((19, 3), .ifCond .eq 27, 22, 0, 0) : iv_I),
  (((22, 1), .aload_n 0, 0, 0, 0) : iv_I),
  (((23, 3), .getfield 12, 0, 0, 276) : iv_I),
  (((26, 1), .aload_n 0, 0, 0, 0) : iv_I),
  (((27, 3), .getfield 33, 0, 3, 279) : iv_I),
  (((30, 3), .getfield 202, 11, 1, 192) : iv_I),
  (((33, 1), .iload_n 1, 0, 0, 0) : iv_I),
  (((34, 1), .iaload, 0, 0, 0) : iv_I),
  (((35, 1), .iload_n 2, 0, 0, 0) : iv_I),
  (((36, 3), .invokevirtual 205, 106, 3, 454) : iv_I),
  (((39, 3), .ifCond .eq 7, 22, 0, 0) : iv_I),
  (((42, 1), .iconst 1, 0, 0, 0) : iv_I),
  (((43, 3), .goto 4, 23, 0, 0) : iv_I),
  (((46, 1), .iconst 0, 0, 0, 0) : iv_I),
  (((47, 1), .ireturn, 0, 0, 0) : iv_I)]
/-- 24: RuleGraphModel.<init>()V -/
def mc_24 : List iv_I := [
  (((0, 1), .aload_n 0, 0, 0, 0) : iv_I),
  (((1, 3), .invokespecial 1, 0, 1, 598) : iv_I),
  (((4, 1), .aload_n 0, 0, 0, 0) : iv_I),
  (((5, 2), .bipush 6, 0, 0, 0) : iv_I),
  (((7, 2), .newarray .int, 100, 0, 78) : iv_I),
  (((9, 3), .putfield 7, 1, 1, 600) : iv_I),
  (((12, 1), .aload_n 0, 0, 0, 0) : iv_I),
  (((13, 2), .bipush 14, 0, 0, 0) : iv_I),
  (((15, 2), .newarray .int, 100, 0, 78) : iv_I),
  (((17, 3), .putfield 13, 1, 3, 602) : iv_I),
  (((20, 1), .aload_n 0, 0, 0, 0) : iv_I),
  (((21, 2), .bipush 14, 0, 0, 0) : iv_I),
  (((23, 2), .newarray .int, 100, 0, 78) : iv_I),
  (((25, 3), .putfield 16, 1, 4, 603) : iv_I),
  (((28, 1), .aload_n 0, 0, 0, 0) : iv_I),
  (((29, 2), .bipush 14, 0, 0, 0) : iv_I),
  (((31, 2), .newarray .boolean, 101, 0, 115) : iv_I),
  (((33, 3), .putfield 19, 1, 5, 604) : iv_I),
  (((36, 1), .aload_n 0, 0, 0, 0) : iv_I),
  (((37, 2), .bipush 84, 0, 0, 0) : iv_I),
  (((39, 2), .newarray .int, 100, 0, 78) : iv_I),
  (((41, 3), .putfield 23, 1, 6, 605) : iv_I),
  (((44, 1), .aload_n 0, 0, 0, 0) : iv_I),
  (((45, 2), .bipush 24, 0, 0, 0) : iv_I),
  (((47, 2), .newarray .int, 100, 0, 78) : iv_I),
  (((49, 3), .putfield 26, 1, 8, 607) : iv_I),
  (((52, 1), .aload_n 0, 0, 0, 0) : iv_I),
  (((53, 2), .bipush 24, 0, 0, 0) : iv_I),
  (((55, 2), .newarray .boolean, 101, 0, 115) : iv_I),
  (((57, 3), .putfield 29, 1, 9, 608) : iv_I),
  (((60, 1), .aload_n 0, 0, 0, 0) : iv_I),
  (((61, 2), .bipush 24, 0, 0, 0) : iv_I),
  (((63, 2), .newarray .int, 100, 0, 78) : iv_I),
  (((65, 3), .putfield 32, 1, 10, 609) : iv_I),
  (((68, 1), .aload_n 0, 0, 0, 0) : iv_I),
  (((69, 2), .bipush 24, 0, 0, 0) : iv_I),
  (((71, 2), .newarray .int, 100, 0, 78) : iv_I),
  (((73, 3), .putfield 35, 1, 11, 610) : iv_I),
  (((76, 1), .aload_n 0, 0, 0, 0) : iv_I),
  (((77, 2), .bipush 24, 0, 0, 0) : iv_I),
  (((79, 2), .newarray .int, 100, 0, 78) : iv_I),
  (((81, 3), .putfield 38, 1, 12, 611) : iv_I),
  (((84, 1), .aload_n 0, 0, 0, 0) : iv_I),
  (((85, 2), .bipush 24, 0, 0, 0) : iv_I),
  (((87, 2), .newarray .int, 100, 0, 78) : iv_I),
  (((89, 3), .putfield 41, 1, 13, 612) : iv_I),
  (((92, 1), .aload_n 0, 0, 0, 0) : iv_I),
  (((93, 1), .iconst 3, 0, 0, 0) : iv_I),
  (((94, 2), .newarray .int, 100, 0, 78) : iv_I),
  (((96, 3), .putfield 44, 1, 14, 613) : iv_I),
  (((99, 1), .aload_n 0, 0, 0, 0) : iv_I),
  (((100, 2), .bipush 9, 0, 0, 0) : iv_I),
  (((102, 2), .newarray .int, 100, 0, 78) : iv_I),
  (((104, 3), .putfield 47, 1, 15, 614) : iv_I),
  (((107, 1), .aload_n 0, 0, 0, 0) : iv_I),
  (((108, 2), .bipush 9, 0, 0, 0) : iv_I),
  (((110, 2), .newarray .int, 100, 0, 78) : iv_I),
  (((112, 3), .putfield 50, 1, 16, 615) : iv_I),
  (((115, 1), .aload_n 0, 0, 0, 0) : iv_I),
  (((116, 2), .bipush 9, 0, 0, 0) : iv_I),
  (((118, 2), .newarray .int, 100, 0, 78) : iv_I),
  (((120, 3), .putfield 53, 1, 17, 616) : iv_I),
  (((123, 1), .aload_n 0, 0, 0, 0) : iv_I),
  (((124, 1), .iconst 3, 0, 0, 0) : iv_I),
  (((125, 2), .newarray .boolean, 101, 0, 115) : iv_I),
  (((127, 3), .putfield 56, 1, 18, 617) : iv_I),
  (((130, 1), .aload_n 0, 0, 0, 0) : iv_I),
  (((131, 2), .bipush 6, 0, 0, 0) : iv_I),
  (((133, 2), .newarray .int, 100, 0, 78) : iv_I),
  (((135, 3), .putfield 59, 1, 19, 618) : iv_I),
  (((138, 1), .aload_n 0, 0, 0, 0) : iv_I),
  (((139, 1), .iconst 2, 0, 0, 0) : iv_I),
  (((140, 2), .newarray .int, 100, 0, 78) : iv_I),
  (((142, 3), .putfield 62, 1, 20, 619) : iv_I),
  (((145, 1), .aload_n 0, 0, 0, 0) : iv_I),
  (((146, 2), .bipush 8, 0, 0, 0) : iv_I),
  (((148, 2), .newarray .int, 100, 0, 78) : iv_I),
  (((150, 3), .putfield 65, 1, 21, 620) : iv_I),
  (((153, 1), .aload_n 0, 0, 0, 0) : iv_I),
  (((154, 2), .bipush 6, 0, 0, 0) : iv_I),
  (((156, 2), .newarray .int, 100, 0, 78) : iv_I),
  (((158, 3), .putfield 68, 1, 22, 621) : iv_I),
  (((161, 1), .aload_n 0, 0, 0, 0) : iv_I),
  (((162, 2), .bipush 24, 0, 0, 0) : iv_I),
  (((164, 2), .newarray .int, 100, 0, 78) : iv_I),
  (((166, 3), .putfield 71, 1, 23, 622) : iv_I),
  (((169, 1), .aload_n 0, 0, 0, 0) : iv_I),
  (((170, 2), .bipush 10, 0, 0, 0) : iv_I),
  (((172, 2), .newarray .int, 100, 0, 78) : iv_I),
  (((174, 3), .putfield 74, 1, 25, 624) : iv_I),
  (((177, 1), .aload_n 0, 0, 0, 0) : iv_I),
  (((178, 3), .sipush 140, 0, 0, 0) : iv_I),
  (((181, 2), .newarray .int, 100, 0, 78) : iv_I),
  (((183, 3), .putfield 77, 1, 26, 625) : iv_I),
  (((186, 1), .aload_n 0, 0, 0, 0) : iv_I),
  (((187, 3), .sipush 420, 0, 0, 0) : iv_I),
  (((190, 2), .newarray .int, 100, 0, 78) : iv_I),
  (((192, 3), .putfield 80, 1, 27, 626) : iv_I),
  (((195, 1), .aload_n 0, 0, 0, 0) : iv_I),
  (((196, 2), .bipush 16, 0, 0, 0) : iv_I),
  (((198, 2), .newarray .int, 100, 0, 78) : iv_I),
  (((200, 3), .putfield 83, 1, 29, 628) : iv_I),
  (((203, 1), .aload_n 0, 0, 0, 0) : iv_I),
  (((204, 2), .bipush 16, 0, 0, 0) : iv_I),
  (((206, 2), .newarray .int, 100, 0, 78) : iv_I),
  (((208, 3), .putfield 86, 1, 30, 629) : iv_I),
  (((211, 1), .aload_n 0, 0, 0, 0) : iv_I),
  (((212, 2), .bipush 16, 0, 0, 0) : iv_I),
  (((214, 2), .newarray .int, 100, 0, 78) : iv_I),
  (((216, 3), .putfield 89, 1, 31, 630) : iv_I),
  (((219, 1), .aload_n 0, 0, 0, 0) : iv_I),
  (((220, 2), .bipush 16, 0, 0, 0) : iv_I),
  (((222, 2), .newarray .int, 100, 0, 78) : iv_I),
  (((224, 3), .putfield 92, 1, 32, 631) : iv_I),
  (((227, 1), .aload_n 0, 0, 0, 0) : iv_I),
  (((228, 2), .bipush 16, 0, 0, 0) : iv_I),
  (((230, 2), .newarray .boolean, 101, 0, 115) : iv_I),
  (((232, 3), .putfield 95, 1, 33, 632) : iv_I),
  (((235, 1), .aload_n 0, 0, 0, 0) : iv_I),
  (((236, 2), .bipush 16, 0, 0, 0) : iv_I),
  (((238, 2), .newarray .int, 100, 0, 78) : iv_I),
  (((240, 3), .putfield 98, 1, 34, 633) : iv_I),
  (((243, 1), .aload_n 0, 0, 0, 0) : iv_I),
  (((244, 2), .bipush 16, 0, 0, 0) : iv_I),
  (((246, 2), .newarray .int, 100, 0, 78) : iv_I),
  (((248, 3), .putfield 101, 1, 35, 634) : iv_I),
  (((251, 1), .aload_n 0, 0, 0, 0) : iv_I),
  (((252, 2), .bipush 16, 0, 0, 0) : iv_I),
  (((254, 2), .newarray .int, 100, 0, 78) : iv_I),
  (((256, 3), .putfield 104, 1, 36, 635) : iv_I),
  (((259, 1), .aload_n 0, 0, 0, 0) : iv_I),
  (((260, 2), .bipush 17, 0, 0, 0) : iv_I),
  (((262, 2), .newarray .int, 100, 0, 78) : iv_I),
  (((264, 3), .putfield 107, 1, 37, 636) : iv_I),
  (((267, 1), .aload_n 0, 0, 0, 0) : iv_I),
  (((268, 2), .bipush 17, 0, 0, 0) : iv_I),
  (((270, 2), .newarray .int, 100, 0, 78) : iv_I),
  (((272, 3), .putfield 110, 1, 38, 637) : iv_I),
  (((275, 1), .aload_n 0, 0, 0, 0) : iv_I),
  (((276, 2), .bipush 16, 0, 0, 0) : iv_I),
  (((278, 2), .newarray .int, 100, 0, 78) : iv_I),
  (((280, 3), .putfield 113, 1, 40, 639) : iv_I),
  (((283, 1), .aload_n 0, 0, 0, 0) : iv_I),
  (((284, 3), .sipush 144, 0, 0, 0) : iv_I),
  (((287, 2), .newarray .int, 100, 0, 78) : iv_I),
  (((289, 3), .putfield 116, 1, 42, 641) : iv_I),
  (((292, 1), .aload_n 0, 0, 0, 0) : iv_I),
  (((293, 2), .bipush 24, 0, 0, 0) : iv_I),
  (((295, 2), .newarray .int, 100, 0, 78) : iv_I),
  (((297, 3), .putfield 119, 1, 43, 642) : iv_I),
  (((300, 1), .aload_n 0, 0, 0, 0) : iv_I),
  (((301, 3), .sipush 384, 0, 0, 0) : iv_I),
  (((304, 2), .newarray .int, 100, 0, 78) : iv_I),
  (((306, 3), .putfield 122, 1, 44, 643) : iv_I),
  (((309, 1), .aload_n 0, 0, 0, 0) : iv_I),
  (((310, 3), .sipush 384, 0, 0, 0) : iv_I),
  (((313, 2), .newarray .int, 100, 0, 78) : iv_I),
  (((315, 3), .putfield 125, 1, 45, 644) : iv_I),
  (((318, 1), .aload_n 0, 0, 0, 0) : iv_I),
  (((319, 3), .sipush 128, 0, 0, 0) : iv_I),
  (((322, 2), .newarray .int, 100, 0, 78) : iv_I),
  (((324, 3), .putfield 128, 1, 46, 645) : iv_I),
  (((327, 1), .return_, 0, 0, 0) : iv_I)]
/-- 25: RuleGraphModel.in(III)Z -/
def mc_25 : List iv_I := [
  (((0, 1), .iload_n 0, 0, 0, 0) : iv_I),
  (((1, 1), .iload_n 1, 0, 0, 0) : iv_I),
  (((2, 3), .if_icmp .lt 12, 8, 0, 0) : iv_I),
  (((5, 1), .iload_n 0, 0, 0, 0) : iv_I),
  (((6, 1), .iload_n 2, 0, 0, 0) : iv_I),
  (((7, 3), .if_icmp .gt 7, 8, 0, 0) : iv_I),
  (((10, 1), .iconst 1, 0, 0, 0) : iv_I),
  (((11, 3), .goto 4, 9, 0, 0) : iv_I),
  (((14, 1), .iconst 0, 0, 0, 0) : iv_I),
  (((15, 1), .ireturn, 0, 0, 0) : iv_I)]
/-- 26: RuleGraphModel.type(I)I -/
def mc_26 : List iv_I := [
  (((0, 1), .aload_n 0, 0, 0, 0) : iv_I),
  (((1, 3), .getfield 131, 1, 0, 599) : iv_I),
  (((4, 2), .bipush 6, 0, 0, 0) : iv_I),
  (((6, 3), .if_icmp .eq 17, 12, 0, 0) : iv_I),
  (((9, 1), .iload_n 1, 0, 0, 0) : iv_I),
  (((10, 1), .iconst (-1), 0, 0, 0) : iv_I),
  (((11, 1), .aload_n 0, 0, 0, 0) : iv_I),
  (((12, 3), .getfield 131, 1, 0, 599) : iv_I),
  (((15, 1), .iconst 1, 0, 0, 0) : iv_I),
  (((16, 1), .isub, 0, 0, 0) : iv_I),
  (((17, 3), .invokestatic 135, 25, 3, 748) : iv_I),
  (((20, 3), .ifCond .ne 5, 14, 0, 0) : iv_I),
  (((23, 1), .iconst (-1), 0, 0, 0) : iv_I),
  (((24, 1), .ireturn, 0, 0, 0) : iv_I),
  (((25, 1), .aload_n 0, 0, 0, 0) : iv_I),
  (((26, 3), .getfield 7, 1, 1, 600) : iv_I),
  (((29, 1), .aload_n 0, 0, 0, 0) : iv_I),
  (((30, 3), .getfield 131, 1, 0, 599) : iv_I),
  (((33, 1), .iload_n 1, 0, 0, 0) : iv_I),
  (((34, 1), .iastore, 0, 0, 0) : iv_I),
  (((35, 1), .aload_n 0, 0, 0, 0) : iv_I),
  (((36, 1), .dup, 0, 0, 0) : iv_I),
  (((37, 3), .getfield 131, 1, 0, 599) : iv_I),
  (((40, 1), .iconst 1, 0, 0, 0) : iv_I),
  (((41, 1), .iadd, 0, 0, 0) : iv_I),
  (((42, 3), .putfield 131, 1, 0, 599) : iv_I),
  (((45, 1), .aload_n 0, 0, 0, 0) : iv_I),
  (((46, 3), .getfield 131, 1, 0, 599) : iv_I),
  (((49, 1), .iconst 1, 0, 0, 0) : iv_I),
  (((50, 1), .isub, 0, 0, 0) : iv_I),
  (((51, 1), .ireturn, 0, 0, 0) : iv_I)]
/-- 27: RuleGraphModel.field(II)I -/
def mc_27 : List iv_I := [
  (((0, 1), .aload_n 0, 0, 0, 0) : iv_I),
  (((1, 3), .getfield 139, 1, 2, 601) : iv_I),
  (((4, 2), .bipush 14, 0, 0, 0) : iv_I),
  (((6, 3), .if_icmp .eq 26, 17, 0, 0) : iv_I),
  (((9, 1), .iload_n 1, 0, 0, 0) : iv_I),
  (((10, 1), .iconst 0, 0, 0, 0) : iv_I),
  (((11, 1), .aload_n 0, 0, 0, 0) : iv_I),
  (((12, 3), .getfield 131, 1, 0, 599) : iv_I),
  (((15, 1), .iconst 1, 0, 0, 0) : iv_I),
  (((16, 1), .isub, 0, 0, 0) : iv_I),
  (((17, 3), .invokestatic 135, 25, 3, 748) : iv_I),
  (((20, 3), .ifCond .eq 12, 17, 0, 0) : iv_I),
  (((23, 1), .iload_n 2, 0, 0, 0) : iv_I),
  (((24, 1), .iconst 0, 0, 0, 0) : iv_I),
  (((25, 1), .iconst 3, 0, 0, 0) : iv_I),
  (((26, 3), .invokestatic 135, 25, 3, 748) : iv_I),
  (((29, 3), .ifCond .ne 5, 19, 0, 0) : iv_I),
  (((32, 1), .iconst (-1), 0, 0, 0) : iv_I),
  (((33, 1), .ireturn, 0, 0, 0) : iv_I),
  (((34, 1), .aload_n 0, 0, 0, 0) : iv_I),
  (((35, 3), .getfield 13, 1, 3, 602) : iv_I),
  (((38, 1), .aload_n 0, 0, 0, 0) : iv_I),
  (((39, 3), .getfield 139, 1, 2, 601) : iv_I),
  (((42, 1), .iload_n 1, 0, 0, 0) : iv_I),
  (((43, 1), .iastore, 0, 0, 0) : iv_I),
  (((44, 1), .aload_n 0, 0, 0, 0) : iv_I),
  (((45, 3), .getfield 16, 1, 4, 603) : iv_I),
  (((48, 1), .aload_n 0, 0, 0, 0) : iv_I),
  (((49, 3), .getfield 139, 1, 2, 601) : iv_I),
  (((52, 1), .iload_n 2, 0, 0, 0) : iv_I),
  (((53, 1), .iastore, 0, 0, 0) : iv_I),
  (((54, 1), .aload_n 0, 0, 0, 0) : iv_I),
  (((55, 1), .dup, 0, 0, 0) : iv_I),
  (((56, 3), .getfield 139, 1, 2, 601) : iv_I),
  (((59, 1), .iconst 1, 0, 0, 0) : iv_I),
  (((60, 1), .iadd, 0, 0, 0) : iv_I),
  (((61, 3), .putfield 139, 1, 2, 601) : iv_I),
  (((64, 1), .aload_n 0, 0, 0, 0) : iv_I),
  (((65, 3), .getfield 139, 1, 2, 601) : iv_I),
  (((68, 1), .iconst 1, 0, 0, 0) : iv_I),
  (((69, 1), .isub, 0, 0, 0) : iv_I),
  (((70, 1), .ireturn, 0, 0, 0) : iv_I)]
/-- 28: RuleGraphModel.rule(IZIIII)I -/
def mc_28 : List iv_I := [
  (((0, 1), .aload_n 0, 0, 0, 0) : iv_I),
  (((1, 3), .getfield 142, 1, 7, 606) : iv_I),
  (((4, 2), .bipush 24, 0, 0, 0) : iv_I),
  (((6, 3), .if_icmp .eq 52, 30, 0, 0) : iv_I),
  (((9, 1), .iload_n 1, 0, 0, 0) : iv_I),
  (((10, 1), .iconst 0, 0, 0, 0) : iv_I),
  (((11, 1), .aload_n 0, 0, 0, 0) : iv_I),
  (((12, 3), .getfield 139, 1, 2, 601) : iv_I),
  (((15, 1), .iconst 1, 0, 0, 0) : iv_I),
  (((16, 1), .isub, 0, 0, 0) : iv_I),
  (((17, 3), .invokestatic 135, 25, 3, 748) : iv_I),
  (((20, 3), .ifCond .eq 38, 30, 0, 0) : iv_I),
  (((23, 1), .iload_n 3, 0, 0, 0) : iv_I),
  (((24, 1), .iconst 0, 0, 0, 0) : iv_I),
  (((25, 1), .iconst 4, 0, 0, 0) : iv_I),
  (((26, 3), .invokestatic 135, 25, 3, 748) : iv_I),
  (((29, 3), .ifCond .eq 29, 30, 0, 0) : iv_I),
  (((32, 1), .iload_n 3, 0, 0, 0) : iv_I),
  (((33, 1), .iconst 4, 0, 0, 0) : iv_I),
  (((34, 3), .if_icmp .ne 13, 25, 0, 0) : iv_I),
  (((37, 2), .iload 4, 0, 0, 0) : iv_I),
  (((39, 1), .iconst 0, 0, 0, 0) : iv_I),
  (((40, 1), .iconst 2, 0, 0, 0) : iv_I),
  (((41, 3), .invokestatic 135, 25, 3, 748) : iv_I),
  (((44, 3), .ifCond .eq 14, 30, 0, 0) : iv_I),
  (((47, 2), .iload 6, 0, 0, 0) : iv_I),
  (((49, 1), .iconst 1, 0, 0, 0) : iv_I),
  (((50, 2), .bipush 63, 0, 0, 0) : iv_I),
  (((52, 3), .invokestatic 135, 25, 3, 748) : iv_I),
  (((55, 3), .ifCond .ne 5, 32, 0, 0) : iv_I),
  (((58, 1), .iconst (-1), 0, 0, 0) : iv_I),
  (((59, 1), .ireturn, 0, 0, 0) : iv_I),
  (((60, 1), .aload_n 0, 0, 0, 0) : iv_I),
  (((61, 3), .getfield 26, 1, 8, 607) : iv_I),
  (((64, 1), .aload_n 0, 0, 0, 0) : iv_I),
  (((65, 3), .getfield 142, 1, 7, 606) : iv_I),
  (((68, 1), .iload_n 1, 0, 0, 0) : iv_I),
  (((69, 1), .iastore, 0, 0, 0) : iv_I),
  (((70, 1), .aload_n 0, 0, 0, 0) : iv_I),
  (((71, 3), .getfield 29, 1, 9, 608) : iv_I),
  (((74, 1), .aload_n 0, 0, 0, 0) : iv_I),
  (((75, 3), .getfield 142, 1, 7, 606) : iv_I),
  (((78, 1), .iload_n 2, 0, 0, 0) : iv_I),
  (((79, 1), .bastore, 0, 0, 0) : iv_I),
  (((80, 1), .aload_n 0, 0, 0, 0) : iv_I),
  (((81, 3), .getfield 32, 1, 10, 609) : iv_I),
  (((84, 1), .aload_n 0, 0, 0, 0) : iv_I),
  (((85, 3), .getfield 142, 1, 7, 606) : iv_I),
  (((88, 1), .iload_n 3, 0, 0, 0) : iv_I),
  (((89, 1), .iastore, 0, 0, 0) : iv_I),
  (((90, 1), .aload_n 0, 0, 0, 0) : iv_I),
  (((91, 3), .getfield 35, 1, 11, 610) : iv_I),
  (((94, 1), .aload_n 0, 0, 0, 0) : iv_I),
  (((95, 3), .getfield 142, 1, 7, 606) : iv_I),
  (((98, 2), .iload 4, 0, 0, 0) : iv_I),
  (((100, 1), .iastore, 0, 0, 0) : iv_I),
  (((101, 1), .aload_n 0, 0, 0, 0) : iv_I),
  (((102, 3), .getfield 38, 1, 12, 611) : iv_I),
  (((105, 1), .aload_n 0, 0, 0, 0) : iv_I),
  (((106, 3), .getfield 142, 1, 7, 606) : iv_I),
  (((109, 2), .iload 5, 0, 0, 0) : iv_I),
  (((111, 1), .iastore, 0, 0, 0) : iv_I),
  (((112, 1), .aload_n 0, 0, 0, 0) : iv_I),
  (((113, 3), .getfield 41, 1, 13, 612) : iv_I),
  (((116, 1), .aload_n 0, 0, 0, 0) : iv_I),
  (((117, 3), .getfield 142, 1, 7, 606) : iv_I),
  (((120, 2), .iload 6, 0, 0, 0) : iv_I),
  (((122, 1), .iastore, 0, 0, 0) : iv_I),
  (((123, 1), .aload_n 0, 0, 0, 0) : iv_I),
  (((124, 1), .dup, 0, 0, 0) : iv_I),
  (((125, 3), .getfield 142, 1, 7, 606) : iv_I),
  (((128, 1), .iconst 1, 0, 0, 0) : iv_I),
  (((129, 1), .iadd, 0, 0, 0) : iv_I),
  (((130, 3), .putfield 142, 1, 7, 606) : iv_I),
  (((133, 1), .aload_n 0, 0, 0, 0) : iv_I),
  (((134, 3), .getfield 142, 1, 7, 606) : iv_I),
  (((137, 1), .iconst 1, 0, 0, 0) : iv_I),
  (((138, 1), .isub, 0, 0, 0) : iv_I),
  (((139, 1), .ireturn, 0, 0, 0) : iv_I)]
/-- 29: RuleGraphModel.part(IIII)Z -/
def mc_29 : List iv_I := [
  (((0, 1), .iload_n 1, 0, 0, 0) : iv_I),
  (((1, 1), .iconst 0, 0, 0, 0) : iv_I),
  (((2, 1), .iconst 2, 0, 0, 0) : iv_I),
  (((3, 3), .invokestatic 135, 25, 3, 748) : iv_I),
  (((6, 3), .ifCond .eq 22, 16, 0, 0) : iv_I),
  (((9, 1), .iload_n 2, 0, 0, 0) : iv_I),
  (((10, 1), .iconst 0, 0, 0, 0) : iv_I),
  (((11, 1), .iconst 3, 0, 0, 0) : iv_I),
  (((12, 3), .invokestatic 135, 25, 3, 748) : iv_I),
  (((15, 3), .ifCond .eq 13, 16, 0, 0) : iv_I),
  (((18, 1), .aload_n 0, 0, 0, 0) : iv_I),
  (((19, 3), .getfield 44, 1, 14, 613) : iv_I),
  (((22, 1), .iload_n 1, 0, 0, 0) : iv_I),
  (((23, 1), .iaload, 0, 0, 0) : iv_I),
  (((24, 1), .iconst 3, 0, 0, 0) : iv_I),
  (((25, 3), .if_icmp .ne 5, 18, 0, 0) : iv_I),
  (((28, 1), .iconst 0, 0, 0, 0) : iv_I),
  (((29, 1), .ireturn, 0, 0, 0) : iv_I),
  (((30, 1), .iconst 3, 0, 0, 0) : iv_I),
  (((31, 1), .iload_n 1, 0, 0, 0) : iv_I),
  (((32, 1), .imul, 0, 0, 0) : iv_I),
  (((33, 1), .aload_n 0, 0, 0, 0) : iv_I),
  (((34, 3), .getfield 44, 1, 14, 613) : iv_I),
  (((37, 1), .iload_n 1, 0, 0, 0) : iv_I),
  (((38, 1), .iaload, 0, 0, 0) : iv_I),
  (((39, 1), .iadd, 0, 0, 0) : iv_I),
  (((40, 2), .istore 5, 0, 0, 0) : iv_I),
  (((42, 1), .aload_n 0, 0, 0, 0) : iv_I),
  (((43, 3), .getfield 47, 1, 15, 614) : iv_I),
  (((46, 2), .iload 5, 0, 0, 0) : iv_I),
  (((48, 1), .iload_n 2, 0, 0, 0) : iv_I),
  (((49, 1), .iastore, 0, 0, 0) : iv_I),
  (((50, 1), .aload_n 0, 0, 0, 0) : iv_I),
  (((51, 3), .getfield 50, 1, 16, 615) : iv_I),
  (((54, 2), .iload 5, 0, 0, 0) : iv_I),
  (((56, 1), .iload_n 3, 0, 0, 0) : iv_I),
  (((57, 1), .iastore, 0, 0, 0) : iv_I),
  (((58, 1), .aload_n 0, 0, 0, 0) : iv_I),
  (((59, 3), .getfield 53, 1, 17, 616) : iv_I),
  (((62, 2), .iload 5, 0, 0, 0) : iv_I),
  (((64, 2), .iload 4, 0, 0, 0) : iv_I),
  (((66, 1), .iastore, 0, 0, 0) : iv_I),
  (((67, 1), .aload_n 0, 0, 0, 0) : iv_I),
  (((68, 3), .getfield 44, 1, 14, 613) : iv_I),
  (((71, 1), .iload_n 1, 0, 0, 0) : iv_I),
  (((72, 1), .dup2, 0, 0, 0) : iv_I),
  (((73, 1), .iaload, 0, 0, 0) : iv_I),
  (((74, 1), .iconst 1, 0, 0, 0) : iv_I),
  (((75, 1), .iadd, 0, 0, 0) : iv_I),
  (((76, 1), .iastore, 0, 0, 0) : iv_I),
  (((77, 1), .iconst 1, 0, 0, 0) : iv_I),
  (((78, 1), .ireturn, 0, 0, 0) : iv_I)]
/-- 30: RuleGraphModel.single(IZ)Z -/
def mc_30 : List iv_I := [
  (((0, 1), .iload_n 1, 0, 0, 0) : iv_I),
  (((1, 1), .iconst 0, 0, 0, 0) : iv_I),
  (((2, 1), .iconst 2, 0, 0, 0) : iv_I),
  (((3, 3), .invokestatic 135, 25, 3, 748) : iv_I),
  (((6, 3), .ifCond .ne 5, 7, 0, 0) : iv_I),
  (((9, 1), .iconst 0, 0, 0, 0) : iv_I),
  (((10, 1), .ireturn, 0, 0, 0) : iv_I),
  (((11, 1), .aload_n 0, 0, 0, 0) : iv_I),
  (((12, 3), .getfield 56, 1, 18, 617) : iv_I),
  (((15, 1), .iload_n 1, 0, 0, 0) : iv_I),
  (((16, 1), .iload_n 2, 0, 0, 0) : iv_I),
  (((17, 1), .bastore, 0, 0, 0) : iv_I),
  (((18, 1), .iconst 1, 0, 0, 0) : iv_I),
  (((19, 1), .ireturn, 0, 0, 0) : iv_I)]
/-- 31: RuleGraphModel.closure(I)I -/
def mc_31 : List iv_I := [
  (((0, 1), .iconst 1, 0, 0, 0) : iv_I),
  (((1, 1), .iload_n 1, 0, 0, 0) : iv_I),
  (((2, 1), .ishl, 0, 0, 0) : iv_I),
  (((3, 1), .istore_n 2, 0, 0, 0) : iv_I),
  (((4, 1), .iconst 0, 0, 0, 0) : iv_I),
  (((5, 1), .istore_n 3, 0, 0, 0) : iv_I),
  (((6, 1), .iload_n 3, 0, 0, 0) : iv_I),
  (((7, 2), .bipush 6, 0, 0, 0) : iv_I),
  (((9, 3), .if_icmp .ge 49, 34, 0, 0) : iv_I),
  (((12, 1), .iconst 0, 0, 0, 0) : iv_I),
  (((13, 2), .istore 4, 0, 0, 0) : iv_I),
  (((15, 2), .iload 4, 0, 0, 0) : iv_I),
  (((17, 2), .bipush 6, 0, 0, 0) : iv_I),
  (((19, 3), .if_icmp .ge 33, 32, 0, 0) : iv_I),
  (((22, 1), .iload_n 2, 0, 0, 0) : iv_I),
  (((23, 2), .iload 4, 0, 0, 0) : iv_I),
  (((25, 1), .ishr, 0, 0, 0) : iv_I),
  (((26, 1), .iconst 1, 0, 0, 0) : iv_I),
  (((27, 1), .iand, 0, 0, 0) : iv_I),
  (((28, 1), .iconst 1, 0, 0, 0) : iv_I),
  (((29, 3), .if_icmp .ne 15, 28, 0, 0) : iv_I),
  (((32, 1), .iload_n 2, 0, 0, 0) : iv_I),
  (((33, 1), .aload_n 0, 0, 0, 0) : iv_I),
  (((34, 3), .getfield 59, 1, 19, 618) : iv_I),
  (((37, 2), .iload 4, 0, 0, 0) : iv_I),
  (((39, 1), .iaload, 0, 0, 0) : iv_I),
  (((40, 1), .ior, 0, 0, 0) : iv_I),
  (((41, 3), .goto 4, 29, 0, 0) : iv_I),
  (((44, 1), .iload_n 2, 0, 0, 0) : iv_I),
  (((45, 1), .istore_n 2, 0, 0, 0) : iv_I),
  (((46, 3), .iinc 4 1, 0, 0, 0) : iv_I),
  (((49, 3), .goto (-34), 11, 0, 0) : iv_I),
  (((52, 3), .iinc 3 1, 0, 0, 0) : iv_I),
  (((55, 3), .goto (-49), 6, 0, 0) : iv_I),
  (((58, 1), .iload_n 2, 0, 0, 0) : iv_I),
  (((59, 1), .ireturn, 0, 0, 0) : iv_I)]
/-- 32: RuleGraphModel.extend(II)Z -/
def mc_32 : List iv_I := [
  (((0, 1), .iload_n 1, 0, 0, 0) : iv_I),
  (((1, 1), .iconst 0, 0, 0, 0) : iv_I),
  (((2, 1), .iconst 5, 0, 0, 0) : iv_I),
  (((3, 3), .invokestatic 135, 25, 3, 748) : iv_I),
  (((6, 3), .ifCond .eq 25, 19, 0, 0) : iv_I),
  (((9, 1), .iload_n 2, 0, 0, 0) : iv_I),
  (((10, 1), .iconst 0, 0, 0, 0) : iv_I),
  (((11, 1), .iconst 5, 0, 0, 0) : iv_I),
  (((12, 3), .invokestatic 135, 25, 3, 748) : iv_I),
  (((15, 3), .ifCond .eq 16, 19, 0, 0) : iv_I),
  (((18, 1), .aload_n 0, 0, 0, 0) : iv_I),
  (((19, 1), .iload_n 2, 0, 0, 0) : iv_I),
  (((20, 3), .invokevirtual 145, 31, 2, 771) : iv_I),
  (((23, 1), .iload_n 1, 0, 0, 0) : iv_I),
  (((24, 1), .ishr, 0, 0, 0) : iv_I),
  (((25, 1), .iconst 1, 0, 0, 0) : iv_I),
  (((26, 1), .iand, 0, 0, 0) : iv_I),
  (((27, 1), .iconst 1, 0, 0, 0) : iv_I),
  (((28, 3), .if_icmp .ne 5, 21, 0, 0) : iv_I),
  (((31, 1), .iconst 0, 0, 0, 0) : iv_I),
  (((32, 1), .ireturn, 0, 0, 0) : iv_I),
  (((33, 1), .aload_n 0, 0, 0, 0) : iv_I),
  (((34, 3), .getfield 59, 1, 19, 618) : iv_I),
  (((37, 1), .iload_n 1, 0, 0, 0) : iv_I),
  (((38, 1), .aload_n 0, 0, 0, 0) : iv_I),
  (((39, 3), .getfield 59, 1, 19, 618) : iv_I),
  (((42, 1), .iload_n 1, 0, 0, 0) : iv_I),
  (((43, 1), .iaload, 0, 0, 0) : iv_I),
  (((44, 1), .iconst 1, 0, 0, 0) : iv_I),
  (((45, 1), .iload_n 2, 0, 0, 0) : iv_I),
  (((46, 1), .ishl, 0, 0, 0) : iv_I),
  (((47, 1), .ior, 0, 0, 0) : iv_I),
  (((48, 1), .iastore, 0, 0, 0) : iv_I),
  (((49, 1), .iconst 1, 0, 0, 0) : iv_I),
  (((50, 1), .ireturn, 0, 0, 0) : iv_I)]
/-- 33: RuleGraphModel.member(II)Z -/
def mc_33 : List iv_I := [
  (((0, 1), .iload_n 1, 0, 0, 0) : iv_I),
  (((1, 2), .bipush 6, 0, 0, 0) : iv_I),
  (((3, 2), .bipush 7, 0, 0, 0) : iv_I),
  (((5, 3), .invokestatic 135, 25, 3, 748) : iv_I),
  (((8, 3), .ifCond .eq 26, 18, 0, 0) : iv_I),
  (((11, 1), .iload_n 2, 0, 0, 0) : iv_I),
  (((12, 1), .iconst 0, 0, 0, 0) : iv_I),
  (((13, 2), .bipush 7, 0, 0, 0) : iv_I),
  (((15, 3), .invokestatic 135, 25, 3, 748) : iv_I),
  (((18, 3), .ifCond .eq 16, 18, 0, 0) : iv_I),
  (((21, 1), .aload_n 0, 0, 0, 0) : iv_I),
  (((22, 3), .getfield 62, 1, 20, 619) : iv_I),
  (((25, 1), .iload_n 1, 0, 0, 0) : iv_I),
  (((26, 2), .bipush 6, 0, 0, 0) : iv_I),
  (((28, 1), .isub, 0, 0, 0) : iv_I),
  (((29, 1), .iaload, 0, 0, 0) : iv_I),
  (((30, 1), .iconst 4, 0, 0, 0) : iv_I),
  (((31, 3), .if_icmp .ne 5, 20, 0, 0) : iv_I),
  (((34, 1), .iconst 0, 0, 0, 0) : iv_I),
  (((35, 1), .ireturn, 0, 0, 0) : iv_I),
  (((36, 1), .aload_n 0, 0, 0, 0) : iv_I),
  (((37, 3), .getfield 65, 1, 21, 620) : iv_I),
  (((40, 1), .iconst 4, 0, 0, 0) : iv_I),
  (((41, 1), .iload_n 1, 0, 0, 0) : iv_I),
  (((42, 2), .bipush 6, 0, 0, 0) : iv_I),
  (((44, 1), .isub, 0, 0, 0) : iv_I),
  (((45, 1), .imul, 0, 0, 0) : iv_I),
  (((46, 1), .aload_n 0, 0, 0, 0) : iv_I),
  (((47, 3), .getfield 62, 1, 20, 619) : iv_I),
  (((50, 1), .iload_n 1, 0, 0, 0) : iv_I),
  (((51, 2), .bipush 6, 0, 0, 0) : iv_I),
  (((53, 1), .isub, 0, 0, 0) : iv_I),
  (((54, 1), .iaload, 0, 0, 0) : iv_I),
  (((55, 1), .iadd, 0, 0, 0) : iv_I),
  (((56, 1), .iload_n 2, 0, 0, 0) : iv_I),
  (((57, 1), .iastore, 0, 0, 0) : iv_I),
  (((58, 1), .aload_n 0, 0, 0, 0) : iv_I),
  (((59, 3), .getfield 62, 1, 20, 619) : iv_I),
  (((62, 1), .iload_n 1, 0, 0, 0) : iv_I),
  (((63, 2), .bipush 6, 0, 0, 0) : iv_I),
  (((65, 1), .isub, 0, 0, 0) : iv_I),
  (((66, 1), .dup2, 0, 0, 0) : iv_I),
  (((67, 1), .iaload, 0, 0, 0) : iv_I),
  (((68, 1), .iconst 1, 0, 0, 0) : iv_I),
  (((69, 1), .iadd, 0, 0, 0) : iv_I),
  (((70, 1), .iastore, 0, 0, 0) : iv_I),
  (((71, 1), .iconst 1, 0, 0, 0) : iv_I),
  (((72, 1), .ireturn, 0, 0, 0) : iv_I)]
/-- 34: RuleGraphModel.order(II)Z -/
def mc_34 : List iv_I := [
  (((0, 1), .iload_n 1, 0, 0, 0) : iv_I),
  (((1, 1), .iconst 0, 0, 0, 0) : iv_I),
  (((2, 1), .aload_n 0, 0, 0, 0) : iv_I),
  (((3, 3), .getfield 131, 1, 0, 599) : iv_I),
  (((6, 1), .iconst 1, 0, 0, 0) : iv_I),
  (((7, 1), .isub, 0, 0, 0) : iv_I),
  (((8, 3), .invokestatic 135, 25, 3, 748) : iv_I),
  (((11, 3), .ifCond .eq 22, 19, 0, 0) : iv_I),
  (((14, 1), .iload_n 2, 0, 0, 0) : iv_I),
  (((15, 1), .iconst (-1), 0, 0, 0) : iv_I),
  (((16, 1), .iconst 5, 0, 0, 0) : iv_I),
  (((17, 3), .invokestatic 135, 25, 3, 748) : iv_I),
  (((20, 3), .ifCond .eq 13, 19, 0, 0) : iv_I),
  (((23, 1), .aload_n 0, 0, 0, 0) : iv_I),
  (((24, 3), .getfield 68, 1, 22, 621) : iv_I),
  (((27, 1), .iload_n 1, 0, 0, 0) : iv_I),
  (((28, 1), .iaload, 0, 0, 0) : iv_I),
  (((29, 1), .iconst 4, 0, 0, 0) : iv_I),
  (((30, 3), .if_icmp .ne 5, 21, 0, 0) : iv_I),
  (((33, 1), .iconst 0, 0, 0, 0) : iv_I),
  (((34, 1), .ireturn, 0, 0, 0) : iv_I),
  (((35, 1), .aload_n 0, 0, 0, 0) : iv_I),
  (((36, 3), .getfield 71, 1, 23, 622) : iv_I),
  (((39, 1), .iconst 4, 0, 0, 0) : iv_I),
  (((40, 1), .iload_n 1, 0, 0, 0) : iv_I),
  (((41, 1), .imul, 0, 0, 0) : iv_I),
  (((42, 1), .aload_n 0, 0, 0, 0) : iv_I),
  (((43, 3), .getfield 68, 1, 22, 621) : iv_I),
  (((46, 1), .iload_n 1, 0, 0, 0) : iv_I),
  (((47, 1), .iaload, 0, 0, 0) : iv_I),
  (((48, 1), .iadd, 0, 0, 0) : iv_I),
  (((49, 1), .iload_n 2, 0, 0, 0) : iv_I),
  (((50, 1), .iastore, 0, 0, 0) : iv_I),
  (((51, 1), .aload_n 0, 0, 0, 0) : iv_I),
  (((52, 3), .getfield 68, 1, 22, 621) : iv_I),
  (((55, 1), .iload_n 1, 0, 0, 0) : iv_I),
  (((56, 1), .dup2, 0, 0, 0) : iv_I),
  (((57, 1), .iaload, 0, 0, 0) : iv_I),
  (((58, 1), .iconst 1, 0, 0, 0) : iv_I),
  (((59, 1), .iadd, 0, 0, 0) : iv_I),
  (((60, 1), .iastore, 0, 0, 0) : iv_I),
  (((61, 1), .iconst 1, 0, 0, 0) : iv_I),
  (((62, 1), .ireturn, 0, 0, 0) : iv_I)]
/-- 35: RuleGraphModel.cascade(I)Z -/
def mc_35 : List iv_I := [
  (((0, 1), .iload_n 1, 0, 0, 0) : iv_I),
  (((1, 1), .iconst 0, 0, 0, 0) : iv_I),
  (((2, 1), .aload_n 0, 0, 0, 0) : iv_I),
  (((3, 3), .getfield 139, 1, 2, 601) : iv_I),
  (((6, 1), .iconst 1, 0, 0, 0) : iv_I),
  (((7, 1), .isub, 0, 0, 0) : iv_I),
  (((8, 3), .invokestatic 135, 25, 3, 748) : iv_I),
  (((11, 3), .ifCond .eq 22, 19, 0, 0) : iv_I),
  (((14, 1), .aload_n 0, 0, 0, 0) : iv_I),
  (((15, 3), .getfield 16, 1, 4, 603) : iv_I),
  (((18, 1), .iload_n 1, 0, 0, 0) : iv_I),
  (((19, 1), .iaload, 0, 0, 0) : iv_I),
  (((20, 3), .ifCond .eq 13, 19, 0, 0) : iv_I),
  (((23, 1), .aload_n 0, 0, 0, 0) : iv_I),
  (((24, 3), .getfield 16, 1, 4, 603) : iv_I),
  (((27, 1), .iload_n 1, 0, 0, 0) : iv_I),
  (((28, 1), .iaload, 0, 0, 0) : iv_I),
  (((29, 1), .iconst 2, 0, 0, 0) : iv_I),
  (((30, 3), .if_icmp .ne 5, 21, 0, 0) : iv_I),
  (((33, 1), .iconst 0, 0, 0, 0) : iv_I),
  (((34, 1), .ireturn, 0, 0, 0) : iv_I),
  (((35, 1), .aload_n 0, 0, 0, 0) : iv_I),
  (((36, 3), .getfield 19, 1, 5, 604) : iv_I),
  (((39, 1), .iload_n 1, 0, 0, 0) : iv_I),
  (((40, 1), .iconst 1, 0, 0, 0) : iv_I),
  (((41, 1), .bastore, 0, 0, 0) : iv_I),
  (((42, 1), .iconst 1, 0, 0, 0) : iv_I),
  (((43, 1), .ireturn, 0, 0, 0) : iv_I)]
/-- 36: RuleGraphModel.convert(III)Z -/
def mc_36 : List iv_I := [
  (((0, 1), .iload_n 1, 0, 0, 0) : iv_I),
  (((1, 1), .iconst 0, 0, 0, 0) : iv_I),
  (((2, 1), .aload_n 0, 0, 0, 0) : iv_I),
  (((3, 3), .getfield 139, 1, 2, 601) : iv_I),
  (((6, 1), .iconst 1, 0, 0, 0) : iv_I),
  (((7, 1), .isub, 0, 0, 0) : iv_I),
  (((8, 3), .invokestatic 135, 25, 3, 748) : iv_I),
  (((11, 3), .ifCond .eq 21, 18, 0, 0) : iv_I),
  (((14, 1), .iload_n 2, 0, 0, 0) : iv_I),
  (((15, 1), .iconst 0, 0, 0, 0) : iv_I),
  (((16, 1), .iconst 5, 0, 0, 0) : iv_I),
  (((17, 3), .invokestatic 135, 25, 3, 748) : iv_I),
  (((20, 3), .ifCond .eq 12, 18, 0, 0) : iv_I),
  (((23, 1), .iload_n 3, 0, 0, 0) : iv_I),
  (((24, 1), .iconst 0, 0, 0, 0) : iv_I),
  (((25, 1), .iconst 5, 0, 0, 0) : iv_I),
  (((26, 3), .invokestatic 135, 25, 3, 748) : iv_I),
  (((29, 3), .ifCond .ne 5, 20, 0, 0) : iv_I),
  (((32, 1), .iconst 0, 0, 0, 0) : iv_I),
  (((33, 1), .ireturn, 0, 0, 0) : iv_I),
  (((34, 1), .aload_n 0, 0, 0, 0) : iv_I),
  (((35, 3), .getfield 23, 1, 6, 605) : iv_I),
  (((38, 2), .bipush 6, 0, 0, 0) : iv_I),
  (((40, 1), .iload_n 1, 0, 0, 0) : iv_I),
  (((41, 1), .imul, 0, 0, 0) : iv_I),
  (((42, 1), .iload_n 2, 0, 0, 0) : iv_I),
  (((43, 1), .iadd, 0, 0, 0) : iv_I),
  (((44, 1), .iload_n 3, 0, 0, 0) : iv_I),
  (((45, 1), .iconst 1, 0, 0, 0) : iv_I),
  (((46, 1), .iadd, 0, 0, 0) : iv_I),
  (((47, 1), .iastore, 0, 0, 0) : iv_I),
  (((48, 1), .iconst 1, 0, 0, 0) : iv_I),
  (((49, 1), .ireturn, 0, 0, 0) : iv_I)]
/-- 37: RuleGraphModel.object(I)I -/
def mc_37 : List iv_I := [
  (((0, 1), .aload_n 0, 0, 0, 0) : iv_I),
  (((1, 3), .getfield 149, 1, 24, 623) : iv_I),
  (((4, 2), .bipush 10, 0, 0, 0) : iv_I),
  (((6, 3), .if_icmp .eq 17, 12, 0, 0) : iv_I),
  (((9, 1), .iload_n 1, 0, 0, 0) : iv_I),
  (((10, 1), .iconst 0, 0, 0, 0) : iv_I),
  (((11, 1), .aload_n 0, 0, 0, 0) : iv_I),
  (((12, 3), .getfield 131, 1, 0, 599) : iv_I),
  (((15, 1), .iconst 1, 0, 0, 0) : iv_I),
  (((16, 1), .isub, 0, 0, 0) : iv_I),
  (((17, 3), .invokestatic 135, 25, 3, 748) : iv_I),
  (((20, 3), .ifCond .ne 5, 14, 0, 0) : iv_I),
  (((23, 1), .iconst (-1), 0, 0, 0) : iv_I),
  (((24, 1), .ireturn, 0, 0, 0) : iv_I),
  (((25, 1), .aload_n 0, 0, 0, 0) : iv_I),
  (((26, 3), .getfield 74, 1, 25, 624) : iv_I),
  (((29, 1), .aload_n 0, 0, 0, 0) : iv_I),
  (((30, 3), .getfield 149, 1, 24, 623) : iv_I),
  (((33, 1), .iload_n 1, 0, 0, 0) : iv_I),
  (((34, 1), .iastore, 0, 0, 0) : iv_I),
  (((35, 1), .aload_n 0, 0, 0, 0) : iv_I),
  (((36, 1), .dup, 0, 0, 0) : iv_I),
  (((37, 3), .getfield 149, 1, 24, 623) : iv_I),
  (((40, 1), .iconst 1, 0, 0, 0) : iv_I),
  (((41, 1), .iadd, 0, 0, 0) : iv_I),
  (((42, 3), .putfield 149, 1, 24, 623) : iv_I),
  (((45, 1), .aload_n 0, 0, 0, 0) : iv_I),
  (((46, 3), .getfield 149, 1, 24, 623) : iv_I),
  (((49, 1), .iconst 1, 0, 0, 0) : iv_I),
  (((50, 1), .isub, 0, 0, 0) : iv_I),
  (((51, 1), .ireturn, 0, 0, 0) : iv_I)]
/-- 38: RuleGraphModel.has(II)Z -/
def mc_38 : List iv_I := [
  (((0, 1), .iload_n 1, 0, 0, 0) : iv_I),
  (((1, 1), .iconst 0, 0, 0, 0) : iv_I),
  (((2, 1), .aload_n 0, 0, 0, 0) : iv_I),
  (((3, 3), .getfield 149, 1, 24, 623) : iv_I),
  (((6, 1), .iconst 1, 0, 0, 0) : iv_I),
  (((7, 1), .isub, 0, 0, 0) : iv_I),
  (((8, 3), .invokestatic 135, 25, 3, 748) : iv_I),
  (((11, 3), .ifCond .eq 17, 16, 0, 0) : iv_I),
  (((14, 1), .iload_n 2, 0, 0, 0) : iv_I),
  (((15, 1), .iconst 0, 0, 0, 0) : iv_I),
  (((16, 1), .aload_n 0, 0, 0, 0) : iv_I),
  (((17, 3), .getfield 139, 1, 2, 601) : iv_I),
  (((20, 1), .iconst 1, 0, 0, 0) : iv_I),
  (((21, 1), .isub, 0, 0, 0) : iv_I),
  (((22, 3), .invokestatic 135, 25, 3, 748) : iv_I),
  (((25, 3), .ifCond .ne 5, 18, 0, 0) : iv_I),
  (((28, 1), .iconst 0, 0, 0, 0) : iv_I),
  (((29, 1), .ireturn, 0, 0, 0) : iv_I),
  (((30, 1), .iconst 0, 0, 0, 0) : iv_I),
  (((31, 1), .istore_n 3, 0, 0, 0) : iv_I),
  (((32, 1), .aload_n 0, 0, 0, 0) : iv_I),
  (((33, 3), .getfield 74, 1, 25, 624) : iv_I),
  (((36, 1), .iload_n 1, 0, 0, 0) : iv_I),
  (((37, 1), .iaload, 0, 0, 0) : iv_I),
  (((38, 2), .istore 4, 0, 0, 0) : iv_I),
  (((40, 2), .iload 4, 0, 0, 0) : iv_I),
  (((42, 3), .ifCond .lt 36, 45, 0, 0) : iv_I),
  (((45, 1), .iload_n 3, 0, 0, 0) : iv_I),
  (((46, 3), .ifCond .ne 14, 35, 0, 0) : iv_I),
  (((49, 2), .iload 4, 0, 0, 0) : iv_I),
  (((51, 1), .aload_n 0, 0, 0, 0) : iv_I),
  (((52, 3), .getfield 13, 1, 3, 602) : iv_I),
  (((55, 1), .iload_n 2, 0, 0, 0) : iv_I),
  (((56, 1), .iaload, 0, 0, 0) : iv_I),
  (((57, 3), .if_icmp .ne 7, 37, 0, 0) : iv_I),
  (((60, 1), .iconst 1, 0, 0, 0) : iv_I),
  (((61, 3), .goto 4, 38, 0, 0) : iv_I),
  (((64, 1), .iconst 0, 0, 0, 0) : iv_I),
  (((65, 1), .istore_n 3, 0, 0, 0) : iv_I),
  (((66, 1), .aload_n 0, 0, 0, 0) : iv_I),
  (((67, 3), .getfield 7, 1, 1, 600) : iv_I),
  (((70, 2), .iload 4, 0, 0, 0) : iv_I),
  (((72, 1), .iaload, 0, 0, 0) : iv_I),
  (((73, 2), .istore 4, 0, 0, 0) : iv_I),
  (((75, 3), .goto (-35), 25, 0, 0) : iv_I),
  (((78, 1), .iload_n 3, 0, 0, 0) : iv_I),
  (((79, 1), .ireturn, 0, 0, 0) : iv_I)]
/-- 39: RuleGraphModel.put(III)Z -/
def mc_39 : List iv_I := [
  (((0, 1), .aload_n 0, 0, 0, 0) : iv_I),
  (((1, 1), .iload_n 1, 0, 0, 0) : iv_I),
  (((2, 1), .iload_n 2, 0, 0, 0) : iv_I),
  (((3, 3), .invokevirtual 152, 38, 3, 799) : iv_I),
  (((6, 3), .ifCond .eq 37, 25, 0, 0) : iv_I),
  (((9, 1), .aload_n 0, 0, 0, 0) : iv_I),
  (((10, 3), .getfield 16, 1, 4, 603) : iv_I),
  (((13, 1), .iload_n 2, 0, 0, 0) : iv_I),
  (((14, 1), .iaload, 0, 0, 0) : iv_I),
  (((15, 1), .iconst 1, 0, 0, 0) : iv_I),
  (((16, 3), .if_icmp .gt 27, 25, 0, 0) : iv_I),
  (((19, 1), .aload_n 0, 0, 0, 0) : iv_I),
  (((20, 3), .getfield 16, 1, 4, 603) : iv_I),
  (((23, 1), .iload_n 2, 0, 0, 0) : iv_I),
  (((24, 1), .iaload, 0, 0, 0) : iv_I),
  (((25, 1), .iconst 1, 0, 0, 0) : iv_I),
  (((26, 3), .if_icmp .ne 19, 27, 0, 0) : iv_I),
  (((29, 1), .iload_n 3, 0, 0, 0) : iv_I),
  (((30, 1), .iconst (-1), 0, 0, 0) : iv_I),
  (((31, 1), .aload_n 0, 0, 0, 0) : iv_I),
  (((32, 3), .getfield 149, 1, 24, 623) : iv_I),
  (((35, 1), .iconst 1, 0, 0, 0) : iv_I),
  (((36, 1), .isub, 0, 0, 0) : iv_I),
  (((37, 3), .invokestatic 135, 25, 3, 748) : iv_I),
  (((40, 3), .ifCond .ne 5, 27, 0, 0) : iv_I),
  (((43, 1), .iconst 0, 0, 0, 0) : iv_I),
  (((44, 1), .ireturn, 0, 0, 0) : iv_I),
  (((45, 1), .aload_n 0, 0, 0, 0) : iv_I),
  (((46, 3), .getfield 77, 1, 26, 625) : iv_I),
  (((49, 2), .bipush 14, 0, 0, 0) : iv_I),
  (((51, 1), .iload_n 1, 0, 0, 0) : iv_I),
  (((52, 1), .imul, 0, 0, 0) : iv_I),
  (((53, 1), .iload_n 2, 0, 0, 0) : iv_I),
  (((54, 1), .iadd, 0, 0, 0) : iv_I),
  (((55, 1), .aload_n 0, 0, 0, 0) : iv_I),
  (((56, 3), .getfield 16, 1, 4, 603) : iv_I),
  (((59, 1), .iload_n 2, 0, 0, 0) : iv_I),
  (((60, 1), .iaload, 0, 0, 0) : iv_I),
  (((61, 1), .iconst 1, 0, 0, 0) : iv_I),
  (((62, 3), .if_icmp .ne 9, 44, 0, 0) : iv_I),
  (((65, 1), .iload_n 3, 0, 0, 0) : iv_I),
  (((66, 1), .iconst 1, 0, 0, 0) : iv_I),
  (((67, 1), .iadd, 0, 0, 0) : iv_I),
  (((68, 3), .goto 4, 45, 0, 0) : iv_I),
  (((71, 1), .iload_n 3, 0, 0, 0) : iv_I),
  (((72, 1), .iastore, 0, 0, 0) : iv_I),
  (((73, 1), .iconst 1, 0, 0, 0) : iv_I),
  (((74, 1), .ireturn, 0, 0, 0) : iv_I)]
/-- 40: RuleGraphModel.append(III)Z -/
def mc_40 : List iv_I := [
  (((0, 1), .aload_n 0, 0, 0, 0) : iv_I),
  (((1, 1), .iload_n 1, 0, 0, 0) : iv_I),
  (((2, 1), .iload_n 2, 0, 0, 0) : iv_I),
  (((3, 3), .invokevirtual 152, 38, 3, 799) : iv_I),
  (((6, 3), .ifCond .eq 37, 25, 0, 0) : iv_I),
  (((9, 1), .aload_n 0, 0, 0, 0) : iv_I),
  (((10, 3), .getfield 16, 1, 4, 603) : iv_I),
  (((13, 1), .iload_n 2, 0, 0, 0) : iv_I),
  (((14, 1), .iaload, 0, 0, 0) : iv_I),
  (((15, 1), .iconst 2, 0, 0, 0) : iv_I),
  (((16, 3), .if_icmp .lt 27, 25, 0, 0) : iv_I),
  (((19, 1), .aload_n 0, 0, 0, 0) : iv_I),
  (((20, 3), .getfield 16, 1, 4, 603) : iv_I),
  (((23, 1), .iload_n 2, 0, 0, 0) : iv_I),
  (((24, 1), .iaload, 0, 0, 0) : iv_I),
  (((25, 1), .iconst 3, 0, 0, 0) : iv_I),
  (((26, 3), .if_icmp .ne 19, 27, 0, 0) : iv_I),
  (((29, 1), .iload_n 3, 0, 0, 0) : iv_I),
  (((30, 1), .iconst 0, 0, 0, 0) : iv_I),
  (((31, 1), .aload_n 0, 0, 0, 0) : iv_I),
  (((32, 3), .getfield 149, 1, 24, 623) : iv_I),
  (((35, 1), .iconst 1, 0, 0, 0) : iv_I),
  (((36, 1), .isub, 0, 0, 0) : iv_I),
  (((37, 3), .invokestatic 135, 25, 3, 748) : iv_I),
  (((40, 3), .ifCond .ne 5, 27, 0, 0) : iv_I),
  (((43, 1), .iconst 0, 0, 0, 0) : iv_I),
  (((44, 1), .ireturn, 0, 0, 0) : iv_I),
  (((45, 2), .bipush 14, 0, 0, 0) : iv_I),
  (((47, 1), .iload_n 1, 0, 0, 0) : iv_I),
  (((48, 1), .imul, 0, 0, 0) : iv_I),
  (((49, 1), .iload_n 2, 0, 0, 0) : iv_I),
  (((50, 1), .iadd, 0, 0, 0) : iv_I),
  (((51, 2), .istore 4, 0, 0, 0) : iv_I),
  (((53, 1), .aload_n 0, 0, 0, 0) : iv_I),
  (((54, 3), .getfield 77, 1, 26, 625) : iv_I),
  (((57, 2), .iload 4, 0, 0, 0) : iv_I),
  (((59, 1), .iaload, 0, 0, 0) : iv_I),
  (((60, 3), .ifCond .ne 7, 40, 0, 0) : iv_I),
  (((63, 1), .iconst 0, 0, 0, 0) : iv_I),
  (((64, 3), .goto 12, 46, 0, 0) : iv_I),
  (((67, 1), .aload_n 0, 0, 0, 0) : iv_I),
  (((68, 3), .getfield 77, 1, 26, 625) : iv_I),
  (((71, 2), .iload 4, 0, 0, 0) : iv_I),
  (((73, 1), .iaload, 0, 0, 0) : iv_I),
  (((74, 1), .iconst 1, 0, 0, 0) : iv_I),
  (((75, 1), .isub, 0, 0, 0) : iv_I),
  (((76, 2), .istore 5, 0, 0, 0) : iv_I),
  (((78, 2), .iload 5, 0, 0, 0) : iv_I),
  (((80, 1), .iconst 3, 0, 0, 0) : iv_I),
  (((81, 3), .if_icmp .ne 5, 52, 0, 0) : iv_I),
  (((84, 1), .iconst 0, 0, 0, 0) : iv_I),
  (((85, 1), .ireturn, 0, 0, 0) : iv_I),
  (((86, 1), .aload_n 0, 0, 0, 0) : iv_I),
  (((87, 3), .getfield 80, 1, 27, 626) : iv_I),
  (((90, 1), .iconst 3, 0, 0, 0) : iv_I),
  (((91, 2), .iload 4, 0, 0, 0) : iv_I),
  (((93, 1), .imul, 0, 0, 0) : iv_I),
  (((94, 2), .iload 5, 0, 0, 0) : iv_I),
  (((96, 1), .iadd, 0, 0, 0) : iv_I),
  (((97, 1), .iload_n 3, 0, 0, 0) : iv_I),
  (((98, 1), .iastore, 0, 0, 0) : iv_I),
  (((99, 1), .aload_n 0, 0, 0, 0) : iv_I),
  (((100, 3), .getfield 77, 1, 26, 625) : iv_I),
  (((103, 2), .iload 4, 0, 0, 0) : iv_I),
  (((105, 2), .iload 5, 0, 0, 0) : iv_I),
  (((107, 1), .iconst 2, 0, 0, 0) : iv_I),
  (((108, 1), .iadd, 0, 0, 0) : iv_I),
  (((109, 1), .iastore, 0, 0, 0) : iv_I),
  (((110, 1), .iconst 1, 0, 0, 0) : iv_I),
  (((111, 1), .ireturn, 0, 0, 0) : iv_I)]
/-- 41: RuleGraphModel.clear(IIZ)Z -/
def mc_41 : List iv_I := [
  (((0, 1), .aload_n 0, 0, 0, 0) : iv_I),
  (((1, 1), .iload_n 1, 0, 0, 0) : iv_I),
  (((2, 1), .iload_n 2, 0, 0, 0) : iv_I),
  (((3, 3), .invokevirtual 152, 38, 3, 799) : iv_I),
  (((6, 3), .ifCond .eq 13, 11, 0, 0) : iv_I),
  (((9, 1), .aload_n 0, 0, 0, 0) : iv_I),
  (((10, 3), .getfield 16, 1, 4, 603) : iv_I),
  (((13, 1), .iload_n 2, 0, 0, 0) : iv_I),
  (((14, 1), .iaload, 0, 0, 0) : iv_I),
  (((15, 1), .iconst 2, 0, 0, 0) : iv_I),
  (((16, 3), .if_icmp .ge 5, 13, 0, 0) : iv_I),
  (((19, 1), .iconst 0, 0, 0, 0) : iv_I),
  (((20, 1), .ireturn, 0, 0, 0) : iv_I),
  (((21, 1), .aload_n 0, 0, 0, 0) : iv_I),
  (((22, 3), .getfield 77, 1, 26, 625) : iv_I),
  (((25, 2), .bipush 14, 0, 0, 0) : iv_I),
  (((27, 1), .iload_n 1, 0, 0, 0) : iv_I),
  (((28, 1), .imul, 0, 0, 0) : iv_I),
  (((29, 1), .iload_n 2, 0, 0, 0) : iv_I),
  (((30, 1), .iadd, 0, 0, 0) : iv_I),
  (((31, 1), .iload_n 3, 0, 0, 0) : iv_I),
  (((32, 3), .ifCond .eq 7, 24, 0, 0) : iv_I),
  (((35, 1), .iconst 0, 0, 0, 0) : iv_I),
  (((36, 3), .goto 4, 25, 0, 0) : iv_I),
  (((39, 1), .iconst 1, 0, 0, 0) : iv_I),
  (((40, 1), .iastore, 0, 0, 0) : iv_I),
  (((41, 1), .iconst 1, 0, 0, 0) : iv_I),
  (((42, 1), .ireturn, 0, 0, 0) : iv_I)]
/-- 42: RuleGraphModel.fitsKind(IIZ)Z -/
def mc_42 : List iv_I := [
  (((0, 1), .iload_n 0, 0, 0, 0) : iv_I),
  (((1, 3), .ifCond .ne 30, 17, 0, 0) : iv_I),
  (((4, 1), .iload_n 2, 0, 0, 0) : iv_I),
  (((5, 3), .ifCond .eq 16, 11, 0, 0) : iv_I),
  (((8, 1), .iload_n 1, 0, 0, 0) : iv_I),
  (((9, 1), .iconst 3, 0, 0, 0) : iv_I),
  (((10, 3), .if_icmp .ne 7, 9, 0, 0) : iv_I),
  (((13, 1), .iconst 1, 0, 0, 0) : iv_I),
  (((14, 3), .goto 16, 16, 0, 0) : iv_I),
  (((17, 1), .iconst 0, 0, 0, 0) : iv_I),
  (((18, 3), .goto 12, 16, 0, 0) : iv_I),
  (((21, 1), .iload_n 1, 0, 0, 0) : iv_I),
  (((22, 3), .ifCond .eq 7, 15, 0, 0) : iv_I),
  (((25, 1), .iconst 1, 0, 0, 0) : iv_I),
  (((26, 3), .goto 4, 16, 0, 0) : iv_I),
  (((29, 1), .iconst 0, 0, 0, 0) : iv_I),
  (((30, 1), .ireturn, 0, 0, 0) : iv_I),
  (((31, 1), .iload_n 0, 0, 0, 0) : iv_I),
  (((32, 1), .iconst 3, 0, 0, 0) : iv_I),
  (((33, 3), .if_icmp .ne 18, 29, 0, 0) : iv_I),
  (((36, 1), .iload_n 2, 0, 0, 0) : iv_I),
  (((37, 3), .ifCond .ne 12, 27, 0, 0) : iv_I),
  (((40, 1), .iload_n 1, 0, 0, 0) : iv_I),
  (((41, 1), .iconst 2, 0, 0, 0) : iv_I),
  (((42, 3), .if_icmp .lt 7, 27, 0, 0) : iv_I),
  (((45, 1), .iconst 1, 0, 0, 0) : iv_I),
  (((46, 3), .goto 4, 28, 0, 0) : iv_I),
  (((49, 1), .iconst 0, 0, 0, 0) : iv_I),
  (((50, 1), .ireturn, 0, 0, 0) : iv_I),
  (((51, 1), .iload_n 2, 0, 0, 0) : iv_I),
  (((52, 3), .ifCond .eq 16, 38, 0, 0) : iv_I),
  (((55, 1), .iload_n 1, 0, 0, 0) : iv_I),
  (((56, 1), .iconst 2, 0, 0, 0) : iv_I),
  (((57, 3), .if_icmp .ne 7, 36, 0, 0) : iv_I),
  (((60, 1), .iconst 1, 0, 0, 0) : iv_I),
  (((61, 3), .goto 16, 43, 0, 0) : iv_I),
  (((64, 1), .iconst 0, 0, 0, 0) : iv_I),
  (((65, 3), .goto 12, 43, 0, 0) : iv_I),
  (((68, 1), .iload_n 1, 0, 0, 0) : iv_I),
  (((69, 3), .ifCond .ne 7, 42, 0, 0) : iv_I),
  (((72, 1), .iconst 1, 0, 0, 0) : iv_I),
  (((73, 3), .goto 4, 43, 0, 0) : iv_I),
  (((76, 1), .iconst 0, 0, 0, 0) : iv_I),
  (((77, 1), .ireturn, 0, 0, 0) : iv_I)]
/-- 43: RuleGraphModel.fits(I)Z -/
def mc_43 : List iv_I := [
  (((0, 1), .aload_n 0, 0, 0, 0) : iv_I),
  (((1, 3), .getfield 16, 1, 4, 603) : iv_I),
  (((4, 1), .aload_n 0, 0, 0, 0) : iv_I),
  (((5, 3), .getfield 26, 1, 8, 607) : iv_I),
  (((8, 1), .iload_n 1, 0, 0, 0) : iv_I),
  (((9, 1), .iaload, 0, 0, 0) : iv_I),
  (((10, 1), .iaload, 0, 0, 0) : iv_I),
  (((11, 1), .istore_n 2, 0, 0, 0) : iv_I),
  (((12, 1), .aload_n 0, 0, 0, 0) : iv_I),
  (((13, 3), .getfield 32, 1, 10, 609) : iv_I),
  (((16, 1), .iload_n 1, 0, 0, 0) : iv_I),
  (((17, 1), .iaload, 0, 0, 0) : iv_I),
  (((18, 1), .iconst 4, 0, 0, 0) : iv_I),
  (((19, 3), .if_icmp .eq 20, 25, 0, 0) : iv_I),
  (((22, 1), .aload_n 0, 0, 0, 0) : iv_I),
  (((23, 3), .getfield 32, 1, 10, 609) : iv_I),
  (((26, 1), .iload_n 1, 0, 0, 0) : iv_I),
  (((27, 1), .iaload, 0, 0, 0) : iv_I),
  (((28, 1), .iload_n 2, 0, 0, 0) : iv_I),
  (((29, 1), .aload_n 0, 0, 0, 0) : iv_I),
  (((30, 3), .getfield 29, 1, 9, 608) : iv_I),
  (((33, 1), .iload_n 1, 0, 0, 0) : iv_I),
  (((34, 1), .baload, 0, 0, 0) : iv_I),
  (((35, 3), .invokestatic 156, 42, 3, 856) : iv_I),
  (((38, 1), .ireturn, 0, 0, 0) : iv_I),
  (((39, 1), .iconst 1, 0, 0, 0) : iv_I),
  (((40, 1), .istore_n 3, 0, 0, 0) : iv_I),
  (((41, 1), .iconst 0, 0, 0, 0) : iv_I),
  (((42, 2), .istore 4, 0, 0, 0) : iv_I),
  (((44, 2), .iload 4, 0, 0, 0) : iv_I),
  (((46, 1), .aload_n 0, 0, 0, 0) : iv_I),
  (((47, 3), .getfield 44, 1, 14, 613) : iv_I),
  (((50, 1), .aload_n 0, 0, 0, 0) : iv_I),
  (((51, 3), .getfield 35, 1, 11, 610) : iv_I),
  (((54, 1), .iload_n 1, 0, 0, 0) : iv_I),
  (((55, 1), .iaload, 0, 0, 0) : iv_I),
  (((56, 1), .iaload, 0, 0, 0) : iv_I),
  (((57, 3), .if_icmp .ge 48, 64, 0, 0) : iv_I),
  (((60, 1), .iload_n 3, 0, 0, 0) : iv_I),
  (((61, 3), .ifCond .eq 36, 60, 0, 0) : iv_I),
  (((64, 1), .aload_n 0, 0, 0, 0) : iv_I),
  (((65, 3), .getfield 47, 1, 15, 614) : iv_I),
  (((68, 1), .iconst 3, 0, 0, 0) : iv_I),
  (((69, 1), .aload_n 0, 0, 0, 0) : iv_I),
  (((70, 3), .getfield 35, 1, 11, 610) : iv_I),
  (((73, 1), .iload_n 1, 0, 0, 0) : iv_I),
  (((74, 1), .iaload, 0, 0, 0) : iv_I),
  (((75, 1), .imul, 0, 0, 0) : iv_I),
  (((76, 2), .iload 4, 0, 0, 0) : iv_I),
  (((78, 1), .iadd, 0, 0, 0) : iv_I),
  (((79, 1), .iaload, 0, 0, 0) : iv_I),
  (((80, 1), .iload_n 2, 0, 0, 0) : iv_I),
  (((81, 1), .aload_n 0, 0, 0, 0) : iv_I),
  (((82, 3), .getfield 29, 1, 9, 608) : iv_I),
  (((85, 1), .iload_n 1, 0, 0, 0) : iv_I),
  (((86, 1), .baload, 0, 0, 0) : iv_I),
  (((87, 3), .invokestatic 156, 42, 3, 856) : iv_I),
  (((90, 3), .ifCond .eq 7, 60, 0, 0) : iv_I),
  (((93, 1), .iconst 1, 0, 0, 0) : iv_I),
  (((94, 3), .goto 4, 61, 0, 0) : iv_I),
  (((97, 1), .iconst 0, 0, 0, 0) : iv_I),
  (((98, 1), .istore_n 3, 0, 0, 0) : iv_I),
  (((99, 3), .iinc 4 1, 0, 0, 0) : iv_I),
  (((102, 3), .goto (-58), 29, 0, 0) : iv_I),
  (((105, 1), .iload_n 3, 0, 0, 0) : iv_I),
  (((106, 1), .ireturn, 0, 0, 0) : iv_I)]
/-- 44: RuleGraphModel.broken(IIIIZ)Z -/
def mc_44 : List iv_I := [
  (((0, 1), .iload_n 0, 0, 0, 0) : iv_I),
  (((1, 3), .ifCond .ne 18, 10, 0, 0) : iv_I),
  (((4, 2), .iload 4, 0, 0, 0) : iv_I),
  (((6, 3), .ifCond .ne 11, 8, 0, 0) : iv_I),
  (((9, 1), .iload_n 3, 0, 0, 0) : iv_I),
  (((10, 3), .ifCond .ne 7, 8, 0, 0) : iv_I),
  (((13, 1), .iconst 1, 0, 0, 0) : iv_I),
  (((14, 3), .goto 4, 9, 0, 0) : iv_I),
  (((17, 1), .iconst 0, 0, 0, 0) : iv_I),
  (((18, 1), .ireturn, 0, 0, 0) : iv_I),
  (((19, 1), .iload_n 0, 0, 0, 0) : iv_I),
  (((20, 1), .iconst 3, 0, 0, 0) : iv_I),
  (((21, 3), .if_icmp .ne 27, 29, 0, 0) : iv_I),
  (((24, 1), .iload_n 3, 0, 0, 0) : iv_I),
  (((25, 3), .ifCond .le 21, 27, 0, 0) : iv_I),
  (((28, 1), .iload_n 3, 0, 0, 0) : iv_I),
  (((29, 1), .iconst 1, 0, 0, 0) : iv_I),
  (((30, 1), .isub, 0, 0, 0) : iv_I),
  (((31, 1), .iload_n 1, 0, 0, 0) : iv_I),
  (((32, 3), .if_icmp .lt 10, 25, 0, 0) : iv_I),
  (((35, 1), .iload_n 3, 0, 0, 0) : iv_I),
  (((36, 1), .iconst 1, 0, 0, 0) : iv_I),
  (((37, 1), .isub, 0, 0, 0) : iv_I),
  (((38, 1), .iload_n 2, 0, 0, 0) : iv_I),
  (((39, 3), .if_icmp .le 7, 27, 0, 0) : iv_I),
  (((42, 1), .iconst 1, 0, 0, 0) : iv_I),
  (((43, 3), .goto 4, 28, 0, 0) : iv_I),
  (((46, 1), .iconst 0, 0, 0, 0) : iv_I),
  (((47, 1), .ireturn, 0, 0, 0) : iv_I),
  (((48, 1), .iload_n 0, 0, 0, 0) : iv_I),
  (((49, 1), .iconst 1, 0, 0, 0) : iv_I),
  (((50, 3), .if_icmp .ne 16, 39, 0, 0) : iv_I),
  (((53, 1), .iload_n 3, 0, 0, 0) : iv_I),
  (((54, 1), .iload_n 1, 0, 0, 0) : iv_I),
  (((55, 3), .if_icmp .ge 7, 37, 0, 0) : iv_I),
  (((58, 1), .iconst 1, 0, 0, 0) : iv_I),
  (((59, 3), .goto 17, 45, 0, 0) : iv_I),
  (((62, 1), .iconst 0, 0, 0, 0) : iv_I),
  (((63, 3), .goto 13, 45, 0, 0) : iv_I),
  (((66, 1), .iload_n 3, 0, 0, 0) : iv_I),
  (((67, 1), .iload_n 1, 0, 0, 0) : iv_I),
  (((68, 3), .if_icmp .le 7, 44, 0, 0) : iv_I),
  (((71, 1), .iconst 1, 0, 0, 0) : iv_I),
  (((72, 3), .goto 4, 45, 0, 0) : iv_I),
  (((75, 1), .iconst 0, 0, 0, 0) : iv_I),
  (((76, 1), .ireturn, 0, 0, 0) : iv_I)]
/-- 45: RuleGraphModel.keep(IIII)Z -/
def mc_45 : List iv_I := [
  (((0, 1), .aload_n 0, 0, 0, 0) : iv_I),
  (((1, 3), .getfield 160, 1, 41, 640) : iv_I),
  (((4, 2), .bipush 24, 0, 0, 0) : iv_I),
  (((6, 3), .if_icmp .ne 5, 6, 0, 0) : iv_I),
  (((9, 1), .iconst 0, 0, 0, 0) : iv_I),
  (((10, 1), .ireturn, 0, 0, 0) : iv_I),
  (((11, 1), .aload_n 0, 0, 0, 0) : iv_I),
  (((12, 3), .getfield 26, 1, 8, 607) : iv_I),
  (((15, 1), .iload_n 2, 0, 0, 0) : iv_I),
  (((16, 1), .iaload, 0, 0, 0) : iv_I),
  (((17, 2), .istore 5, 0, 0, 0) : iv_I),
  (((19, 2), .bipush 14, 0, 0, 0) : iv_I),
  (((21, 1), .iload_n 1, 0, 0, 0) : iv_I),
  (((22, 1), .imul, 0, 0, 0) : iv_I),
  (((23, 2), .iload 5, 0, 0, 0) : iv_I),
  (((25, 1), .iadd, 0, 0, 0) : iv_I),
  (((26, 2), .istore 6, 0, 0, 0) : iv_I),
  (((28, 1), .aload_n 0, 0, 0, 0) : iv_I),
  (((29, 3), .getfield 116, 1, 42, 641) : iv_I),
  (((32, 2), .bipush 6, 0, 0, 0) : iv_I),
  (((34, 1), .aload_n 0, 0, 0, 0) : iv_I),
  (((35, 3), .getfield 160, 1, 41, 640) : iv_I),
  (((38, 1), .imul, 0, 0, 0) : iv_I),
  (((39, 1), .iload_n 1, 0, 0, 0) : iv_I),
  (((40, 1), .iastore, 0, 0, 0) : iv_I),
  (((41, 1), .aload_n 0, 0, 0, 0) : iv_I),
  (((42, 3), .getfield 116, 1, 42, 641) : iv_I),
  (((45, 2), .bipush 6, 0, 0, 0) : iv_I),
  (((47, 1), .aload_n 0, 0, 0, 0) : iv_I),
  (((48, 3), .getfield 160, 1, 41, 640) : iv_I),
  (((51, 1), .imul, 0, 0, 0) : iv_I),
  (((52, 1), .iconst 1, 0, 0, 0) : iv_I),
  (((53, 1), .iadd, 0, 0, 0) : iv_I),
  (((54, 2), .iload 5, 0, 0, 0) : iv_I),
  (((56, 1), .iastore, 0, 0, 0) : iv_I),
  (((57, 1), .aload_n 0, 0, 0, 0) : iv_I),
  (((58, 3), .getfield 116, 1, 42, 641) : iv_I),
  (((61, 2), .bipush 6, 0, 0, 0) : iv_I),
  (((63, 1), .aload_n 0, 0, 0, 0) : iv_I),
  (((64, 3), .getfield 160, 1, 41, 640) : iv_I),
  (((67, 1), .imul, 0, 0, 0) : iv_I),
  (((68, 1), .iconst 2, 0, 0, 0) : iv_I),
  (((69, 1), .iadd, 0, 0, 0) : iv_I),
  (((70, 1), .iload_n 3, 0, 0, 0) : iv_I),
  (((71, 1), .iastore, 0, 0, 0) : iv_I),
  (((72, 1), .aload_n 0, 0, 0, 0) : iv_I),
  (((73, 3), .getfield 116, 1, 42, 641) : iv_I),
  (((76, 2), .bipush 6, 0, 0, 0) : iv_I),
  (((78, 1), .aload_n 0, 0, 0, 0) : iv_I),
  (((79, 3), .getfield 160, 1, 41, 640) : iv_I),
  (((82, 1), .imul, 0, 0, 0) : iv_I),
  (((83, 1), .iconst 3, 0, 0, 0) : iv_I),
  (((84, 1), .iadd, 0, 0, 0) : iv_I),
  (((85, 1), .iload_n 2, 0, 0, 0) : iv_I),
  (((86, 1), .iastore, 0, 0, 0) : iv_I),
  (((87, 1), .aload_n 0, 0, 0, 0) : iv_I),
  (((88, 3), .getfield 116, 1, 42, 641) : iv_I),
  (((91, 2), .bipush 6, 0, 0, 0) : iv_I),
  (((93, 1), .aload_n 0, 0, 0, 0) : iv_I),
  (((94, 3), .getfield 160, 1, 41, 640) : iv_I),
  (((97, 1), .imul, 0, 0, 0) : iv_I),
  (((98, 1), .iconst 4, 0, 0, 0) : iv_I),
  (((99, 1), .iadd, 0, 0, 0) : iv_I),
  (((100, 2), .iload 4, 0, 0, 0) : iv_I),
  (((102, 1), .iastore, 0, 0, 0) : iv_I),
  (((103, 1), .aload_n 0, 0, 0, 0) : iv_I),
  (((104, 3), .getfield 116, 1, 42, 641) : iv_I),
  (((107, 2), .bipush 6, 0, 0, 0) : iv_I),
  (((109, 1), .aload_n 0, 0, 0, 0) : iv_I),
  (((110, 3), .getfield 160, 1, 41, 640) : iv_I),
  (((113, 1), .imul, 0, 0, 0) : iv_I),
  (((114, 1), .iconst 5, 0, 0, 0) : iv_I),
  (((115, 1), .iadd, 0, 0, 0) : iv_I),
  (((116, 1), .iload_n 3, 0, 0, 0) : iv_I),
  (((117, 3), .ifCond .lt 17, 84, 0, 0) : iv_I),
  (((120, 1), .aload_n 0, 0, 0, 0) : iv_I),
  (((121, 3), .getfield 80, 1, 27, 626) : iv_I),
  (((124, 1), .iconst 3, 0, 0, 0) : iv_I),
  (((125, 2), .iload 6, 0, 0, 0) : iv_I),
  (((127, 1), .imul, 0, 0, 0) : iv_I),
  (((128, 1), .iload_n 3, 0, 0, 0) : iv_I),
  (((129, 1), .iadd, 0, 0, 0) : iv_I),
  (((130, 1), .iaload, 0, 0, 0) : iv_I),
  (((131, 3), .goto 32, 100, 0, 0) : iv_I),
  (((134, 1), .aload_n 0, 0, 0, 0) : iv_I),
  (((135, 3), .getfield 16, 1, 4, 603) : iv_I),
  (((138, 2), .iload 5, 0, 0, 0) : iv_I),
  (((140, 1), .iaload, 0, 0, 0) : iv_I),
  (((141, 3), .ifCond .ne 13, 94, 0, 0) : iv_I),
  (((144, 1), .aload_n 0, 0, 0, 0) : iv_I),
  (((145, 3), .getfield 77, 1, 26, 625) : iv_I),
  (((148, 2), .iload 6, 0, 0, 0) : iv_I),
  (((150, 1), .iaload, 0, 0, 0) : iv_I),
  (((151, 3), .goto 12, 100, 0, 0) : iv_I),
  (((154, 1), .aload_n 0, 0, 0, 0) : iv_I),
  (((155, 3), .getfield 77, 1, 26, 625) : iv_I),
  (((158, 2), .iload 6, 0, 0, 0) : iv_I),
  (((160, 1), .iaload, 0, 0, 0) : iv_I),
  (((161, 1), .iconst 1, 0, 0, 0) : iv_I),
  (((162, 1), .isub, 0, 0, 0) : iv_I),
  (((163, 1), .iastore, 0, 0, 0) : iv_I),
  (((164, 1), .aload_n 0, 0, 0, 0) : iv_I),
  (((165, 3), .getfield 119, 1, 43, 642) : iv_I),
  (((168, 1), .aload_n 0, 0, 0, 0) : iv_I),
  (((169, 3), .getfield 160, 1, 41, 640) : iv_I),
  (((172, 1), .aload_n 0, 0, 0, 0) : iv_I),
  (((173, 3), .getfield 163, 1, 28, 627) : iv_I),
  (((176, 3), .ifCond .le 12, 113, 0, 0) : iv_I),
  (((179, 1), .aload_n 0, 0, 0, 0) : iv_I),
  (((180, 3), .getfield 163, 1, 28, 627) : iv_I),
  (((183, 1), .iconst 1, 0, 0, 0) : iv_I),
  (((184, 1), .isub, 0, 0, 0) : iv_I),
  (((185, 3), .goto 4, 114, 0, 0) : iv_I),
  (((188, 1), .iconst 0, 0, 0, 0) : iv_I),
  (((189, 1), .iastore, 0, 0, 0) : iv_I),
  (((190, 1), .iconst 1, 0, 0, 0) : iv_I),
  (((191, 2), .istore 7, 0, 0, 0) : iv_I),
  (((193, 2), .iload 7, 0, 0, 0) : iv_I),
  (((195, 1), .aload_n 0, 0, 0, 0) : iv_I),
  (((196, 3), .getfield 163, 1, 28, 627) : iv_I),
  (((199, 3), .if_icmp .ge 57, 153, 0, 0) : iv_I),
  (((202, 1), .aload_n 0, 0, 0, 0) : iv_I),
  (((203, 3), .getfield 122, 1, 44, 643) : iv_I),
  (((206, 2), .bipush 16, 0, 0, 0) : iv_I),
  (((208, 1), .aload_n 0, 0, 0, 0) : iv_I),
  (((209, 3), .getfield 160, 1, 41, 640) : iv_I),
  (((212, 1), .imul, 0, 0, 0) : iv_I),
  (((213, 2), .iload 7, 0, 0, 0) : iv_I),
  (((215, 1), .iadd, 0, 0, 0) : iv_I),
  (((216, 1), .iconst 1, 0, 0, 0) : iv_I),
  (((217, 1), .isub, 0, 0, 0) : iv_I),
  (((218, 1), .aload_n 0, 0, 0, 0) : iv_I),
  (((219, 3), .getfield 107, 1, 37, 636) : iv_I),
  (((222, 2), .iload 7, 0, 0, 0) : iv_I),
  (((224, 1), .iaload, 0, 0, 0) : iv_I),
  (((225, 1), .iastore, 0, 0, 0) : iv_I),
  (((226, 1), .aload_n 0, 0, 0, 0) : iv_I),
  (((227, 3), .getfield 125, 1, 45, 644) : iv_I),
  (((230, 2), .bipush 16, 0, 0, 0) : iv_I),
  (((232, 1), .aload_n 0, 0, 0, 0) : iv_I),
  (((233, 3), .getfield 160, 1, 41, 640) : iv_I),
  (((236, 1), .imul, 0, 0, 0) : iv_I),
  (((237, 2), .iload 7, 0, 0, 0) : iv_I),
  (((239, 1), .iadd, 0, 0, 0) : iv_I),
  (((240, 1), .iconst 1, 0, 0, 0) : iv_I),
  (((241, 1), .isub, 0, 0, 0) : iv_I),
  (((242, 1), .aload_n 0, 0, 0, 0) : iv_I),
  (((243, 3), .getfield 110, 1, 38, 637) : iv_I),
  (((246, 2), .iload 7, 0, 0, 0) : iv_I),
  (((248, 1), .iaload, 0, 0, 0) : iv_I),
  (((249, 1), .iastore, 0, 0, 0) : iv_I),
  (((250, 3), .iinc 7 1, 0, 0, 0) : iv_I),
  (((253, 3), .goto (-60), 117, 0, 0) : iv_I),
  (((256, 1), .aload_n 0, 0, 0, 0) : iv_I),
  (((257, 1), .dup, 0, 0, 0) : iv_I),
  (((258, 3), .getfield 160, 1, 41, 640) : iv_I),
  (((261, 1), .iconst 1, 0, 0, 0) : iv_I),
  (((262, 1), .iadd, 0, 0, 0) : iv_I),
  (((263, 3), .putfield 160, 1, 41, 640) : iv_I),
  (((266, 1), .iconst 1, 0, 0, 0) : iv_I),
  (((267, 1), .ireturn, 0, 0, 0) : iv_I)]
/-- 46: RuleGraphModel.looks(III)Z -/
def mc_46 : List iv_I := [
  (((0, 2), .bipush 14, 0, 0, 0) : iv_I),
  (((2, 1), .iload_n 1, 0, 0, 0) : iv_I),
  (((3, 1), .imul, 0, 0, 0) : iv_I),
  (((4, 1), .aload_n 0, 0, 0, 0) : iv_I),
  (((5, 3), .getfield 26, 1, 8, 607) : iv_I),
  (((8, 1), .iload_n 2, 0, 0, 0) : iv_I),
  (((9, 1), .iaload, 0, 0, 0) : iv_I),
  (((10, 1), .iadd, 0, 0, 0) : iv_I),
  (((11, 2), .istore 4, 0, 0, 0) : iv_I),
  (((13, 1), .iload_n 3, 0, 0, 0) : iv_I),
  (((14, 3), .ifCond .lt 17, 20, 0, 0) : iv_I),
  (((17, 1), .aload_n 0, 0, 0, 0) : iv_I),
  (((18, 3), .getfield 80, 1, 27, 626) : iv_I),
  (((21, 1), .iconst 3, 0, 0, 0) : iv_I),
  (((22, 2), .iload 4, 0, 0, 0) : iv_I),
  (((24, 1), .imul, 0, 0, 0) : iv_I),
  (((25, 1), .iload_n 3, 0, 0, 0) : iv_I),
  (((26, 1), .iadd, 0, 0, 0) : iv_I),
  (((27, 1), .iaload, 0, 0, 0) : iv_I),
  (((28, 3), .goto 10, 24, 0, 0) : iv_I),
  (((31, 1), .aload_n 0, 0, 0, 0) : iv_I),
  (((32, 3), .getfield 77, 1, 26, 625) : iv_I),
  (((35, 2), .iload 4, 0, 0, 0) : iv_I),
  (((37, 1), .iaload, 0, 0, 0) : iv_I),
  (((38, 2), .istore 5, 0, 0, 0) : iv_I),
  (((40, 1), .iload_n 3, 0, 0, 0) : iv_I),
  (((41, 3), .ifCond .lt 7, 29, 0, 0) : iv_I),
  (((44, 1), .iconst 1, 0, 0, 0) : iv_I),
  (((45, 3), .goto 4, 30, 0, 0) : iv_I),
  (((48, 1), .iconst 0, 0, 0, 0) : iv_I),
  (((49, 2), .istore 6, 0, 0, 0) : iv_I),
  (((51, 1), .aload_n 0, 0, 0, 0) : iv_I),
  (((52, 3), .getfield 32, 1, 10, 609) : iv_I),
  (((55, 1), .iload_n 2, 0, 0, 0) : iv_I),
  (((56, 1), .iaload, 0, 0, 0) : iv_I),
  (((57, 1), .iconst 4, 0, 0, 0) : iv_I),
  (((58, 3), .if_icmp .eq 48, 64, 0, 0) : iv_I),
  (((61, 1), .aload_n 0, 0, 0, 0) : iv_I),
  (((62, 3), .getfield 32, 1, 10, 609) : iv_I),
  (((65, 1), .iload_n 2, 0, 0, 0) : iv_I),
  (((66, 1), .iaload, 0, 0, 0) : iv_I),
  (((67, 1), .aload_n 0, 0, 0, 0) : iv_I),
  (((68, 3), .getfield 35, 1, 11, 610) : iv_I),
  (((71, 1), .iload_n 2, 0, 0, 0) : iv_I),
  (((72, 1), .iaload, 0, 0, 0) : iv_I),
  (((73, 1), .aload_n 0, 0, 0, 0) : iv_I),
  (((74, 3), .getfield 38, 1, 12, 611) : iv_I),
  (((77, 1), .iload_n 2, 0, 0, 0) : iv_I),
  (((78, 1), .iaload, 0, 0, 0) : iv_I),
  (((79, 2), .iload 5, 0, 0, 0) : iv_I),
  (((81, 2), .iload 6, 0, 0, 0) : iv_I),
  (((83, 3), .invokestatic 166, 44, 5, 863) : iv_I),
  (((86, 3), .ifCond .eq 14, 60, 0, 0) : iv_I),
  (((89, 1), .aload_n 0, 0, 0, 0) : iv_I),
  (((90, 1), .iload_n 1, 0, 0, 0) : iv_I),
  (((91, 1), .iload_n 2, 0, 0, 0) : iv_I),
  (((92, 1), .iload_n 3, 0, 0, 0) : iv_I),
  (((93, 1), .iconst (-1), 0, 0, 0) : iv_I),
  (((94, 3), .invokevirtual 170, 45, 5, 866) : iv_I),
  (((97, 3), .ifCond .eq 7, 62, 0, 0) : iv_I),
  (((100, 1), .iconst 1, 0, 0, 0) : iv_I),
  (((101, 3), .goto 4, 63, 0, 0) : iv_I),
  (((104, 1), .iconst 0, 0, 0, 0) : iv_I),
  (((105, 1), .ireturn, 0, 0, 0) : iv_I),
  (((106, 1), .aload_n 0, 0, 0, 0) : iv_I),
  (((107, 3), .getfield 35, 1, 11, 610) : iv_I),
  (((110, 1), .iload_n 2, 0, 0, 0) : iv_I),
  (((111, 1), .iaload, 0, 0, 0) : iv_I),
  (((112, 2), .istore 7, 0, 0, 0) : iv_I),
  (((114, 1), .iconst 0, 0, 0, 0) : iv_I),
  (((115, 2), .istore 8, 0, 0, 0) : iv_I),
  (((117, 1), .iconst 3, 0, 0, 0) : iv_I),
  (((118, 2), .iload 7, 0, 0, 0) : iv_I),
  (((120, 1), .imul, 0, 0, 0) : iv_I),
  (((121, 2), .istore 9, 0, 0, 0) : iv_I),
  (((123, 2), .iload 9, 0, 0, 0) : iv_I),
  (((125, 1), .iconst 3, 0, 0, 0) : iv_I),
  (((126, 2), .iload 7, 0, 0, 0) : iv_I),
  (((128, 1), .imul, 0, 0, 0) : iv_I),
  (((129, 1), .aload_n 0, 0, 0, 0) : iv_I),
  (((130, 3), .getfield 44, 1, 14, 613) : iv_I),
  (((133, 2), .iload 7, 0, 0, 0) : iv_I),
  (((135, 1), .iaload, 0, 0, 0) : iv_I),
  (((136, 1), .iadd, 0, 0, 0) : iv_I),
  (((137, 3), .if_icmp .ge 90, 131, 0, 0) : iv_I),
  (((140, 1), .aload_n 0, 0, 0, 0) : iv_I),
  (((141, 3), .getfield 47, 1, 15, 614) : iv_I),
  (((144, 2), .iload 9, 0, 0, 0) : iv_I),
  (((146, 1), .iaload, 0, 0, 0) : iv_I),
  (((147, 1), .aload_n 0, 0, 0, 0) : iv_I),
  (((148, 3), .getfield 50, 1, 16, 615) : iv_I),
  (((151, 2), .iload 9, 0, 0, 0) : iv_I),
  (((153, 1), .iaload, 0, 0, 0) : iv_I),
  (((154, 1), .aload_n 0, 0, 0, 0) : iv_I),
  (((155, 3), .getfield 53, 1, 17, 616) : iv_I),
  (((158, 2), .iload 9, 0, 0, 0) : iv_I),
  (((160, 1), .iaload, 0, 0, 0) : iv_I),
  (((161, 2), .iload 5, 0, 0, 0) : iv_I),
  (((163, 2), .iload 6, 0, 0, 0) : iv_I),
  (((165, 3), .invokestatic 166, 44, 5, 863) : iv_I),
  (((168, 2), .istore 10, 0, 0, 0) : iv_I),
  (((170, 2), .iload 10, 0, 0, 0) : iv_I),
  (((172, 3), .ifCond .eq 32, 121, 0, 0) : iv_I),
  (((175, 1), .aload_n 0, 0, 0, 0) : iv_I),
  (((176, 3), .getfield 56, 1, 18, 617) : iv_I),
  (((179, 2), .iload 7, 0, 0, 0) : iv_I),
  (((181, 1), .baload, 0, 0, 0) : iv_I),
  (((182, 3), .ifCond .ne 22, 121, 0, 0) : iv_I),
  (((185, 1), .aload_n 0, 0, 0, 0) : iv_I),
  (((186, 1), .iload_n 1, 0, 0, 0) : iv_I),
  (((187, 1), .iload_n 2, 0, 0, 0) : iv_I),
  (((188, 1), .iload_n 3, 0, 0, 0) : iv_I),
  (((189, 2), .iload 9, 0, 0, 0) : iv_I),
  (((191, 1), .iconst 3, 0, 0, 0) : iv_I),
  (((192, 2), .iload 7, 0, 0, 0) : iv_I),
  (((194, 1), .imul, 0, 0, 0) : iv_I),
  (((195, 1), .isub, 0, 0, 0) : iv_I),
  (((196, 3), .invokevirtual 170, 45, 5, 866) : iv_I),
  (((199, 3), .ifCond .ne 5, 121, 0, 0) : iv_I),
  (((202, 1), .iconst 0, 0, 0, 0) : iv_I),
  (((203, 1), .ireturn, 0, 0, 0) : iv_I),
  (((204, 2), .iload 8, 0, 0, 0) : iv_I),
  (((206, 3), .ifCond .ne 8, 125, 0, 0) : iv_I),
  (((209, 2), .iload 10, 0, 0, 0) : iv_I),
  (((211, 3), .ifCond .eq 7, 127, 0, 0) : iv_I),
  (((214, 1), .iconst 1, 0, 0, 0) : iv_I),
  (((215, 3), .goto 4, 128, 0, 0) : iv_I),
  (((218, 1), .iconst 0, 0, 0, 0) : iv_I),
  (((219, 2), .istore 8, 0, 0, 0) : iv_I),
  (((221, 3), .iinc 9 1, 0, 0, 0) : iv_I),
  (((224, 3), .goto (-101), 75, 0, 0) : iv_I),
  (((227, 2), .iload 8, 0, 0, 0) : iv_I),
  (((229, 3), .ifCond .eq 24, 145, 0, 0) : iv_I),
  (((232, 1), .aload_n 0, 0, 0, 0) : iv_I),
  (((233, 3), .getfield 56, 1, 18, 617) : iv_I),
  (((236, 2), .iload 7, 0, 0, 0) : iv_I),
  (((238, 1), .baload, 0, 0, 0) : iv_I),
  (((239, 3), .ifCond .eq 14, 145, 0, 0) : iv_I),
  (((242, 1), .aload_n 0, 0, 0, 0) : iv_I),
  (((243, 1), .iload_n 1, 0, 0, 0) : iv_I),
  (((244, 1), .iload_n 2, 0, 0, 0) : iv_I),
  (((245, 1), .iload_n 3, 0, 0, 0) : iv_I),
  (((246, 1), .iconst (-1), 0, 0, 0) : iv_I),
  (((247, 3), .invokevirtual 170, 45, 5, 866) : iv_I),
  (((250, 3), .ifCond .eq 7, 147, 0, 0) : iv_I),
  (((253, 1), .iconst 1, 0, 0, 0) : iv_I),
  (((254, 3), .goto 4, 148, 0, 0) : iv_I),
  (((257, 1), .iconst 0, 0, 0, 0) : iv_I),
  (((258, 1), .ireturn, 0, 0, 0) : iv_I)]
/-- 47: RuleGraphModel.rulesOf(III)I -/
def mc_47 : List iv_I := [
  (((0, 1), .aload_n 0, 0, 0, 0) : iv_I),
  (((1, 1), .iload_n 2, 0, 0, 0) : iv_I),
  (((2, 3), .invokevirtual 145, 31, 2, 771) : iv_I),
  (((5, 2), .istore 4, 0, 0, 0) : iv_I),
  (((7, 1), .iconst 0, 0, 0, 0) : iv_I),
  (((8, 2), .istore 5, 0, 0, 0) : iv_I),
  (((10, 2), .iload 5, 0, 0, 0) : iv_I),
  (((12, 1), .aload_n 0, 0, 0, 0) : iv_I),
  (((13, 3), .getfield 142, 1, 7, 606) : iv_I),
  (((16, 3), .if_icmp .ge 187, 107, 0, 0) : iv_I),
  (((19, 1), .aload_n 0, 0, 0, 0) : iv_I),
  (((20, 3), .getfield 26, 1, 8, 607) : iv_I),
  (((23, 2), .iload 5, 0, 0, 0) : iv_I),
  (((25, 1), .iaload, 0, 0, 0) : iv_I),
  (((26, 2), .istore 6, 0, 0, 0) : iv_I),
  (((28, 1), .aload_n 0, 0, 0, 0) : iv_I),
  (((29, 1), .iload_n 1, 0, 0, 0) : iv_I),
  (((30, 2), .iload 6, 0, 0, 0) : iv_I),
  (((32, 3), .invokevirtual 152, 38, 3, 799) : iv_I),
  (((35, 3), .ifCond .eq 162, 105, 0, 0) : iv_I),
  (((38, 1), .iload_n 3, 0, 0, 0) : iv_I),
  (((39, 3), .ifCond .lt 9, 25, 0, 0) : iv_I),
  (((42, 1), .iload_n 3, 0, 0, 0) : iv_I),
  (((43, 2), .iload 6, 0, 0, 0) : iv_I),
  (((45, 3), .if_icmp .ne 152, 105, 0, 0) : iv_I),
  (((48, 1), .aload_n 0, 0, 0, 0) : iv_I),
  (((49, 3), .getfield 41, 1, 13, 612) : iv_I),
  (((52, 2), .iload 5, 0, 0, 0) : iv_I),
  (((54, 1), .iaload, 0, 0, 0) : iv_I),
  (((55, 2), .iload 4, 0, 0, 0) : iv_I),
  (((57, 1), .iand, 0, 0, 0) : iv_I),
  (((58, 3), .ifCond .eq 139, 105, 0, 0) : iv_I),
  (((61, 1), .aload_n 0, 0, 0, 0) : iv_I),
  (((62, 2), .iload 5, 0, 0, 0) : iv_I),
  (((64, 3), .invokevirtual 174, 43, 2, 852) : iv_I),
  (((67, 3), .ifCond .ne 6, 38, 0, 0) : iv_I),
  (((70, 2), .bipush (-4), 0, 0, 0) : iv_I),
  (((72, 1), .ireturn, 0, 0, 0) : iv_I),
  (((73, 1), .aload_n 0, 0, 0, 0) : iv_I),
  (((74, 3), .getfield 16, 1, 4, 603) : iv_I),
  (((77, 2), .iload 6, 0, 0, 0) : iv_I),
  (((79, 1), .iaload, 0, 0, 0) : iv_I),
  (((80, 1), .iconst 2, 0, 0, 0) : iv_I),
  (((81, 3), .if_icmp .lt 35, 64, 0, 0) : iv_I),
  (((84, 1), .aload_n 0, 0, 0, 0) : iv_I),
  (((85, 3), .getfield 77, 1, 26, 625) : iv_I),
  (((88, 2), .bipush 14, 0, 0, 0) : iv_I),
  (((90, 1), .iload_n 1, 0, 0, 0) : iv_I),
  (((91, 1), .imul, 0, 0, 0) : iv_I),
  (((92, 2), .iload 6, 0, 0, 0) : iv_I),
  (((94, 1), .iadd, 0, 0, 0) : iv_I),
  (((95, 1), .iaload, 0, 0, 0) : iv_I),
  (((96, 3), .ifCond .le 20, 64, 0, 0) : iv_I),
  (((99, 1), .aload_n 0, 0, 0, 0) : iv_I),
  (((100, 3), .getfield 77, 1, 26, 625) : iv_I),
  (((103, 2), .bipush 14, 0, 0, 0) : iv_I),
  (((105, 1), .iload_n 1, 0, 0, 0) : iv_I),
  (((106, 1), .imul, 0, 0, 0) : iv_I),
  (((107, 2), .iload 6, 0, 0, 0) : iv_I),
  (((109, 1), .iadd, 0, 0, 0) : iv_I),
  (((110, 1), .iaload, 0, 0, 0) : iv_I),
  (((111, 1), .iconst 1, 0, 0, 0) : iv_I),
  (((112, 1), .isub, 0, 0, 0) : iv_I),
  (((113, 3), .goto 4, 65, 0, 0) : iv_I),
  (((116, 1), .iconst 0, 0, 0, 0) : iv_I),
  (((117, 2), .istore 7, 0, 0, 0) : iv_I),
  (((119, 1), .aload_n 0, 0, 0, 0) : iv_I),
  (((120, 3), .getfield 29, 1, 9, 608) : iv_I),
  (((123, 2), .iload 5, 0, 0, 0) : iv_I),
  (((125, 1), .baload, 0, 0, 0) : iv_I),
  (((126, 3), .ifCond .ne 14, 77, 0, 0) : iv_I),
  (((129, 1), .aload_n 0, 0, 0, 0) : iv_I),
  (((130, 1), .iload_n 1, 0, 0, 0) : iv_I),
  (((131, 2), .iload 5, 0, 0, 0) : iv_I),
  (((133, 1), .iconst (-1), 0, 0, 0) : iv_I),
  (((134, 3), .invokevirtual 178, 46, 4, 859) : iv_I),
  (((137, 3), .ifCond .eq 7, 79, 0, 0) : iv_I),
  (((140, 1), .iconst 1, 0, 0, 0) : iv_I),
  (((141, 3), .goto 4, 80, 0, 0) : iv_I),
  (((144, 1), .iconst 0, 0, 0, 0) : iv_I),
  (((145, 2), .istore 8, 0, 0, 0) : iv_I),
  (((147, 1), .iconst 0, 0, 0, 0) : iv_I),
  (((148, 2), .istore 9, 0, 0, 0) : iv_I),
  (((150, 2), .iload 9, 0, 0, 0) : iv_I),
  (((152, 2), .iload 7, 0, 0, 0) : iv_I),
  (((154, 3), .if_icmp .ge 35, 101, 0, 0) : iv_I),
  (((157, 1), .aload_n 0, 0, 0, 0) : iv_I),
  (((158, 3), .getfield 29, 1, 9, 608) : iv_I),
  (((161, 2), .iload 5, 0, 0, 0) : iv_I),
  (((163, 1), .baload, 0, 0, 0) : iv_I),
  (((164, 3), .ifCond .eq 25, 101, 0, 0) : iv_I),
  (((167, 2), .iload 8, 0, 0, 0) : iv_I),
  (((169, 3), .ifCond .eq 20, 101, 0, 0) : iv_I),
  (((172, 1), .aload_n 0, 0, 0, 0) : iv_I),
  (((173, 1), .iload_n 1, 0, 0, 0) : iv_I),
  (((174, 2), .iload 5, 0, 0, 0) : iv_I),
  (((176, 2), .iload 9, 0, 0, 0) : iv_I),
  (((178, 3), .invokevirtual 178, 46, 4, 859) : iv_I),
  (((181, 2), .istore 8, 0, 0, 0) : iv_I),
  (((183, 3), .iinc 9 1, 0, 0, 0) : iv_I),
  (((186, 3), .goto (-36), 83, 0, 0) : iv_I),
  (((189, 2), .iload 8, 0, 0, 0) : iv_I),
  (((191, 3), .ifCond .ne 6, 105, 0, 0) : iv_I),
  (((194, 2), .bipush (-5), 0, 0, 0) : iv_I),
  (((196, 1), .ireturn, 0, 0, 0) : iv_I),
  (((197, 3), .iinc 5 1, 0, 0, 0) : iv_I),
  (((200, 3), .goto (-190), 6, 0, 0) : iv_I),
  (((203, 1), .iconst 0, 0, 0, 0) : iv_I),
  (((204, 1), .ireturn, 0, 0, 0) : iv_I)]
/-- 48: RuleGraphModel.good(I)Z -/
def mc_48 : List iv_I := [
  (((0, 1), .iconst 0, 0, 0, 0) : iv_I),
  (((1, 1), .istore_n 2, 0, 0, 0) : iv_I),
  (((2, 1), .iconst 0, 0, 0, 0) : iv_I),
  (((3, 1), .istore_n 3, 0, 0, 0) : iv_I),
  (((4, 1), .iconst 0, 0, 0, 0) : iv_I),
  (((5, 2), .istore 4, 0, 0, 0) : iv_I),
  (((7, 2), .iload 4, 0, 0, 0) : iv_I),
  (((9, 1), .aload_n 0, 0, 0, 0) : iv_I),
  (((10, 3), .getfield 68, 1, 22, 621) : iv_I),
  (((13, 1), .iload_n 1, 0, 0, 0) : iv_I),
  (((14, 1), .iaload, 0, 0, 0) : iv_I),
  (((15, 3), .if_icmp .ge 56, 45, 0, 0) : iv_I),
  (((18, 1), .aload_n 0, 0, 0, 0) : iv_I),
  (((19, 3), .getfield 71, 1, 23, 622) : iv_I),
  (((22, 1), .iconst 4, 0, 0, 0) : iv_I),
  (((23, 1), .iload_n 1, 0, 0, 0) : iv_I),
  (((24, 1), .imul, 0, 0, 0) : iv_I),
  (((25, 2), .iload 4, 0, 0, 0) : iv_I),
  (((27, 1), .iadd, 0, 0, 0) : iv_I),
  (((28, 1), .iaload, 0, 0, 0) : iv_I),
  (((29, 1), .iconst (-1), 0, 0, 0) : iv_I),
  (((30, 3), .if_icmp .ne 9, 26, 0, 0) : iv_I),
  (((33, 1), .iload_n 2, 0, 0, 0) : iv_I),
  (((34, 1), .iconst 1, 0, 0, 0) : iv_I),
  (((35, 1), .iadd, 0, 0, 0) : iv_I),
  (((36, 3), .goto 4, 27, 0, 0) : iv_I),
  (((39, 1), .iload_n 2, 0, 0, 0) : iv_I),
  (((40, 1), .istore_n 2, 0, 0, 0) : iv_I),
  (((41, 1), .iload_n 3, 0, 0, 0) : iv_I),
  (((42, 3), .ifCond .ne 17, 39, 0, 0) : iv_I),
  (((45, 1), .aload_n 0, 0, 0, 0) : iv_I),
  (((46, 3), .getfield 71, 1, 23, 622) : iv_I),
  (((49, 1), .iconst 4, 0, 0, 0) : iv_I),
  (((50, 1), .iload_n 1, 0, 0, 0) : iv_I),
  (((51, 1), .imul, 0, 0, 0) : iv_I),
  (((52, 2), .iload 4, 0, 0, 0) : iv_I),
  (((54, 1), .iadd, 0, 0, 0) : iv_I),
  (((55, 1), .iaload, 0, 0, 0) : iv_I),
  (((56, 3), .ifCond .ne 7, 41, 0, 0) : iv_I),
  (((59, 1), .iconst 1, 0, 0, 0) : iv_I),
  (((60, 3), .goto 4, 42, 0, 0) : iv_I),
  (((63, 1), .iconst 0, 0, 0, 0) : iv_I),
  (((64, 1), .istore_n 3, 0, 0, 0) : iv_I),
  (((65, 3), .iinc 4 1, 0, 0, 0) : iv_I),
  (((68, 3), .goto (-61), 6, 0, 0) : iv_I),
  (((71, 1), .iload_n 2, 0, 0, 0) : iv_I),
  (((72, 1), .iconst 1, 0, 0, 0) : iv_I),
  (((73, 3), .if_icmp .ne 11, 52, 0, 0) : iv_I),
  (((76, 1), .iload_n 3, 0, 0, 0) : iv_I),
  (((77, 3), .ifCond .ne 7, 52, 0, 0) : iv_I),
  (((80, 1), .iconst 1, 0, 0, 0) : iv_I),
  (((81, 3), .goto 4, 53, 0, 0) : iv_I),
  (((84, 1), .iconst 0, 0, 0, 0) : iv_I),
  (((85, 1), .ireturn, 0, 0, 0) : iv_I)]
/-- 49: RuleGraphModel.enter(II)I -/
def mc_49 : List iv_I := [
  (((0, 1), .iconst 0, 0, 0, 0) : iv_I),
  (((1, 1), .istore_n 3, 0, 0, 0) : iv_I),
  (((2, 1), .iload_n 3, 0, 0, 0) : iv_I),
  (((3, 1), .aload_n 0, 0, 0, 0) : iv_I),
  (((4, 3), .getfield 163, 1, 28, 627) : iv_I),
  (((7, 3), .if_icmp .ge 31, 22, 0, 0) : iv_I),
  (((10, 1), .aload_n 0, 0, 0, 0) : iv_I),
  (((11, 3), .getfield 83, 1, 29, 628) : iv_I),
  (((14, 1), .iload_n 3, 0, 0, 0) : iv_I),
  (((15, 1), .iaload, 0, 0, 0) : iv_I),
  (((16, 1), .iload_n 1, 0, 0, 0) : iv_I),
  (((17, 3), .if_icmp .ne 15, 20, 0, 0) : iv_I),
  (((20, 1), .aload_n 0, 0, 0, 0) : iv_I),
  (((21, 3), .getfield 86, 1, 30, 629) : iv_I),
  (((24, 1), .iload_n 3, 0, 0, 0) : iv_I),
  (((25, 1), .iaload, 0, 0, 0) : iv_I),
  (((26, 1), .iload_n 2, 0, 0, 0) : iv_I),
  (((27, 3), .if_icmp .ne 5, 20, 0, 0) : iv_I),
  (((30, 1), .iconst 0, 0, 0, 0) : iv_I),
  (((31, 1), .ireturn, 0, 0, 0) : iv_I),
  (((32, 3), .iinc 3 1, 0, 0, 0) : iv_I),
  (((35, 3), .goto (-33), 2, 0, 0) : iv_I),
  (((38, 1), .aload_n 0, 0, 0, 0) : iv_I),
  (((39, 3), .getfield 181, 1, 39, 638) : iv_I),
  (((42, 2), .bipush 60, 0, 0, 0) : iv_I),
  (((44, 3), .if_icmp .eq 12, 30, 0, 0) : iv_I),
  (((47, 1), .aload_n 0, 0, 0, 0) : iv_I),
  (((48, 3), .getfield 163, 1, 28, 627) : iv_I),
  (((51, 2), .bipush 16, 0, 0, 0) : iv_I),
  (((53, 3), .if_icmp .ne 6, 32, 0, 0) : iv_I),
  (((56, 2), .bipush (-5), 0, 0, 0) : iv_I),
  (((58, 1), .ireturn, 0, 0, 0) : iv_I),
  (((59, 1), .aload_n 0, 0, 0, 0) : iv_I),
  (((60, 1), .dup, 0, 0, 0) : iv_I),
  (((61, 3), .getfield 181, 1, 39, 638) : iv_I),
  (((64, 1), .iconst 1, 0, 0, 0) : iv_I),
  (((65, 1), .iadd, 0, 0, 0) : iv_I),
  (((66, 3), .putfield 181, 1, 39, 638) : iv_I),
  (((69, 1), .iload_n 2, 0, 0, 0) : iv_I),
  (((70, 3), .ifCond .ne 33, 57, 0, 0) : iv_I),
  (((73, 1), .aload_n 0, 0, 0, 0) : iv_I),
  (((74, 3), .getfield 68, 1, 22, 621) : iv_I),
  (((77, 1), .aload_n 0, 0, 0, 0) : iv_I),
  (((78, 3), .getfield 74, 1, 25, 624) : iv_I),
  (((81, 1), .iload_n 1, 0, 0, 0) : iv_I),
  (((82, 1), .iaload, 0, 0, 0) : iv_I),
  (((83, 1), .iaload, 0, 0, 0) : iv_I),
  (((84, 3), .ifCond .le 19, 57, 0, 0) : iv_I),
  (((87, 1), .aload_n 0, 0, 0, 0) : iv_I),
  (((88, 1), .aload_n 0, 0, 0, 0) : iv_I),
  (((89, 3), .getfield 74, 1, 25, 624) : iv_I),
  (((92, 1), .iload_n 1, 0, 0, 0) : iv_I),
  (((93, 1), .iaload, 0, 0, 0) : iv_I),
  (((94, 3), .invokevirtual 184, 48, 2, 835) : iv_I),
  (((97, 3), .ifCond .ne 6, 57, 0, 0) : iv_I),
  (((100, 2), .bipush (-3), 0, 0, 0) : iv_I),
  (((102, 1), .ireturn, 0, 0, 0) : iv_I),
  (((103, 1), .aload_n 0, 0, 0, 0) : iv_I),
  (((104, 3), .getfield 83, 1, 29, 628) : iv_I),
  (((107, 1), .aload_n 0, 0, 0, 0) : iv_I),
  (((108, 3), .getfield 163, 1, 28, 627) : iv_I),
  (((111, 1), .iload_n 1, 0, 0, 0) : iv_I),
  (((112, 1), .iastore, 0, 0, 0) : iv_I),
  (((113, 1), .aload_n 0, 0, 0, 0) : iv_I),
  (((114, 3), .getfield 86, 1, 30, 629) : iv_I),
  (((117, 1), .aload_n 0, 0, 0, 0) : iv_I),
  (((118, 3), .getfield 163, 1, 28, 627) : iv_I),
  (((121, 1), .iload_n 2, 0, 0, 0) : iv_I),
  (((122, 1), .iastore, 0, 0, 0) : iv_I),
  (((123, 1), .aload_n 0, 0, 0, 0) : iv_I),
  (((124, 3), .getfield 89, 1, 31, 630) : iv_I),
  (((127, 1), .aload_n 0, 0, 0, 0) : iv_I),
  (((128, 3), .getfield 163, 1, 28, 627) : iv_I),
  (((131, 1), .iconst 0, 0, 0, 0) : iv_I),
  (((132, 1), .iastore, 0, 0, 0) : iv_I),
  (((133, 1), .aload_n 0, 0, 0, 0) : iv_I),
  (((134, 3), .getfield 95, 1, 33, 632) : iv_I),
  (((137, 1), .aload_n 0, 0, 0, 0) : iv_I),
  (((138, 3), .getfield 163, 1, 28, 627) : iv_I),
  (((141, 1), .iconst 0, 0, 0, 0) : iv_I),
  (((142, 1), .bastore, 0, 0, 0) : iv_I),
  (((143, 1), .aload_n 0, 0, 0, 0) : iv_I),
  (((144, 1), .dup, 0, 0, 0) : iv_I),
  (((145, 3), .getfield 163, 1, 28, 627) : iv_I),
  (((148, 1), .iconst 1, 0, 0, 0) : iv_I),
  (((149, 1), .iadd, 0, 0, 0) : iv_I),
  (((150, 3), .putfield 163, 1, 28, 627) : iv_I),
  (((153, 1), .iconst 0, 0, 0, 0) : iv_I),
  (((154, 1), .ireturn, 0, 0, 0) : iv_I)]
/-- 50: RuleGraphModel.begin(I)I -/
def mc_50 : List iv_I := [
  (((0, 1), .aload_n 0, 0, 0, 0) : iv_I),
  (((1, 3), .getfield 74, 1, 25, 624) : iv_I),
  (((4, 1), .aload_n 0, 0, 0, 0) : iv_I),
  (((5, 3), .getfield 83, 1, 29, 628) : iv_I),
  (((8, 1), .iload_n 1, 0, 0, 0) : iv_I),
  (((9, 1), .iaload, 0, 0, 0) : iv_I),
  (((10, 1), .iaload, 0, 0, 0) : iv_I),
  (((11, 1), .istore_n 2, 0, 0, 0) : iv_I),
  (((12, 1), .aload_n 0, 0, 0, 0) : iv_I),
  (((13, 3), .getfield 86, 1, 30, 629) : iv_I),
  (((16, 1), .iload_n 1, 0, 0, 0) : iv_I),
  (((17, 1), .iaload, 0, 0, 0) : iv_I),
  (((18, 3), .ifCond .ne 16, 20, 0, 0) : iv_I),
  (((21, 1), .aload_n 0, 0, 0, 0) : iv_I),
  (((22, 3), .getfield 68, 1, 22, 621) : iv_I),
  (((25, 1), .iload_n 2, 0, 0, 0) : iv_I),
  (((26, 1), .iaload, 0, 0, 0) : iv_I),
  (((27, 3), .ifCond .le 7, 20, 0, 0) : iv_I),
  (((30, 1), .iconst 1, 0, 0, 0) : iv_I),
  (((31, 3), .goto 4, 21, 0, 0) : iv_I),
  (((34, 1), .iconst 0, 0, 0, 0) : iv_I),
  (((35, 1), .istore_n 3, 0, 0, 0) : iv_I),
  (((36, 1), .aload_n 0, 0, 0, 0) : iv_I),
  (((37, 3), .getfield 89, 1, 31, 630) : iv_I),
  (((40, 1), .iload_n 1, 0, 0, 0) : iv_I),
  (((41, 1), .iaload, 0, 0, 0) : iv_I),
  (((42, 1), .iload_n 3, 0, 0, 0) : iv_I),
  (((43, 3), .ifCond .eq 12, 33, 0, 0) : iv_I),
  (((46, 1), .aload_n 0, 0, 0, 0) : iv_I),
  (((47, 3), .getfield 68, 1, 22, 621) : iv_I),
  (((50, 1), .iload_n 2, 0, 0, 0) : iv_I),
  (((51, 1), .iaload, 0, 0, 0) : iv_I),
  (((52, 3), .goto 4, 34, 0, 0) : iv_I),
  (((55, 1), .iconst 1, 0, 0, 0) : iv_I),
  (((56, 3), .if_icmp .ne 15, 43, 0, 0) : iv_I),
  (((59, 1), .aload_n 0, 0, 0, 0) : iv_I),
  (((60, 1), .dup, 0, 0, 0) : iv_I),
  (((61, 3), .getfield 163, 1, 28, 627) : iv_I),
  (((64, 1), .iconst 1, 0, 0, 0) : iv_I),
  (((65, 1), .isub, 0, 0, 0) : iv_I),
  (((66, 3), .putfield 163, 1, 28, 627) : iv_I),
  (((69, 1), .iconst 0, 0, 0, 0) : iv_I),
  (((70, 1), .ireturn, 0, 0, 0) : iv_I),
  (((71, 1), .iload_n 3, 0, 0, 0) : iv_I),
  (((72, 3), .ifCond .eq 21, 57, 0, 0) : iv_I),
  (((75, 1), .aload_n 0, 0, 0, 0) : iv_I),
  (((76, 3), .getfield 71, 1, 23, 622) : iv_I),
  (((79, 1), .iconst 4, 0, 0, 0) : iv_I),
  (((80, 1), .iload_n 2, 0, 0, 0) : iv_I),
  (((81, 1), .imul, 0, 0, 0) : iv_I),
  (((82, 1), .aload_n 0, 0, 0, 0) : iv_I),
  (((83, 3), .getfield 89, 1, 31, 630) : iv_I),
  (((86, 1), .iload_n 1, 0, 0, 0) : iv_I),
  (((87, 1), .iaload, 0, 0, 0) : iv_I),
  (((88, 1), .iadd, 0, 0, 0) : iv_I),
  (((89, 1), .iaload, 0, 0, 0) : iv_I),
  (((90, 3), .goto 9, 61, 0, 0) : iv_I),
  (((93, 1), .aload_n 0, 0, 0, 0) : iv_I),
  (((94, 3), .getfield 86, 1, 30, 629) : iv_I),
  (((97, 1), .iload_n 1, 0, 0, 0) : iv_I),
  (((98, 1), .iaload, 0, 0, 0) : iv_I),
  (((99, 2), .istore 4, 0, 0, 0) : iv_I),
  (((101, 2), .iload 4, 0, 0, 0) : iv_I),
  (((103, 3), .ifCond .ge 7, 66, 0, 0) : iv_I),
  (((106, 1), .iconst 0, 0, 0, 0) : iv_I),
  (((107, 3), .goto 5, 67, 0, 0) : iv_I),
  (((110, 2), .iload 4, 0, 0, 0) : iv_I),
  (((112, 2), .istore 4, 0, 0, 0) : iv_I),
  (((114, 1), .aload_n 0, 0, 0, 0) : iv_I),
  (((115, 3), .getfield 92, 1, 32, 631) : iv_I),
  (((118, 1), .iload_n 1, 0, 0, 0) : iv_I),
  (((119, 2), .iload 4, 0, 0, 0) : iv_I),
  (((121, 1), .iastore, 0, 0, 0) : iv_I),
  (((122, 1), .aload_n 0, 0, 0, 0) : iv_I),
  (((123, 3), .getfield 104, 1, 36, 635) : iv_I),
  (((126, 1), .iload_n 1, 0, 0, 0) : iv_I),
  (((127, 1), .aload_n 0, 0, 0, 0) : iv_I),
  (((128, 3), .getfield 160, 1, 41, 640) : iv_I),
  (((131, 1), .iastore, 0, 0, 0) : iv_I),
  (((132, 1), .aload_n 0, 0, 0, 0) : iv_I),
  (((133, 3), .getfield 95, 1, 33, 632) : iv_I),
  (((136, 1), .iload_n 1, 0, 0, 0) : iv_I),
  (((137, 1), .iconst 1, 0, 0, 0) : iv_I),
  (((138, 1), .bastore, 0, 0, 0) : iv_I),
  (((139, 1), .aload_n 0, 0, 0, 0) : iv_I),
  (((140, 3), .getfield 98, 1, 34, 633) : iv_I),
  (((143, 1), .iload_n 1, 0, 0, 0) : iv_I),
  (((144, 1), .iconst 0, 0, 0, 0) : iv_I),
  (((145, 1), .iastore, 0, 0, 0) : iv_I),
  (((146, 1), .aload_n 0, 0, 0, 0) : iv_I),
  (((147, 3), .getfield 101, 1, 35, 634) : iv_I),
  (((150, 1), .iload_n 1, 0, 0, 0) : iv_I),
  (((151, 1), .iconst 0, 0, 0, 0) : iv_I),
  (((152, 1), .iastore, 0, 0, 0) : iv_I),
  (((153, 1), .aload_n 0, 0, 0, 0) : iv_I),
  (((154, 1), .aload_n 0, 0, 0, 0) : iv_I),
  (((155, 3), .getfield 83, 1, 29, 628) : iv_I),
  (((158, 1), .iload_n 1, 0, 0, 0) : iv_I),
  (((159, 1), .iaload, 0, 0, 0) : iv_I),
  (((160, 2), .iload 4, 0, 0, 0) : iv_I),
  (((162, 1), .iconst (-1), 0, 0, 0) : iv_I),
  (((163, 3), .invokevirtual 187, 47, 4, 848) : iv_I),
  (((166, 1), .ireturn, 0, 0, 0) : iv_I)]
/-- 51: RuleGraphModel.onwards(I)I -/
def mc_51 : List iv_I := [
  (((0, 1), .aload_n 0, 0, 0, 0) : iv_I),
  (((1, 3), .getfield 98, 1, 34, 633) : iv_I),
  (((4, 1), .iload_n 1, 0, 0, 0) : iv_I),
  (((5, 1), .iaload, 0, 0, 0) : iv_I),
  (((6, 1), .istore_n 2, 0, 0, 0) : iv_I),
  (((7, 2), .bipush 14, 0, 0, 0) : iv_I),
  (((9, 1), .aload_n 0, 0, 0, 0) : iv_I),
  (((10, 3), .getfield 83, 1, 29, 628) : iv_I),
  (((13, 1), .iload_n 1, 0, 0, 0) : iv_I),
  (((14, 1), .iaload, 0, 0, 0) : iv_I),
  (((15, 1), .imul, 0, 0, 0) : iv_I),
  (((16, 1), .iload_n 2, 0, 0, 0) : iv_I),
  (((17, 1), .iadd, 0, 0, 0) : iv_I),
  (((18, 1), .istore_n 3, 0, 0, 0) : iv_I),
  (((19, 1), .iload_n 2, 0, 0, 0) : iv_I),
  (((20, 1), .aload_n 0, 0, 0, 0) : iv_I),
  (((21, 3), .getfield 139, 1, 2, 601) : iv_I),
  (((24, 3), .if_icmp .ne 52, 49, 0, 0) : iv_I),
  (((27, 1), .aload_n 0, 0, 0, 0) : iv_I),
  (((28, 3), .getfield 95, 1, 33, 632) : iv_I),
  (((31, 1), .iload_n 1, 0, 0, 0) : iv_I),
  (((32, 1), .iconst 0, 0, 0, 0) : iv_I),
  (((33, 1), .bastore, 0, 0, 0) : iv_I),
  (((34, 1), .aload_n 0, 0, 0, 0) : iv_I),
  (((35, 3), .getfield 89, 1, 31, 630) : iv_I),
  (((38, 1), .iload_n 1, 0, 0, 0) : iv_I),
  (((39, 1), .dup2, 0, 0, 0) : iv_I),
  (((40, 1), .iaload, 0, 0, 0) : iv_I),
  (((41, 1), .iconst 1, 0, 0, 0) : iv_I),
  (((42, 1), .iadd, 0, 0, 0) : iv_I),
  (((43, 1), .iastore, 0, 0, 0) : iv_I),
  (((44, 1), .aload_n 0, 0, 0, 0) : iv_I),
  (((45, 1), .aload_n 0, 0, 0, 0) : iv_I),
  (((46, 3), .getfield 160, 1, 41, 640) : iv_I),
  (((49, 1), .aload_n 0, 0, 0, 0) : iv_I),
  (((50, 3), .getfield 104, 1, 36, 635) : iv_I),
  (((53, 1), .iload_n 1, 0, 0, 0) : iv_I),
  (((54, 1), .iaload, 0, 0, 0) : iv_I),
  (((55, 3), .if_icmp .le 12, 44, 0, 0) : iv_I),
  (((58, 1), .aload_n 0, 0, 0, 0) : iv_I),
  (((59, 3), .getfield 163, 1, 28, 627) : iv_I),
  (((62, 1), .iconst 1, 0, 0, 0) : iv_I),
  (((63, 1), .isub, 0, 0, 0) : iv_I),
  (((64, 3), .goto 7, 46, 0, 0) : iv_I),
  (((67, 1), .aload_n 0, 0, 0, 0) : iv_I),
  (((68, 3), .getfield 163, 1, 28, 627) : iv_I),
  (((71, 3), .putfield 163, 1, 28, 627) : iv_I),
  (((74, 1), .iconst 0, 0, 0, 0) : iv_I),
  (((75, 1), .ireturn, 0, 0, 0) : iv_I),
  (((76, 1), .aload_n 0, 0, 0, 0) : iv_I),
  (((77, 3), .getfield 16, 1, 4, 603) : iv_I),
  (((80, 1), .iload_n 2, 0, 0, 0) : iv_I),
  (((81, 1), .iaload, 0, 0, 0) : iv_I),
  (((82, 1), .iconst 3, 0, 0, 0) : iv_I),
  (((83, 3), .if_icmp .ne 7, 57, 0, 0) : iv_I),
  (((86, 1), .iconst 1, 0, 0, 0) : iv_I),
  (((87, 3), .goto 4, 58, 0, 0) : iv_I),
  (((90, 1), .iconst 0, 0, 0, 0) : iv_I),
  (((91, 2), .istore 4, 0, 0, 0) : iv_I),
  (((93, 1), .aload_n 0, 0, 0, 0) : iv_I),
  (((94, 3), .getfield 77, 1, 26, 625) : iv_I),
  (((97, 1), .iload_n 3, 0, 0, 0) : iv_I),
  (((98, 1), .iaload, 0, 0, 0) : iv_I),
  (((99, 3), .ifCond .ne 7, 66, 0, 0) : iv_I),
  (((102, 1), .iconst 0, 0, 0, 0) : iv_I),
  (((103, 3), .goto 20, 76, 0, 0) : iv_I),
  (((106, 2), .iload 4, 0, 0, 0) : iv_I),
  (((108, 3), .ifCond .eq 14, 75, 0, 0) : iv_I),
  (((111, 1), .aload_n 0, 0, 0, 0) : iv_I),
  (((112, 3), .getfield 77, 1, 26, 625) : iv_I),
  (((115, 1), .iload_n 3, 0, 0, 0) : iv_I),
  (((116, 1), .iaload, 0, 0, 0) : iv_I),
  (((117, 1), .iconst 1, 0, 0, 0) : iv_I),
  (((118, 1), .isub, 0, 0, 0) : iv_I),
  (((119, 3), .goto 4, 76, 0, 0) : iv_I),
  (((122, 1), .iconst 1, 0, 0, 0) : iv_I),
  (((123, 2), .istore 5, 0, 0, 0) : iv_I),
  (((125, 1), .aload_n 0, 0, 0, 0) : iv_I),
  (((126, 3), .getfield 19, 1, 5, 604) : iv_I),
  (((129, 1), .iload_n 2, 0, 0, 0) : iv_I),
  (((130, 1), .baload, 0, 0, 0) : iv_I),
  (((131, 3), .ifCond .eq 28, 96, 0, 0) : iv_I),
  (((134, 1), .aload_n 0, 0, 0, 0) : iv_I),
  (((135, 1), .aload_n 0, 0, 0, 0) : iv_I),
  (((136, 3), .getfield 83, 1, 29, 628) : iv_I),
  (((139, 1), .iload_n 1, 0, 0, 0) : iv_I),
  (((140, 1), .iaload, 0, 0, 0) : iv_I),
  (((141, 1), .iload_n 2, 0, 0, 0) : iv_I),
  (((142, 3), .invokevirtual 152, 38, 3, 799) : iv_I),
  (((145, 3), .ifCond .eq 14, 96, 0, 0) : iv_I),
  (((148, 1), .aload_n 0, 0, 0, 0) : iv_I),
  (((149, 3), .getfield 101, 1, 35, 634) : iv_I),
  (((152, 1), .iload_n 1, 0, 0, 0) : iv_I),
  (((153, 1), .iaload, 0, 0, 0) : iv_I),
  (((154, 2), .iload 5, 0, 0, 0) : iv_I),
  (((156, 3), .if_icmp .ne 22, 111, 0, 0) : iv_I),
  (((159, 1), .aload_n 0, 0, 0, 0) : iv_I),
  (((160, 3), .getfield 98, 1, 34, 633) : iv_I),
  (((163, 1), .iload_n 1, 0, 0, 0) : iv_I),
  (((164, 1), .dup2, 0, 0, 0) : iv_I),
  (((165, 1), .iaload, 0, 0, 0) : iv_I),
  (((166, 1), .iconst 1, 0, 0, 0) : iv_I),
  (((167, 1), .iadd, 0, 0, 0) : iv_I),
  (((168, 1), .iastore, 0, 0, 0) : iv_I),
  (((169, 1), .aload_n 0, 0, 0, 0) : iv_I),
  (((170, 3), .getfield 101, 1, 35, 634) : iv_I),
  (((173, 1), .iload_n 1, 0, 0, 0) : iv_I),
  (((174, 1), .iconst 0, 0, 0, 0) : iv_I),
  (((175, 1), .iastore, 0, 0, 0) : iv_I),
  (((176, 1), .iconst 0, 0, 0, 0) : iv_I),
  (((177, 1), .ireturn, 0, 0, 0) : iv_I),
  (((178, 2), .iload 4, 0, 0, 0) : iv_I),
  (((180, 3), .ifCond .eq 21, 125, 0, 0) : iv_I),
  (((183, 1), .aload_n 0, 0, 0, 0) : iv_I),
  (((184, 3), .getfield 80, 1, 27, 626) : iv_I),
  (((187, 1), .iconst 3, 0, 0, 0) : iv_I),
  (((188, 1), .iload_n 3, 0, 0, 0) : iv_I),
  (((189, 1), .imul, 0, 0, 0) : iv_I),
  (((190, 1), .aload_n 0, 0, 0, 0) : iv_I),
  (((191, 3), .getfield 101, 1, 35, 634) : iv_I),
  (((194, 1), .iload_n 1, 0, 0, 0) : iv_I),
  (((195, 1), .iaload, 0, 0, 0) : iv_I),
  (((196, 1), .iadd, 0, 0, 0) : iv_I),
  (((197, 1), .iaload, 0, 0, 0) : iv_I),
  (((198, 3), .goto 11, 131, 0, 0) : iv_I),
  (((201, 1), .aload_n 0, 0, 0, 0) : iv_I),
  (((202, 3), .getfield 77, 1, 26, 625) : iv_I),
  (((205, 1), .iload_n 3, 0, 0, 0) : iv_I),
  (((206, 1), .iaload, 0, 0, 0) : iv_I),
  (((207, 1), .iconst 1, 0, 0, 0) : iv_I),
  (((208, 1), .isub, 0, 0, 0) : iv_I),
  (((209, 2), .istore 6, 0, 0, 0) : iv_I),
  (((211, 1), .aload_n 0, 0, 0, 0) : iv_I),
  (((212, 3), .getfield 107, 1, 37, 636) : iv_I),
  (((215, 1), .aload_n 0, 0, 0, 0) : iv_I),
  (((216, 3), .getfield 163, 1, 28, 627) : iv_I),
  (((219, 1), .iload_n 2, 0, 0, 0) : iv_I),
  (((220, 1), .iastore, 0, 0, 0) : iv_I),
  (((221, 1), .aload_n 0, 0, 0, 0) : iv_I),
  (((222, 3), .getfield 110, 1, 38, 637) : iv_I),
  (((225, 1), .aload_n 0, 0, 0, 0) : iv_I),
  (((226, 3), .getfield 163, 1, 28, 627) : iv_I),
  (((229, 2), .iload 4, 0, 0, 0) : iv_I),
  (((231, 3), .ifCond .eq 12, 149, 0, 0) : iv_I),
  (((234, 1), .aload_n 0, 0, 0, 0) : iv_I),
  (((235, 3), .getfield 101, 1, 35, 634) : iv_I),
  (((238, 1), .iload_n 1, 0, 0, 0) : iv_I),
  (((239, 1), .iaload, 0, 0, 0) : iv_I),
  (((240, 3), .goto 4, 150, 0, 0) : iv_I),
  (((243, 1), .iconst (-1), 0, 0, 0) : iv_I),
  (((244, 1), .iastore, 0, 0, 0) : iv_I),
  (((245, 1), .aload_n 0, 0, 0, 0) : iv_I),
  (((246, 3), .getfield 101, 1, 35, 634) : iv_I),
  (((249, 1), .iload_n 1, 0, 0, 0) : iv_I),
  (((250, 1), .dup2, 0, 0, 0) : iv_I),
  (((251, 1), .iaload, 0, 0, 0) : iv_I),
  (((252, 1), .iconst 1, 0, 0, 0) : iv_I),
  (((253, 1), .iadd, 0, 0, 0) : iv_I),
  (((254, 1), .iastore, 0, 0, 0) : iv_I),
  (((255, 1), .aload_n 0, 0, 0, 0) : iv_I),
  (((256, 3), .getfield 23, 1, 6, 605) : iv_I),
  (((259, 2), .bipush 6, 0, 0, 0) : iv_I),
  (((261, 1), .iload_n 2, 0, 0, 0) : iv_I),
  (((262, 1), .imul, 0, 0, 0) : iv_I),
  (((263, 1), .aload_n 0, 0, 0, 0) : iv_I),
  (((264, 3), .getfield 92, 1, 32, 631) : iv_I),
  (((267, 1), .iload_n 1, 0, 0, 0) : iv_I),
  (((268, 1), .iaload, 0, 0, 0) : iv_I),
  (((269, 1), .iadd, 0, 0, 0) : iv_I),
  (((270, 1), .iaload, 0, 0, 0) : iv_I),
  (((271, 2), .istore 7, 0, 0, 0) : iv_I),
  (((273, 1), .aload_n 0, 0, 0, 0) : iv_I),
  (((274, 2), .iload 6, 0, 0, 0) : iv_I),
  (((276, 2), .iload 7, 0, 0, 0) : iv_I),
  (((278, 3), .ifCond .le 10, 179, 0, 0) : iv_I),
  (((281, 2), .iload 7, 0, 0, 0) : iv_I),
  (((283, 1), .iconst 1, 0, 0, 0) : iv_I),
  (((284, 1), .isub, 0, 0, 0) : iv_I),
  (((285, 3), .goto 9, 183, 0, 0) : iv_I),
  (((288, 1), .aload_n 0, 0, 0, 0) : iv_I),
  (((289, 3), .getfield 92, 1, 32, 631) : iv_I),
  (((292, 1), .iload_n 1, 0, 0, 0) : iv_I),
  (((293, 1), .iaload, 0, 0, 0) : iv_I),
  (((294, 3), .invokevirtual 191, 49, 3, 831) : iv_I),
  (((297, 1), .ireturn, 0, 0, 0) : iv_I)]
/-- 52: RuleGraphModel.check(II)I -/
def mc_52 : List iv_I := [
  (((0, 1), .aload_n 0, 0, 0, 0) : iv_I),
  (((1, 1), .iconst 0, 0, 0, 0) : iv_I),
  (((2, 3), .putfield 163, 1, 28, 627) : iv_I),
  (((5, 1), .aload_n 0, 0, 0, 0) : iv_I),
  (((6, 1), .iload_n 1, 0, 0, 0) : iv_I),
  (((7, 1), .iload_n 2, 0, 0, 0) : iv_I),
  (((8, 3), .invokevirtual 191, 49, 3, 831) : iv_I),
  (((11, 1), .istore_n 3, 0, 0, 0) : iv_I),
  (((12, 1), .iconst 0, 0, 0, 0) : iv_I),
  (((13, 2), .istore 4, 0, 0, 0) : iv_I),
  (((15, 2), .iload 4, 0, 0, 0) : iv_I),
  (((17, 2), .ldc 195, 100000, 0, 839) : iv_I),
  (((19, 3), .if_icmp .ge 58, 42, 0, 0) : iv_I),
  (((22, 1), .iload_n 3, 0, 0, 0) : iv_I),
  (((23, 3), .ifCond .ne 54, 42, 0, 0) : iv_I),
  (((26, 1), .aload_n 0, 0, 0, 0) : iv_I),
  (((27, 3), .getfield 163, 1, 28, 627) : iv_I),
  (((30, 3), .ifCond .le 47, 42, 0, 0) : iv_I),
  (((33, 1), .aload_n 0, 0, 0, 0) : iv_I),
  (((34, 3), .getfield 95, 1, 33, 632) : iv_I),
  (((37, 1), .aload_n 0, 0, 0, 0) : iv_I),
  (((38, 3), .getfield 163, 1, 28, 627) : iv_I),
  (((41, 1), .iconst 1, 0, 0, 0) : iv_I),
  (((42, 1), .isub, 0, 0, 0) : iv_I),
  (((43, 1), .baload, 0, 0, 0) : iv_I),
  (((44, 3), .ifCond .eq 16, 33, 0, 0) : iv_I),
  (((47, 1), .aload_n 0, 0, 0, 0) : iv_I),
  (((48, 1), .aload_n 0, 0, 0, 0) : iv_I),
  (((49, 3), .getfield 163, 1, 28, 627) : iv_I),
  (((52, 1), .iconst 1, 0, 0, 0) : iv_I),
  (((53, 1), .isub, 0, 0, 0) : iv_I),
  (((54, 3), .invokevirtual 196, 51, 2, 840) : iv_I),
  (((57, 3), .goto 13, 39, 0, 0) : iv_I),
  (((60, 1), .aload_n 0, 0, 0, 0) : iv_I),
  (((61, 1), .aload_n 0, 0, 0, 0) : iv_I),
  (((62, 3), .getfield 163, 1, 28, 627) : iv_I),
  (((65, 1), .iconst 1, 0, 0, 0) : iv_I),
  (((66, 1), .isub, 0, 0, 0) : iv_I),
  (((67, 3), .invokevirtual 199, 50, 2, 844) : iv_I),
  (((70, 1), .istore_n 3, 0, 0, 0) : iv_I),
  (((71, 3), .iinc 4 1, 0, 0, 0) : iv_I),
  (((74, 3), .goto (-59), 10, 0, 0) : iv_I),
  (((77, 1), .iload_n 3, 0, 0, 0) : iv_I),
  (((78, 1), .ireturn, 0, 0, 0) : iv_I)]
/-- 53: RuleGraphModel.comesUpon(II)Z -/
def mc_53 : List iv_I := [
  (((0, 1), .iconst 0, 0, 0, 0) : iv_I),
  (((1, 1), .istore_n 3, 0, 0, 0) : iv_I),
  (((2, 1), .iconst 0, 0, 0, 0) : iv_I),
  (((3, 2), .istore 4, 0, 0, 0) : iv_I),
  (((5, 2), .iload 4, 0, 0, 0) : iv_I),
  (((7, 1), .aload_n 0, 0, 0, 0) : iv_I),
  (((8, 3), .getfield 62, 1, 20, 619) : iv_I),
  (((11, 1), .iload_n 1, 0, 0, 0) : iv_I),
  (((12, 2), .bipush 6, 0, 0, 0) : iv_I),
  (((14, 1), .isub, 0, 0, 0) : iv_I),
  (((15, 1), .iaload, 0, 0, 0) : iv_I),
  (((16, 3), .if_icmp .ge 37, 32, 0, 0) : iv_I),
  (((19, 1), .iload_n 3, 0, 0, 0) : iv_I),
  (((20, 3), .ifCond .ne 21, 26, 0, 0) : iv_I),
  (((23, 1), .aload_n 0, 0, 0, 0) : iv_I),
  (((24, 3), .getfield 65, 1, 21, 620) : iv_I),
  (((27, 1), .iconst 4, 0, 0, 0) : iv_I),
  (((28, 1), .iload_n 1, 0, 0, 0) : iv_I),
  (((29, 2), .bipush 6, 0, 0, 0) : iv_I),
  (((31, 1), .isub, 0, 0, 0) : iv_I),
  (((32, 1), .imul, 0, 0, 0) : iv_I),
  (((33, 2), .iload 4, 0, 0, 0) : iv_I),
  (((35, 1), .iadd, 0, 0, 0) : iv_I),
  (((36, 1), .iaload, 0, 0, 0) : iv_I),
  (((37, 1), .iload_n 2, 0, 0, 0) : iv_I),
  (((38, 3), .if_icmp .ne 7, 28, 0, 0) : iv_I),
  (((41, 1), .iconst 1, 0, 0, 0) : iv_I),
  (((42, 3), .goto 4, 29, 0, 0) : iv_I),
  (((45, 1), .iconst 0, 0, 0, 0) : iv_I),
  (((46, 1), .istore_n 3, 0, 0, 0) : iv_I),
  (((47, 3), .iinc 4 1, 0, 0, 0) : iv_I),
  (((50, 3), .goto (-45), 4, 0, 0) : iv_I),
  (((53, 1), .iload_n 3, 0, 0, 0) : iv_I),
  (((54, 1), .ireturn, 0, 0, 0) : iv_I)]
/-- 54: RuleGraphModel.cyclic(I)Z -/
def mc_54 : List iv_I := [
  (((0, 2), .bipush 13, 0, 0, 0) : iv_I),
  (((2, 1), .iload_n 1, 0, 0, 0) : iv_I),
  (((3, 1), .isub, 0, 0, 0) : iv_I),
  (((4, 1), .istore_n 2, 0, 0, 0) : iv_I),
  (((5, 1), .aload_n 0, 0, 0, 0) : iv_I),
  (((6, 1), .iload_n 1, 0, 0, 0) : iv_I),
  (((7, 1), .iload_n 1, 0, 0, 0) : iv_I),
  (((8, 3), .invokevirtual 202, 53, 3, 819) : iv_I),
  (((11, 3), .ifCond .ne 30, 24, 0, 0) : iv_I),
  (((14, 1), .aload_n 0, 0, 0, 0) : iv_I),
  (((15, 1), .iload_n 1, 0, 0, 0) : iv_I),
  (((16, 1), .iload_n 2, 0, 0, 0) : iv_I),
  (((17, 3), .invokevirtual 202, 53, 3, 819) : iv_I),
  (((20, 3), .ifCond .eq 25, 26, 0, 0) : iv_I),
  (((23, 1), .aload_n 0, 0, 0, 0) : iv_I),
  (((24, 1), .iload_n 2, 0, 0, 0) : iv_I),
  (((25, 1), .iload_n 2, 0, 0, 0) : iv_I),
  (((26, 3), .invokevirtual 202, 53, 3, 819) : iv_I),
  (((29, 3), .ifCond .ne 12, 24, 0, 0) : iv_I),
  (((32, 1), .aload_n 0, 0, 0, 0) : iv_I),
  (((33, 1), .iload_n 2, 0, 0, 0) : iv_I),
  (((34, 1), .iload_n 1, 0, 0, 0) : iv_I),
  (((35, 3), .invokevirtual 202, 53, 3, 819) : iv_I),
  (((38, 3), .ifCond .eq 7, 26, 0, 0) : iv_I),
  (((41, 1), .iconst 1, 0, 0, 0) : iv_I),
  (((42, 3), .goto 4, 27, 0, 0) : iv_I),
  (((45, 1), .iconst 0, 0, 0, 0) : iv_I),
  (((46, 1), .ireturn, 0, 0, 0) : iv_I)]
/-- 55: RuleGraphModel.flat(I)I -/
def mc_55 : List iv_I := [
  (((0, 1), .aload_n 0, 0, 0, 0) : iv_I),
  (((1, 3), .getfield 113, 1, 40, 639) : iv_I),
  (((4, 1), .iconst 0, 0, 0, 0) : iv_I),
  (((5, 1), .iload_n 1, 0, 0, 0) : iv_I),
  (((6, 1), .iastore, 0, 0, 0) : iv_I),
  (((7, 1), .iload_n 1, 0, 0, 0) : iv_I),
  (((8, 2), .bipush 6, 0, 0, 0) : iv_I),
  (((10, 3), .if_icmp .ge 5, 10, 0, 0) : iv_I),
  (((13, 1), .iconst 1, 0, 0, 0) : iv_I),
  (((14, 1), .ireturn, 0, 0, 0) : iv_I),
  (((15, 1), .iconst 0, 0, 0, 0) : iv_I),
  (((16, 1), .istore_n 2, 0, 0, 0) : iv_I),
  (((17, 1), .iconst 0, 0, 0, 0) : iv_I),
  (((18, 1), .istore_n 3, 0, 0, 0) : iv_I),
  (((19, 1), .iload_n 3, 0, 0, 0) : iv_I),
  (((20, 1), .aload_n 0, 0, 0, 0) : iv_I),
  (((21, 3), .getfield 62, 1, 20, 619) : iv_I),
  (((24, 1), .iload_n 1, 0, 0, 0) : iv_I),
  (((25, 2), .bipush 6, 0, 0, 0) : iv_I),
  (((27, 1), .isub, 0, 0, 0) : iv_I),
  (((28, 1), .iaload, 0, 0, 0) : iv_I),
  (((29, 3), .if_icmp .ge 99, 74, 0, 0) : iv_I),
  (((32, 1), .aload_n 0, 0, 0, 0) : iv_I),
  (((33, 3), .getfield 65, 1, 21, 620) : iv_I),
  (((36, 1), .iconst 4, 0, 0, 0) : iv_I),
  (((37, 1), .iload_n 1, 0, 0, 0) : iv_I),
  (((38, 2), .bipush 6, 0, 0, 0) : iv_I),
  (((40, 1), .isub, 0, 0, 0) : iv_I),
  (((41, 1), .imul, 0, 0, 0) : iv_I),
  (((42, 1), .iload_n 3, 0, 0, 0) : iv_I),
  (((43, 1), .iadd, 0, 0, 0) : iv_I),
  (((44, 1), .iaload, 0, 0, 0) : iv_I),
  (((45, 2), .istore 4, 0, 0, 0) : iv_I),
  (((47, 2), .iload 4, 0, 0, 0) : iv_I),
  (((49, 2), .bipush 6, 0, 0, 0) : iv_I),
  (((51, 3), .if_icmp .ge 7, 38, 0, 0) : iv_I),
  (((54, 1), .iconst 1, 0, 0, 0) : iv_I),
  (((55, 3), .goto 13, 44, 0, 0) : iv_I),
  (((58, 1), .aload_n 0, 0, 0, 0) : iv_I),
  (((59, 3), .getfield 62, 1, 20, 619) : iv_I),
  (((62, 2), .iload 4, 0, 0, 0) : iv_I),
  (((64, 2), .bipush 6, 0, 0, 0) : iv_I),
  (((66, 1), .isub, 0, 0, 0) : iv_I),
  (((67, 1), .iaload, 0, 0, 0) : iv_I),
  (((68, 2), .istore 5, 0, 0, 0) : iv_I),
  (((70, 1), .iconst 0, 0, 0, 0) : iv_I),
  (((71, 2), .istore 6, 0, 0, 0) : iv_I),
  (((73, 2), .iload 6, 0, 0, 0) : iv_I),
  (((75, 2), .iload 5, 0, 0, 0) : iv_I),
  (((77, 3), .if_icmp .ge 45, 72, 0, 0) : iv_I),
  (((80, 1), .aload_n 0, 0, 0, 0) : iv_I),
  (((81, 3), .getfield 113, 1, 40, 639) : iv_I),
  (((84, 1), .iload_n 2, 0, 0, 0) : iv_I),
  (((85, 2), .iload 4, 0, 0, 0) : iv_I),
  (((87, 2), .bipush 6, 0, 0, 0) : iv_I),
  (((89, 3), .if_icmp .ge 8, 58, 0, 0) : iv_I),
  (((92, 2), .iload 4, 0, 0, 0) : iv_I),
  (((94, 3), .goto 18, 68, 0, 0) : iv_I),
  (((97, 1), .aload_n 0, 0, 0, 0) : iv_I),
  (((98, 3), .getfield 65, 1, 21, 620) : iv_I),
  (((101, 1), .iconst 4, 0, 0, 0) : iv_I),
  (((102, 2), .iload 4, 0, 0, 0) : iv_I),
  (((104, 2), .bipush 6, 0, 0, 0) : iv_I),
  (((106, 1), .isub, 0, 0, 0) : iv_I),
  (((107, 1), .imul, 0, 0, 0) : iv_I),
  (((108, 2), .iload 6, 0, 0, 0) : iv_I),
  (((110, 1), .iadd, 0, 0, 0) : iv_I),
  (((111, 1), .iaload, 0, 0, 0) : iv_I),
  (((112, 1), .iastore, 0, 0, 0) : iv_I),
  (((113, 3), .iinc 2 1, 0, 0, 0) : iv_I),
  (((116, 3), .iinc 6 1, 0, 0, 0) : iv_I),
  (((119, 3), .goto (-46), 47, 0, 0) : iv_I),
  (((122, 3), .iinc 3 1, 0, 0, 0) : iv_I),
  (((125, 3), .goto (-106), 14, 0, 0) : iv_I),
  (((128, 1), .iload_n 2, 0, 0, 0) : iv_I),
  (((129, 1), .ireturn, 0, 0, 0) : iv_I)]
/-- 56: RuleGraphModel.validate(II)I -/
def mc_56 : List iv_I := [
  (((0, 1), .iload_n 1, 0, 0, 0) : iv_I),
  (((1, 1), .iconst 0, 0, 0, 0) : iv_I),
  (((2, 1), .aload_n 0, 0, 0, 0) : iv_I),
  (((3, 3), .getfield 149, 1, 24, 623) : iv_I),
  (((6, 1), .iconst 1, 0, 0, 0) : iv_I),
  (((7, 1), .isub, 0, 0, 0) : iv_I),
  (((8, 3), .invokestatic 135, 25, 3, 748) : iv_I),
  (((11, 3), .ifCond .eq 13, 13, 0, 0) : iv_I),
  (((14, 1), .iload_n 2, 0, 0, 0) : iv_I),
  (((15, 1), .iconst 0, 0, 0, 0) : iv_I),
  (((16, 2), .bipush 7, 0, 0, 0) : iv_I),
  (((18, 3), .invokestatic 135, 25, 3, 748) : iv_I),
  (((21, 3), .ifCond .ne 5, 15, 0, 0) : iv_I),
  (((24, 1), .iconst (-1), 0, 0, 0) : iv_I),
  (((25, 1), .ireturn, 0, 0, 0) : iv_I),
  (((26, 1), .aload_n 0, 0, 0, 0) : iv_I),
  (((27, 1), .iconst 0, 0, 0, 0) : iv_I),
  (((28, 3), .putfield 160, 1, 41, 640) : iv_I),
  (((31, 1), .aload_n 0, 0, 0, 0) : iv_I),
  (((32, 1), .iconst 0, 0, 0, 0) : iv_I),
  (((33, 3), .putfield 181, 1, 39, 638) : iv_I),
  (((36, 1), .iload_n 2, 0, 0, 0) : iv_I),
  (((37, 1), .iconst 5, 0, 0, 0) : iv_I),
  (((38, 3), .if_icmp .le 14, 30, 0, 0) : iv_I),
  (((41, 1), .aload_n 0, 0, 0, 0) : iv_I),
  (((42, 1), .iload_n 2, 0, 0, 0) : iv_I),
  (((43, 3), .invokevirtual 205, 54, 2, 815) : iv_I),
  (((46, 3), .ifCond .eq 6, 30, 0, 0) : iv_I),
  (((49, 2), .bipush (-2), 0, 0, 0) : iv_I),
  (((51, 1), .ireturn, 0, 0, 0) : iv_I),
  (((52, 1), .aload_n 0, 0, 0, 0) : iv_I),
  (((53, 1), .iload_n 2, 0, 0, 0) : iv_I),
  (((54, 3), .invokevirtual 208, 55, 2, 823) : iv_I),
  (((57, 1), .istore_n 3, 0, 0, 0) : iv_I),
  (((58, 1), .iconst 0, 0, 0, 0) : iv_I),
  (((59, 2), .istore 4, 0, 0, 0) : iv_I),
  (((61, 2), .iload 4, 0, 0, 0) : iv_I),
  (((63, 1), .iload_n 3, 0, 0, 0) : iv_I),
  (((64, 3), .if_icmp .ge 43, 59, 0, 0) : iv_I),
  (((67, 1), .aload_n 0, 0, 0, 0) : iv_I),
  (((68, 3), .getfield 160, 1, 41, 640) : iv_I),
  (((71, 3), .ifCond .ne 36, 59, 0, 0) : iv_I),
  (((74, 1), .aload_n 0, 0, 0, 0) : iv_I),
  (((75, 1), .iload_n 1, 0, 0, 0) : iv_I),
  (((76, 1), .aload_n 0, 0, 0, 0) : iv_I),
  (((77, 3), .getfield 113, 1, 40, 639) : iv_I),
  (((80, 2), .iload 4, 0, 0, 0) : iv_I),
  (((82, 1), .iaload, 0, 0, 0) : iv_I),
  (((83, 3), .invokevirtual 211, 52, 3, 827) : iv_I),
  (((86, 2), .istore 5, 0, 0, 0) : iv_I),
  (((88, 2), .iload 5, 0, 0, 0) : iv_I),
  (((90, 3), .ifCond .eq 11, 57, 0, 0) : iv_I),
  (((93, 1), .aload_n 0, 0, 0, 0) : iv_I),
  (((94, 1), .iconst 0, 0, 0, 0) : iv_I),
  (((95, 3), .putfield 160, 1, 41, 640) : iv_I),
  (((98, 2), .iload 5, 0, 0, 0) : iv_I),
  (((100, 1), .ireturn, 0, 0, 0) : iv_I),
  (((101, 3), .iinc 4 1, 0, 0, 0) : iv_I),
  (((104, 3), .goto (-43), 36, 0, 0) : iv_I),
  (((107, 1), .aload_n 0, 0, 0, 0) : iv_I),
  (((108, 3), .getfield 160, 1, 41, 640) : iv_I),
  (((111, 1), .ireturn, 0, 0, 0) : iv_I)]
/-- 57: RuleGraphModel.look(III)I -/
def mc_57 : List iv_I := [
  (((0, 1), .aload_n 0, 0, 0, 0) : iv_I),
  (((1, 1), .iload_n 1, 0, 0, 0) : iv_I),
  (((2, 1), .iload_n 2, 0, 0, 0) : iv_I),
  (((3, 3), .invokevirtual 152, 38, 3, 799) : iv_I),
  (((6, 3), .ifCond .eq 12, 10, 0, 0) : iv_I),
  (((9, 1), .iload_n 3, 0, 0, 0) : iv_I),
  (((10, 1), .iconst 0, 0, 0, 0) : iv_I),
  (((11, 1), .iconst 5, 0, 0, 0) : iv_I),
  (((12, 3), .invokestatic 135, 25, 3, 748) : iv_I),
  (((15, 3), .ifCond .ne 5, 12, 0, 0) : iv_I),
  (((18, 1), .iconst (-1), 0, 0, 0) : iv_I),
  (((19, 1), .ireturn, 0, 0, 0) : iv_I),
  (((20, 1), .aload_n 0, 0, 0, 0) : iv_I),
  (((21, 1), .iconst 0, 0, 0, 0) : iv_I),
  (((22, 3), .putfield 160, 1, 41, 640) : iv_I),
  (((25, 1), .aload_n 0, 0, 0, 0) : iv_I),
  (((26, 1), .iconst 0, 0, 0, 0) : iv_I),
  (((27, 3), .putfield 163, 1, 28, 627) : iv_I),
  (((30, 1), .aload_n 0, 0, 0, 0) : iv_I),
  (((31, 1), .iload_n 1, 0, 0, 0) : iv_I),
  (((32, 1), .iload_n 3, 0, 0, 0) : iv_I),
  (((33, 1), .iload_n 2, 0, 0, 0) : iv_I),
  (((34, 3), .invokevirtual 187, 47, 4, 848) : iv_I),
  (((37, 2), .istore 4, 0, 0, 0) : iv_I),
  (((39, 1), .aload_n 0, 0, 0, 0) : iv_I),
  (((40, 2), .iload 4, 0, 0, 0) : iv_I),
  (((42, 3), .ifCond .eq 7, 29, 0, 0) : iv_I),
  (((45, 1), .iconst 0, 0, 0, 0) : iv_I),
  (((46, 3), .goto 7, 31, 0, 0) : iv_I),
  (((49, 1), .aload_n 0, 0, 0, 0) : iv_I),
  (((50, 3), .getfield 160, 1, 41, 640) : iv_I),
  (((53, 3), .putfield 160, 1, 41, 640) : iv_I),
  (((56, 2), .iload 4, 0, 0, 0) : iv_I),
  (((58, 3), .ifCond .eq 8, 36, 0, 0) : iv_I),
  (((61, 2), .iload 4, 0, 0, 0) : iv_I),
  (((63, 3), .goto 7, 38, 0, 0) : iv_I),
  (((66, 1), .aload_n 0, 0, 0, 0) : iv_I),
  (((67, 3), .getfield 160, 1, 41, 640) : iv_I),
  (((70, 1), .ireturn, 0, 0, 0) : iv_I)]
/-- 58: RuleGraphModel.found()I -/
def mc_58 : List iv_I := [
  (((0, 1), .aload_n 0, 0, 0, 0) : iv_I),
  (((1, 3), .getfield 160, 1, 41, 640) : iv_I),
  (((4, 1), .ireturn, 0, 0, 0) : iv_I)]
/-- 59: RuleGraphModel.visits()I -/
def mc_59 : List iv_I := [
  (((0, 1), .aload_n 0, 0, 0, 0) : iv_I),
  (((1, 3), .getfield 181, 1, 39, 638) : iv_I),
  (((4, 1), .ireturn, 0, 0, 0) : iv_I)]
/-- 60: RuleGraphModel.violation(II)I -/
def mc_60 : List iv_I := [
  (((0, 1), .iload_n 1, 0, 0, 0) : iv_I),
  (((1, 1), .iconst 0, 0, 0, 0) : iv_I),
  (((2, 1), .aload_n 0, 0, 0, 0) : iv_I),
  (((3, 3), .getfield 160, 1, 41, 640) : iv_I),
  (((6, 1), .iconst 1, 0, 0, 0) : iv_I),
  (((7, 1), .isub, 0, 0, 0) : iv_I),
  (((8, 3), .invokestatic 135, 25, 3, 748) : iv_I),
  (((11, 3), .ifCond .eq 26, 22, 0, 0) : iv_I),
  (((14, 1), .iload_n 2, 0, 0, 0) : iv_I),
  (((15, 1), .iconst 0, 0, 0, 0) : iv_I),
  (((16, 1), .iconst 5, 0, 0, 0) : iv_I),
  (((17, 3), .invokestatic 135, 25, 3, 748) : iv_I),
  (((20, 3), .ifCond .eq 17, 22, 0, 0) : iv_I),
  (((23, 1), .aload_n 0, 0, 0, 0) : iv_I),
  (((24, 3), .getfield 116, 1, 42, 641) : iv_I),
  (((27, 2), .bipush 6, 0, 0, 0) : iv_I),
  (((29, 1), .iload_n 1, 0, 0, 0) : iv_I),
  (((30, 1), .imul, 0, 0, 0) : iv_I),
  (((31, 1), .iload_n 2, 0, 0, 0) : iv_I),
  (((32, 1), .iadd, 0, 0, 0) : iv_I),
  (((33, 1), .iaload, 0, 0, 0) : iv_I),
  (((34, 3), .goto 4, 23, 0, 0) : iv_I),
  (((37, 1), .iconst (-1), 0, 0, 0) : iv_I),
  (((38, 1), .ireturn, 0, 0, 0) : iv_I)]
/-- 61: RuleGraphModel.say(I)V -/
def mc_61 : List iv_I := [
  (((0, 1), .aload_n 0, 0, 0, 0) : iv_I),
  (((1, 3), .getfield 128, 1, 46, 645) : iv_I),
  (((4, 1), .aload_n 0, 0, 0, 0) : iv_I),
  (((5, 3), .getfield 214, 1, 47, 646) : iv_I),
  (((8, 1), .iload_n 1, 0, 0, 0) : iv_I),
  (((9, 1), .iastore, 0, 0, 0) : iv_I),
  (((10, 1), .aload_n 0, 0, 0, 0) : iv_I),
  (((11, 1), .dup, 0, 0, 0) : iv_I),
  (((12, 3), .getfield 214, 1, 47, 646) : iv_I),
  (((15, 1), .iconst 1, 0, 0, 0) : iv_I),
  (((16, 1), .iadd, 0, 0, 0) : iv_I),
  (((17, 3), .putfield 214, 1, 47, 646) : iv_I),
  (((20, 1), .return_, 0, 0, 0) : iv_I)]
/-- 62: RuleGraphModel.sayStep(II)V -/
def mc_62 : List iv_I := [
  (((0, 1), .aload_n 0, 0, 0, 0) : iv_I),
  (((1, 2), .bipush 102, 0, 0, 0) : iv_I),
  (((3, 3), .invokevirtual 217, 61, 2, 894) : iv_I),
  (((6, 1), .iload_n 1, 0, 0, 0) : iv_I),
  (((7, 2), .bipush 9, 0, 0, 0) : iv_I),
  (((9, 3), .if_icmp .le 14, 13, 0, 0) : iv_I),
  (((12, 1), .aload_n 0, 0, 0, 0) : iv_I),
  (((13, 2), .bipush 48, 0, 0, 0) : iv_I),
  (((15, 1), .iload_n 1, 0, 0, 0) : iv_I),
  (((16, 2), .bipush 10, 0, 0, 0) : iv_I),
  (((18, 1), .idiv, 0, 0, 0) : iv_I),
  (((19, 1), .iadd, 0, 0, 0) : iv_I),
  (((20, 3), .invokevirtual 217, 61, 2, 894) : iv_I),
  (((23, 1), .aload_n 0, 0, 0, 0) : iv_I),
  (((24, 2), .bipush 48, 0, 0, 0) : iv_I),
  (((26, 1), .iload_n 1, 0, 0, 0) : iv_I),
  (((27, 2), .bipush 10, 0, 0, 0) : iv_I),
  (((29, 1), .irem, 0, 0, 0) : iv_I),
  (((30, 1), .iadd, 0, 0, 0) : iv_I),
  (((31, 3), .invokevirtual 217, 61, 2, 894) : iv_I),
  (((34, 1), .iload_n 2, 0, 0, 0) : iv_I),
  (((35, 3), .ifCond .lt 23, 33, 0, 0) : iv_I),
  (((38, 1), .aload_n 0, 0, 0, 0) : iv_I),
  (((39, 2), .bipush 91, 0, 0, 0) : iv_I),
  (((41, 3), .invokevirtual 217, 61, 2, 894) : iv_I),
  (((44, 1), .aload_n 0, 0, 0, 0) : iv_I),
  (((45, 2), .bipush 48, 0, 0, 0) : iv_I),
  (((47, 1), .iload_n 2, 0, 0, 0) : iv_I),
  (((48, 1), .iadd, 0, 0, 0) : iv_I),
  (((49, 3), .invokevirtual 217, 61, 2, 894) : iv_I),
  (((52, 1), .aload_n 0, 0, 0, 0) : iv_I),
  (((53, 2), .bipush 93, 0, 0, 0) : iv_I),
  (((55, 3), .invokevirtual 217, 61, 2, 894) : iv_I),
  (((58, 1), .return_, 0, 0, 0) : iv_I)]
/-- 63: RuleGraphModel.way(II)I -/
def mc_63 : List iv_I := [
  (((0, 1), .iload_n 1, 0, 0, 0) : iv_I),
  (((1, 1), .iconst 0, 0, 0, 0) : iv_I),
  (((2, 1), .aload_n 0, 0, 0, 0) : iv_I),
  (((3, 3), .getfield 160, 1, 41, 640) : iv_I),
  (((6, 1), .iconst 1, 0, 0, 0) : iv_I),
  (((7, 1), .isub, 0, 0, 0) : iv_I),
  (((8, 3), .invokestatic 135, 25, 3, 748) : iv_I),
  (((11, 3), .ifCond .eq 8, 11, 0, 0) : iv_I),
  (((14, 1), .iload_n 2, 0, 0, 0) : iv_I),
  (((15, 1), .iconst (-1), 0, 0, 0) : iv_I),
  (((16, 3), .if_icmp .ge 5, 13, 0, 0) : iv_I),
  (((19, 1), .iconst (-1), 0, 0, 0) : iv_I),
  (((20, 1), .ireturn, 0, 0, 0) : iv_I),
  (((21, 1), .aload_n 0, 0, 0, 0) : iv_I),
  (((22, 1), .iconst 0, 0, 0, 0) : iv_I),
  (((23, 3), .putfield 214, 1, 47, 646) : iv_I),
  (((26, 1), .iconst 0, 0, 0, 0) : iv_I),
  (((27, 1), .istore_n 3, 0, 0, 0) : iv_I),
  (((28, 1), .iload_n 3, 0, 0, 0) : iv_I),
  (((29, 1), .aload_n 0, 0, 0, 0) : iv_I),
  (((30, 3), .getfield 119, 1, 43, 642) : iv_I),
  (((33, 1), .iload_n 1, 0, 0, 0) : iv_I),
  (((34, 1), .iaload, 0, 0, 0) : iv_I),
  (((35, 3), .if_icmp .ge 41, 47, 0, 0) : iv_I),
  (((38, 1), .aload_n 0, 0, 0, 0) : iv_I),
  (((39, 1), .aload_n 0, 0, 0, 0) : iv_I),
  (((40, 3), .getfield 122, 1, 44, 643) : iv_I),
  (((43, 2), .bipush 16, 0, 0, 0) : iv_I),
  (((45, 1), .iload_n 1, 0, 0, 0) : iv_I),
  (((46, 1), .imul, 0, 0, 0) : iv_I),
  (((47, 1), .iload_n 3, 0, 0, 0) : iv_I),
  (((48, 1), .iadd, 0, 0, 0) : iv_I),
  (((49, 1), .iaload, 0, 0, 0) : iv_I),
  (((50, 1), .aload_n 0, 0, 0, 0) : iv_I),
  (((51, 3), .getfield 125, 1, 45, 644) : iv_I),
  (((54, 2), .bipush 16, 0, 0, 0) : iv_I),
  (((56, 1), .iload_n 1, 0, 0, 0) : iv_I),
  (((57, 1), .imul, 0, 0, 0) : iv_I),
  (((58, 1), .iload_n 3, 0, 0, 0) : iv_I),
  (((59, 1), .iadd, 0, 0, 0) : iv_I),
  (((60, 1), .iaload, 0, 0, 0) : iv_I),
  (((61, 3), .invokevirtual 221, 62, 3, 890) : iv_I),
  (((64, 1), .aload_n 0, 0, 0, 0) : iv_I),
  (((65, 2), .bipush 46, 0, 0, 0) : iv_I),
  (((67, 3), .invokevirtual 217, 61, 2, 894) : iv_I),
  (((70, 3), .iinc 3 1, 0, 0, 0) : iv_I),
  (((73, 3), .goto (-45), 18, 0, 0) : iv_I),
  (((76, 1), .aload_n 0, 0, 0, 0) : iv_I),
  (((77, 1), .aload_n 0, 0, 0, 0) : iv_I),
  (((78, 3), .getfield 116, 1, 42, 641) : iv_I),
  (((81, 2), .bipush 6, 0, 0, 0) : iv_I),
  (((83, 1), .iload_n 1, 0, 0, 0) : iv_I),
  (((84, 1), .imul, 0, 0, 0) : iv_I),
  (((85, 1), .iconst 1, 0, 0, 0) : iv_I),
  (((86, 1), .iadd, 0, 0, 0) : iv_I),
  (((87, 1), .iaload, 0, 0, 0) : iv_I),
  (((88, 1), .aload_n 0, 0, 0, 0) : iv_I),
  (((89, 3), .getfield 116, 1, 42, 641) : iv_I),
  (((92, 2), .bipush 6, 0, 0, 0) : iv_I),
  (((94, 1), .iload_n 1, 0, 0, 0) : iv_I),
  (((95, 1), .imul, 0, 0, 0) : iv_I),
  (((96, 1), .iconst 2, 0, 0, 0) : iv_I),
  (((97, 1), .iadd, 0, 0, 0) : iv_I),
  (((98, 1), .iaload, 0, 0, 0) : iv_I),
  (((99, 3), .invokevirtual 221, 62, 3, 890) : iv_I),
  (((102, 1), .iload_n 2, 0, 0, 0) : iv_I),
  (((103, 1), .iconst (-1), 0, 0, 0) : iv_I),
  (((104, 3), .if_icmp .ne 10, 71, 0, 0) : iv_I),
  (((107, 1), .aload_n 0, 0, 0, 0) : iv_I),
  (((108, 3), .getfield 214, 1, 47, 646) : iv_I),
  (((111, 3), .goto 21, 81, 0, 0) : iv_I),
  (((114, 1), .iload_n 2, 0, 0, 0) : iv_I),
  (((115, 1), .aload_n 0, 0, 0, 0) : iv_I),
  (((116, 3), .getfield 214, 1, 47, 646) : iv_I),
  (((119, 3), .if_icmp .ge 12, 80, 0, 0) : iv_I),
  (((122, 1), .aload_n 0, 0, 0, 0) : iv_I),
  (((123, 3), .getfield 128, 1, 46, 645) : iv_I),
  (((126, 1), .iload_n 2, 0, 0, 0) : iv_I),
  (((127, 1), .iaload, 0, 0, 0) : iv_I),
  (((128, 3), .goto 4, 81, 0, 0) : iv_I),
  (((131, 1), .iconst (-1), 0, 0, 0) : iv_I),
  (((132, 1), .ireturn, 0, 0, 0) : iv_I)]
/-- 64: RuleGraph$Checker.<init>(LRuleGraph$Shape;LRuleGraph$Rulebook;LRuleGraph$Groups;LRuleGraph$Store;LRuleGraph$Report;)V -/
def mc_64 : List iv_I := [
  (((0, 1), .aload_n 0, 0, 0, 0) : iv_I),
  (((1, 3), .invokespecial 3, 0, 1, 246) : iv_I),
  (((4, 1), .aload_n 0, 0, 0, 0) : iv_I),
  (((5, 1), .aload_n 1, 0, 0, 0) : iv_I),
  (((6, 3), .putfield 9, 2, 0, 247) : iv_I),
  (((9, 1), .aload_n 0, 0, 0, 0) : iv_I),
  (((10, 1), .aload_n 2, 0, 0, 0) : iv_I),
  (((11, 3), .putfield 15, 2, 1, 248) : iv_I),
  (((14, 1), .aload_n 0, 0, 0, 0) : iv_I),
  (((15, 1), .aload_n 3, 0, 0, 0) : iv_I),
  (((16, 3), .putfield 19, 2, 2, 249) : iv_I),
  (((19, 1), .aload_n 0, 0, 0, 0) : iv_I),
  (((20, 2), .aload 4, 0, 0, 0) : iv_I),
  (((22, 3), .putfield 23, 2, 3, 250) : iv_I),
  (((25, 1), .aload_n 0, 0, 0, 0) : iv_I),
  (((26, 2), .aload 5, 0, 0, 0) : iv_I),
  (((28, 3), .putfield 27, 2, 4, 251) : iv_I),
  (((31, 1), .aload_n 0, 0, 0, 0) : iv_I),
  (((32, 2), .bipush 16, 0, 0, 0) : iv_I),
  (((34, 2), .newarray .int, 100, 0, 78) : iv_I),
  (((36, 3), .putfield 31, 2, 5, 252) : iv_I),
  (((39, 1), .aload_n 0, 0, 0, 0) : iv_I),
  (((40, 2), .bipush 16, 0, 0, 0) : iv_I),
  (((42, 2), .newarray .int, 100, 0, 78) : iv_I),
  (((44, 3), .putfield 35, 2, 6, 253) : iv_I),
  (((47, 1), .aload_n 0, 0, 0, 0) : iv_I),
  (((48, 1), .iconst 0, 0, 0, 0) : iv_I),
  (((49, 3), .putfield 38, 2, 7, 254) : iv_I),
  (((52, 1), .aload_n 0, 0, 0, 0) : iv_I),
  (((53, 1), .iconst 0, 0, 0, 0) : iv_I),
  (((54, 3), .putfield 42, 2, 8, 255) : iv_I),
  (((57, 1), .return_, 0, 0, 0) : iv_I)]
/-- 65: RuleGraph$Checker.check(II)I -/
def mc_65 : List iv_I := [
  (((0, 1), .aload_n 0, 0, 0, 0) : iv_I),
  (((1, 1), .iload_n 1, 0, 0, 0) : iv_I),
  (((2, 1), .iload_n 2, 0, 0, 0) : iv_I),
  (((3, 3), .invokevirtual 45, 66, 3, 488) : iv_I),
  (((6, 3), .ifCond .eq 5, 7, 0, 0) : iv_I),
  (((9, 1), .iconst 0, 0, 0, 0) : iv_I),
  (((10, 1), .ireturn, 0, 0, 0) : iv_I),
  (((11, 1), .aload_n 0, 0, 0, 0) : iv_I),
  (((12, 3), .getfield 42, 2, 8, 255) : iv_I),
  (((15, 2), .bipush 60, 0, 0, 0) : iv_I),
  (((17, 3), .if_icmp .ge 12, 15, 0, 0) : iv_I),
  (((20, 1), .aload_n 0, 0, 0, 0) : iv_I),
  (((21, 3), .getfield 38, 2, 7, 254) : iv_I),
  (((24, 2), .bipush 16, 0, 0, 0) : iv_I),
  (((26, 3), .if_icmp .lt 6, 17, 0, 0) : iv_I),
  (((29, 2), .bipush (-5), 0, 0, 0) : iv_I),
  (((31, 1), .ireturn, 0, 0, 0) : iv_I),
  (((32, 1), .aload_n 0, 0, 0, 0) : iv_I),
  (((33, 1), .dup, 0, 0, 0) : iv_I),
  (((34, 3), .getfield 42, 2, 8, 255) : iv_I),
  (((37, 1), .iconst 1, 0, 0, 0) : iv_I),
  (((38, 1), .iadd, 0, 0, 0) : iv_I),
  (((39, 3), .putfield 42, 2, 8, 255) : iv_I),
  (((42, 1), .aload_n 0, 0, 0, 0) : iv_I),
  (((43, 3), .getfield 31, 2, 5, 252) : iv_I),
  (((46, 1), .aload_n 0, 0, 0, 0) : iv_I),
  (((47, 3), .getfield 38, 2, 7, 254) : iv_I),
  (((50, 1), .iload_n 1, 0, 0, 0) : iv_I),
  (((51, 1), .iastore, 0, 0, 0) : iv_I),
  (((52, 1), .aload_n 0, 0, 0, 0) : iv_I),
  (((53, 3), .getfield 35, 2, 6, 253) : iv_I),
  (((56, 1), .aload_n 0, 0, 0, 0) : iv_I),
  (((57, 3), .getfield 38, 2, 7, 254) : iv_I),
  (((60, 1), .iload_n 2, 0, 0, 0) : iv_I),
  (((61, 1), .iastore, 0, 0, 0) : iv_I),
  (((62, 1), .aload_n 0, 0, 0, 0) : iv_I),
  (((63, 1), .dup, 0, 0, 0) : iv_I),
  (((64, 3), .getfield 38, 2, 7, 254) : iv_I),
  (((67, 1), .iconst 1, 0, 0, 0) : iv_I),
  (((68, 1), .iadd, 0, 0, 0) : iv_I),
  (((69, 3), .putfield 38, 2, 7, 254) : iv_I),
  (((72, 1), .aload_n 0, 0, 0, 0) : iv_I),
  (((73, 1), .iload_n 1, 0, 0, 0) : iv_I),
  (((74, 1), .iload_n 2, 0, 0, 0) : iv_I),
  (((75, 3), .invokevirtual 49, 67, 3, 492) : iv_I),
  (((78, 1), .istore_n 3, 0, 0, 0) : iv_I),
  (((79, 1), .aload_n 0, 0, 0, 0) : iv_I),
  (((80, 1), .dup, 0, 0, 0) : iv_I),
  (((81, 3), .getfield 38, 2, 7, 254) : iv_I),
  (((84, 1), .iconst 1, 0, 0, 0) : iv_I),
  (((85, 1), .isub, 0, 0, 0) : iv_I),
  (((86, 3), .putfield 38, 2, 7, 254) : iv_I),
  (((89, 1), .iload_n 3, 0, 0, 0) : iv_I),
  (((90, 1), .ireturn, 0, 0, 0) : iv_I)]
/-- 66: RuleGraph$Checker.isOpen(II)Z -/
def mc_66 : List iv_I := [
  (((0, 1), .iconst 0, 0, 0, 0) : iv_I),
  (((1, 1), .istore_n 3, 0, 0, 0) : iv_I),
  (((2, 1), .iload_n 3, 0, 0, 0) : iv_I),
  (((3, 1), .aload_n 0, 0, 0, 0) : iv_I),
  (((4, 3), .getfield 38, 2, 7, 254) : iv_I),
  (((7, 3), .if_icmp .ge 31, 22, 0, 0) : iv_I),
  (((10, 1), .aload_n 0, 0, 0, 0) : iv_I),
  (((11, 3), .getfield 31, 2, 5, 252) : iv_I),
  (((14, 1), .iload_n 3, 0, 0, 0) : iv_I),
  (((15, 1), .iaload, 0, 0, 0) : iv_I),
  (((16, 1), .iload_n 1, 0, 0, 0) : iv_I),
  (((17, 3), .if_icmp .ne 15, 20, 0, 0) : iv_I),
  (((20, 1), .aload_n 0, 0, 0, 0) : iv_I),
  (((21, 3), .getfield 35, 2, 6, 253) : iv_I),
  (((24, 1), .iload_n 3, 0, 0, 0) : iv_I),
  (((25, 1), .iaload, 0, 0, 0) : iv_I),
  (((26, 1), .iload_n 2, 0, 0, 0) : iv_I),
  (((27, 3), .if_icmp .ne 5, 20, 0, 0) : iv_I),
  (((30, 1), .iconst 1, 0, 0, 0) : iv_I),
  (((31, 1), .ireturn, 0, 0, 0) : iv_I),
  (((32, 3), .iinc 3 1, 0, 0, 0) : iv_I),
  (((35, 3), .goto (-33), 2, 0, 0) : iv_I),
  (((38, 1), .iconst 0, 0, 0, 0) : iv_I),
  (((39, 1), .ireturn, 0, 0, 0) : iv_I)]
/-- 67: RuleGraph$Checker.goThroughStages(II)I -/
def mc_67 : List iv_I := [
  (((0, 1), .aload_n 0, 0, 0, 0) : iv_I),
  (((1, 3), .getfield 9, 2, 0, 247) : iv_I),
  (((4, 3), .getfield 53, 10, 2, 84) : iv_I),
  (((7, 1), .aload_n 0, 0, 0, 0) : iv_I),
  (((8, 3), .getfield 23, 2, 3, 250) : iv_I),
  (((11, 3), .getfield 59, 11, 1, 191) : iv_I),
  (((14, 1), .iload_n 1, 0, 0, 0) : iv_I),
  (((15, 1), .iaload, 0, 0, 0) : iv_I),
  (((16, 1), .aaload, 0, 0, 0) : iv_I),
  (((17, 1), .astore_n 3, 0, 0, 0) : iv_I),
  (((18, 1), .iload_n 2, 0, 0, 0) : iv_I),
  (((19, 3), .ifCond .ne 10, 15, 0, 0) : iv_I),
  (((22, 1), .aload_n 3, 0, 0, 0) : iv_I),
  (((23, 3), .getfield 64, 7, 1, 70) : iv_I),
  (((26, 3), .ifCond .ne 10, 20, 0, 0) : iv_I),
  (((29, 1), .aload_n 0, 0, 0, 0) : iv_I),
  (((30, 1), .iload_n 1, 0, 0, 0) : iv_I),
  (((31, 1), .iload_n 2, 0, 0, 0) : iv_I),
  (((32, 3), .invokevirtual 69, 69, 3, 496) : iv_I),
  (((35, 1), .ireturn, 0, 0, 0) : iv_I),
  (((36, 1), .aload_n 0, 0, 0, 0) : iv_I),
  (((37, 1), .aload_n 3, 0, 0, 0) : iv_I),
  (((38, 3), .invokevirtual 72, 68, 2, 548) : iv_I),
  (((41, 3), .ifCond .ne 6, 26, 0, 0) : iv_I),
  (((44, 2), .bipush (-3), 0, 0, 0) : iv_I),
  (((46, 1), .ireturn, 0, 0, 0) : iv_I),
  (((47, 1), .aload_n 0, 0, 0, 0) : iv_I),
  (((48, 3), .getfield 27, 2, 4, 251) : iv_I),
  (((51, 3), .getfield 76, 6, 0, 216) : iv_I),
  (((54, 2), .istore 4, 0, 0, 0) : iv_I),
  (((56, 1), .iconst 0, 0, 0, 0) : iv_I),
  (((57, 2), .istore 5, 0, 0, 0) : iv_I),
  (((59, 1), .iconst 0, 0, 0, 0) : iv_I),
  (((60, 2), .istore 6, 0, 0, 0) : iv_I),
  (((62, 2), .iload 6, 0, 0, 0) : iv_I),
  (((64, 1), .aload_n 3, 0, 0, 0) : iv_I),
  (((65, 3), .getfield 64, 7, 1, 70) : iv_I),
  (((68, 3), .if_icmp .ge 54, 62, 0, 0) : iv_I),
  (((71, 2), .iload 5, 0, 0, 0) : iv_I),
  (((73, 3), .ifCond .ne 49, 62, 0, 0) : iv_I),
  (((76, 1), .aload_n 0, 0, 0, 0) : iv_I),
  (((77, 3), .getfield 27, 2, 4, 251) : iv_I),
  (((80, 3), .getfield 76, 6, 0, 216) : iv_I),
  (((83, 2), .iload 4, 0, 0, 0) : iv_I),
  (((85, 3), .if_icmp .ne 37, 62, 0, 0) : iv_I),
  (((88, 1), .aload_n 3, 0, 0, 0) : iv_I),
  (((89, 3), .getfield 81, 7, 0, 65) : iv_I),
  (((92, 2), .iload 6, 0, 0, 0) : iv_I),
  (((94, 1), .iaload, 0, 0, 0) : iv_I),
  (((95, 2), .istore 7, 0, 0, 0) : iv_I),
  (((97, 1), .aload_n 0, 0, 0, 0) : iv_I),
  (((98, 1), .iload_n 1, 0, 0, 0) : iv_I),
  (((99, 2), .iload 7, 0, 0, 0) : iv_I),
  (((101, 1), .iconst (-1), 0, 0, 0) : iv_I),
  (((102, 3), .if_icmp .ne 7, 57, 0, 0) : iv_I),
  (((105, 1), .iconst 0, 0, 0, 0) : iv_I),
  (((106, 3), .goto 5, 58, 0, 0) : iv_I),
  (((109, 2), .iload 7, 0, 0, 0) : iv_I),
  (((111, 3), .invokevirtual 69, 69, 3, 496) : iv_I),
  (((114, 2), .istore 5, 0, 0, 0) : iv_I),
  (((116, 3), .iinc 6 1, 0, 0, 0) : iv_I),
  (((119, 3), .goto (-57), 34, 0, 0) : iv_I),
  (((122, 2), .iload 5, 0, 0, 0) : iv_I),
  (((124, 1), .ireturn, 0, 0, 0) : iv_I)]
/-- 68: RuleGraph$Checker.isGood(LRuleGraph$Row;)Z -/
def mc_68 : List iv_I := [
  (((0, 1), .iconst 0, 0, 0, 0) : iv_I),
  (((1, 1), .istore_n 2, 0, 0, 0) : iv_I),
  (((2, 1), .iconst 0, 0, 0, 0) : iv_I),
  (((3, 1), .istore_n 3, 0, 0, 0) : iv_I),
  (((4, 1), .iload_n 3, 0, 0, 0) : iv_I),
  (((5, 1), .aload_n 1, 0, 0, 0) : iv_I),
  (((6, 3), .getfield 64, 7, 1, 70) : iv_I),
  (((9, 3), .if_icmp .ge 33, 24, 0, 0) : iv_I),
  (((12, 1), .aload_n 1, 0, 0, 0) : iv_I),
  (((13, 3), .getfield 81, 7, 0, 65) : iv_I),
  (((16, 1), .iload_n 3, 0, 0, 0) : iv_I),
  (((17, 1), .iaload, 0, 0, 0) : iv_I),
  (((18, 3), .ifCond .ne 5, 15, 0, 0) : iv_I),
  (((21, 1), .iconst 0, 0, 0, 0) : iv_I),
  (((22, 1), .ireturn, 0, 0, 0) : iv_I),
  (((23, 1), .aload_n 1, 0, 0, 0) : iv_I),
  (((24, 3), .getfield 81, 7, 0, 65) : iv_I),
  (((27, 1), .iload_n 3, 0, 0, 0) : iv_I),
  (((28, 1), .iaload, 0, 0, 0) : iv_I),
  (((29, 1), .iconst (-1), 0, 0, 0) : iv_I),
  (((30, 3), .if_icmp .ne 6, 22, 0, 0) : iv_I),
  (((33, 3), .iinc 2 1, 0, 0, 0) : iv_I),
  (((36, 3), .iinc 3 1, 0, 0, 0) : iv_I),
  (((39, 3), .goto (-35), 4, 0, 0) : iv_I),
  (((42, 1), .iload_n 2, 0, 0, 0) : iv_I),
  (((43, 1), .iconst 1, 0, 0, 0) : iv_I),
  (((44, 3), .if_icmp .ne 7, 29, 0, 0) : iv_I),
  (((47, 1), .iconst 1, 0, 0, 0) : iv_I),
  (((48, 3), .goto 4, 30, 0, 0) : iv_I),
  (((51, 1), .iconst 0, 0, 0, 0) : iv_I),
  (((52, 1), .ireturn, 0, 0, 0) : iv_I)]
/-- 69: RuleGraph$Checker.goThroughStage(II)I -/
def mc_69 : List iv_I := [
  (((0, 1), .aload_n 0, 0, 0, 0) : iv_I),
  (((1, 3), .getfield 9, 2, 0, 247) : iv_I),
  (((4, 1), .aload_n 0, 0, 0, 0) : iv_I),
  (((5, 3), .getfield 23, 2, 3, 250) : iv_I),
  (((8, 3), .getfield 59, 11, 1, 191) : iv_I),
  (((11, 1), .iload_n 1, 0, 0, 0) : iv_I),
  (((12, 1), .iaload, 0, 0, 0) : iv_I),
  (((13, 3), .invokevirtual 84, 107, 2, 500) : iv_I),
  (((16, 1), .istore_n 3, 0, 0, 0) : iv_I),
  (((17, 1), .aload_n 0, 0, 0, 0) : iv_I),
  (((18, 1), .iload_n 1, 0, 0, 0) : iv_I),
  (((19, 1), .iload_n 3, 0, 0, 0) : iv_I),
  (((20, 1), .iload_n 2, 0, 0, 0) : iv_I),
  (((21, 3), .invokevirtual 88, 72, 4, 505) : iv_I),
  (((24, 2), .istore 4, 0, 0, 0) : iv_I),
  (((26, 1), .iconst 0, 0, 0, 0) : iv_I),
  (((27, 2), .istore 5, 0, 0, 0) : iv_I),
  (((29, 2), .iload 5, 0, 0, 0) : iv_I),
  (((31, 1), .aload_n 0, 0, 0, 0) : iv_I),
  (((32, 3), .getfield 9, 2, 0, 247) : iv_I),
  (((35, 3), .getfield 92, 10, 3, 87) : iv_I),
  (((38, 3), .if_icmp .ge 57, 50, 0, 0) : iv_I),
  (((41, 2), .iload 4, 0, 0, 0) : iv_I),
  (((43, 3), .ifCond .ne 52, 50, 0, 0) : iv_I),
  (((46, 1), .aload_n 0, 0, 0, 0) : iv_I),
  (((47, 3), .getfield 9, 2, 0, 247) : iv_I),
  (((50, 3), .getfield 95, 10, 6, 93) : iv_I),
  (((53, 2), .iload 5, 0, 0, 0) : iv_I),
  (((55, 1), .baload, 0, 0, 0) : iv_I),
  (((56, 3), .ifCond .eq 33, 48, 0, 0) : iv_I),
  (((59, 1), .iload_n 3, 0, 0, 0) : iv_I),
  (((60, 2), .iload 5, 0, 0, 0) : iv_I),
  (((62, 1), .ishr, 0, 0, 0) : iv_I),
  (((63, 1), .iconst 1, 0, 0, 0) : iv_I),
  (((64, 1), .iand, 0, 0, 0) : iv_I),
  (((65, 3), .ifCond .eq 24, 48, 0, 0) : iv_I),
  (((68, 1), .aload_n 0, 0, 0, 0) : iv_I),
  (((69, 1), .iload_n 1, 0, 0, 0) : iv_I),
  (((70, 2), .iload 5, 0, 0, 0) : iv_I),
  (((72, 1), .aload_n 0, 0, 0, 0) : iv_I),
  (((73, 3), .getfield 9, 2, 0, 247) : iv_I),
  (((76, 3), .getfield 99, 10, 7, 96) : iv_I),
  (((79, 2), .iload 5, 0, 0, 0) : iv_I),
  (((81, 1), .aaload, 0, 0, 0) : iv_I),
  (((82, 1), .iload_n 2, 0, 0, 0) : iv_I),
  (((83, 1), .iaload, 0, 0, 0) : iv_I),
  (((84, 3), .invokevirtual 103, 70, 4, 538) : iv_I),
  (((87, 2), .istore 4, 0, 0, 0) : iv_I),
  (((89, 3), .iinc 5 1, 0, 0, 0) : iv_I),
  (((92, 3), .goto (-63), 17, 0, 0) : iv_I),
  (((95, 2), .iload 4, 0, 0, 0) : iv_I),
  (((97, 1), .ireturn, 0, 0, 0) : iv_I)]
/-- 70: RuleGraph$Checker.follow(III)I -/
def mc_70 : List iv_I := [
  (((0, 1), .aload_n 0, 0, 0, 0) : iv_I),
  (((1, 3), .getfield 23, 2, 3, 250) : iv_I),
  (((4, 3), .getfield 106, 11, 2, 194) : iv_I),
  (((7, 1), .iload_n 1, 0, 0, 0) : iv_I),
  (((8, 1), .aaload, 0, 0, 0) : iv_I),
  (((9, 1), .iload_n 2, 0, 0, 0) : iv_I),
  (((10, 1), .iaload, 0, 0, 0) : iv_I),
  (((11, 2), .istore 4, 0, 0, 0) : iv_I),
  (((13, 1), .aload_n 0, 0, 0, 0) : iv_I),
  (((14, 3), .getfield 9, 2, 0, 247) : iv_I),
  (((17, 1), .iload_n 2, 0, 0, 0) : iv_I),
  (((18, 3), .invokevirtual 109, 104, 2, 533) : iv_I),
  (((21, 3), .ifCond .ne 23, 25, 0, 0) : iv_I),
  (((24, 2), .iload 4, 0, 0, 0) : iv_I),
  (((26, 1), .iconst (-1), 0, 0, 0) : iv_I),
  (((27, 3), .if_icmp .ne 7, 18, 0, 0) : iv_I),
  (((30, 1), .iconst 0, 0, 0, 0) : iv_I),
  (((31, 3), .goto 12, 24, 0, 0) : iv_I),
  (((34, 1), .aload_n 0, 0, 0, 0) : iv_I),
  (((35, 1), .iload_n 2, 0, 0, 0) : iv_I),
  (((36, 1), .iconst (-1), 0, 0, 0) : iv_I),
  (((37, 2), .iload 4, 0, 0, 0) : iv_I),
  (((39, 1), .iload_n 3, 0, 0, 0) : iv_I),
  (((40, 3), .invokevirtual 113, 71, 5, 542) : iv_I),
  (((43, 1), .ireturn, 0, 0, 0) : iv_I),
  (((44, 1), .iconst 0, 0, 0, 0) : iv_I),
  (((45, 2), .istore 5, 0, 0, 0) : iv_I),
  (((47, 1), .iconst 0, 0, 0, 0) : iv_I),
  (((48, 2), .istore 6, 0, 0, 0) : iv_I),
  (((50, 2), .iload 6, 0, 0, 0) : iv_I),
  (((52, 2), .iload 4, 0, 0, 0) : iv_I),
  (((54, 3), .if_icmp .ge 35, 48, 0, 0) : iv_I),
  (((57, 2), .iload 5, 0, 0, 0) : iv_I),
  (((59, 3), .ifCond .ne 30, 48, 0, 0) : iv_I),
  (((62, 1), .aload_n 0, 0, 0, 0) : iv_I),
  (((63, 1), .iload_n 2, 0, 0, 0) : iv_I),
  (((64, 2), .iload 6, 0, 0, 0) : iv_I),
  (((66, 1), .aload_n 0, 0, 0, 0) : iv_I),
  (((67, 3), .getfield 23, 2, 3, 250) : iv_I),
  (((70, 1), .iload_n 1, 0, 0, 0) : iv_I),
  (((71, 1), .iload_n 2, 0, 0, 0) : iv_I),
  (((72, 2), .iload 6, 0, 0, 0) : iv_I),
  (((74, 3), .invokevirtual 117, 115, 4, 534) : iv_I),
  (((77, 1), .iload_n 3, 0, 0, 0) : iv_I),
  (((78, 3), .invokevirtual 113, 71, 5, 542) : iv_I),
  (((81, 2), .istore 5, 0, 0, 0) : iv_I),
  (((83, 3), .iinc 6 1, 0, 0, 0) : iv_I),
  (((86, 3), .goto (-36), 29, 0, 0) : iv_I),
  (((89, 2), .iload 5, 0, 0, 0) : iv_I),
  (((91, 1), .ireturn, 0, 0, 0) : iv_I)]
/-- 71: RuleGraph$Checker.goOver(IIII)I -/
def mc_71 : List iv_I := [
  (((0, 1), .aload_n 0, 0, 0, 0) : iv_I),
  (((1, 3), .getfield 27, 2, 4, 251) : iv_I),
  (((4, 3), .getfield 120, 6, 3, 222) : iv_I),
  (((7, 2), .astore 5, 0, 0, 0) : iv_I),
  (((9, 2), .aload 5, 0, 0, 0) : iv_I),
  (((11, 1), .iload_n 1, 0, 0, 0) : iv_I),
  (((12, 1), .iconst 4, 0, 0, 0) : iv_I),
  (((13, 1), .imul, 0, 0, 0) : iv_I),
  (((14, 1), .iload_n 2, 0, 0, 0) : iv_I),
  (((15, 1), .iadd, 0, 0, 0) : iv_I),
  (((16, 1), .iconst 1, 0, 0, 0) : iv_I),
  (((17, 1), .iadd, 0, 0, 0) : iv_I),
  (((18, 3), .invokevirtual 124, 95, 2, 546) : iv_I),
  (((21, 3), .ifCond .ne 6, 16, 0, 0) : iv_I),
  (((24, 2), .bipush (-5), 0, 0, 0) : iv_I),
  (((26, 1), .ireturn, 0, 0, 0) : iv_I),
  (((27, 1), .aload_n 0, 0, 0, 0) : iv_I),
  (((28, 1), .iload_n 3, 0, 0, 0) : iv_I),
  (((29, 2), .iload 4, 0, 0, 0) : iv_I),
  (((31, 3), .invokevirtual 127, 65, 3, 547) : iv_I),
  (((34, 2), .istore 6, 0, 0, 0) : iv_I),
  (((36, 2), .aload 5, 0, 0, 0) : iv_I),
  (((38, 1), .dup, 0, 0, 0) : iv_I),
  (((39, 3), .getfield 64, 7, 1, 70) : iv_I),
  (((42, 1), .iconst 1, 0, 0, 0) : iv_I),
  (((43, 1), .isub, 0, 0, 0) : iv_I),
  (((44, 3), .putfield 64, 7, 1, 70) : iv_I),
  (((47, 2), .iload 6, 0, 0, 0) : iv_I),
  (((49, 1), .ireturn, 0, 0, 0) : iv_I)]
/-- 72: RuleGraph$Checker.tryRules(III)I -/
def mc_72 : List iv_I := [
  (((0, 1), .iconst 0, 0, 0, 0) : iv_I),
  (((1, 2), .istore 4, 0, 0, 0) : iv_I),
  (((3, 1), .iconst 0, 0, 0, 0) : iv_I),
  (((4, 2), .istore 5, 0, 0, 0) : iv_I),
  (((6, 2), .iload 5, 0, 0, 0) : iv_I),
  (((8, 1), .aload_n 0, 0, 0, 0) : iv_I),
  (((9, 3), .getfield 15, 2, 1, 248) : iv_I),
  (((12, 3), .getfield 130, 9, 1, 151) : iv_I),
  (((15, 3), .if_icmp .ge 67, 41, 0, 0) : iv_I),
  (((18, 2), .iload 4, 0, 0, 0) : iv_I),
  (((20, 3), .ifCond .ne 62, 41, 0, 0) : iv_I),
  (((23, 1), .aload_n 0, 0, 0, 0) : iv_I),
  (((24, 3), .getfield 15, 2, 1, 248) : iv_I),
  (((27, 3), .getfield 135, 9, 0, 149) : iv_I),
  (((30, 2), .iload 5, 0, 0, 0) : iv_I),
  (((32, 1), .aaload, 0, 0, 0) : iv_I),
  (((33, 2), .astore 6, 0, 0, 0) : iv_I),
  (((35, 1), .iload_n 2, 0, 0, 0) : iv_I),
  (((36, 2), .aload 6, 0, 0, 0) : iv_I),
  (((38, 3), .getfield 139, 8, 0, 364) : iv_I),
  (((41, 1), .ishr, 0, 0, 0) : iv_I),
  (((42, 1), .iconst 1, 0, 0, 0) : iv_I),
  (((43, 1), .iand, 0, 0, 0) : iv_I),
  (((44, 3), .ifCond .eq 32, 39, 0, 0) : iv_I),
  (((47, 2), .aload 6, 0, 0, 0) : iv_I),
  (((49, 3), .getfield 144, 8, 3, 370) : iv_I),
  (((52, 1), .aload_n 0, 0, 0, 0) : iv_I),
  (((53, 3), .getfield 19, 2, 2, 249) : iv_I),
  (((56, 3), .getfield 146, 5, 0, 170) : iv_I),
  (((59, 1), .iload_n 3, 0, 0, 0) : iv_I),
  (((60, 1), .iaload, 0, 0, 0) : iv_I),
  (((61, 1), .iand, 0, 0, 0) : iv_I),
  (((62, 3), .ifCond .eq 14, 39, 0, 0) : iv_I),
  (((65, 1), .aload_n 0, 0, 0, 0) : iv_I),
  (((66, 1), .iload_n 1, 0, 0, 0) : iv_I),
  (((67, 2), .aload 6, 0, 0, 0) : iv_I),
  (((69, 2), .iload 5, 0, 0, 0) : iv_I),
  (((71, 3), .invokevirtual 151, 73, 4, 509) : iv_I),
  (((74, 2), .istore 4, 0, 0, 0) : iv_I),
  (((76, 3), .iinc 5 1, 0, 0, 0) : iv_I),
  (((79, 3), .goto (-73), 4, 0, 0) : iv_I),
  (((82, 2), .iload 4, 0, 0, 0) : iv_I),
  (((84, 1), .ireturn, 0, 0, 0) : iv_I)]
/-- 73: RuleGraph$Checker.tryRule(ILRuleGraph$Rule;I)I -/
def mc_73 : List iv_I := [
  (((0, 1), .aload_n 2, 0, 0, 0) : iv_I),
  (((1, 3), .getfield 139, 8, 0, 364) : iv_I),
  (((4, 2), .istore 4, 0, 0, 0) : iv_I),
  (((6, 1), .aload_n 2, 0, 0, 0) : iv_I),
  (((7, 3), .getfield 155, 8, 2, 368) : iv_I),
  (((10, 1), .aload_n 0, 0, 0, 0) : iv_I),
  (((11, 3), .getfield 9, 2, 0, 247) : iv_I),
  (((14, 3), .getfield 159, 10, 5, 90) : iv_I),
  (((17, 2), .iload 4, 0, 0, 0) : iv_I),
  (((19, 1), .iaload, 0, 0, 0) : iv_I),
  (((20, 1), .aload_n 2, 0, 0, 0) : iv_I),
  (((21, 3), .getfield 162, 8, 1, 366) : iv_I),
  (((24, 3), .invokevirtual 166, 77, 3, 513) : iv_I),
  (((27, 3), .ifCond .ne 6, 16, 0, 0) : iv_I),
  (((30, 2), .bipush (-4), 0, 0, 0) : iv_I),
  (((32, 1), .ireturn, 0, 0, 0) : iv_I),
  (((33, 1), .aload_n 0, 0, 0, 0) : iv_I),
  (((34, 3), .getfield 23, 2, 3, 250) : iv_I),
  (((37, 3), .getfield 106, 11, 2, 194) : iv_I),
  (((40, 1), .iload_n 1, 0, 0, 0) : iv_I),
  (((41, 1), .aaload, 0, 0, 0) : iv_I),
  (((42, 2), .iload 4, 0, 0, 0) : iv_I),
  (((44, 1), .iaload, 0, 0, 0) : iv_I),
  (((45, 2), .istore 5, 0, 0, 0) : iv_I),
  (((47, 1), .aload_n 2, 0, 0, 0) : iv_I),
  (((48, 3), .getfield 162, 8, 1, 366) : iv_I),
  (((51, 3), .ifCond .ne 14, 35, 0, 0) : iv_I),
  (((54, 1), .aload_n 0, 0, 0, 0) : iv_I),
  (((55, 1), .iload_n 1, 0, 0, 0) : iv_I),
  (((56, 1), .aload_n 2, 0, 0, 0) : iv_I),
  (((57, 1), .iload_n 3, 0, 0, 0) : iv_I),
  (((58, 1), .iconst (-1), 0, 0, 0) : iv_I),
  (((59, 2), .iload 5, 0, 0, 0) : iv_I),
  (((61, 3), .invokevirtual 172, 74, 6, 521) : iv_I),
  (((64, 1), .ireturn, 0, 0, 0) : iv_I),
  (((65, 1), .aload_n 0, 0, 0, 0) : iv_I),
  (((66, 3), .getfield 9, 2, 0, 247) : iv_I),
  (((69, 2), .iload 4, 0, 0, 0) : iv_I),
  (((71, 3), .invokevirtual 109, 104, 2, 533) : iv_I),
  (((74, 3), .ifCond .eq 8, 42, 0, 0) : iv_I),
  (((77, 2), .iload 5, 0, 0, 0) : iv_I),
  (((79, 3), .goto 4, 43, 0, 0) : iv_I),
  (((82, 1), .iconst 0, 0, 0, 0) : iv_I),
  (((83, 2), .istore 6, 0, 0, 0) : iv_I),
  (((85, 1), .iconst 0, 0, 0, 0) : iv_I),
  (((86, 2), .istore 7, 0, 0, 0) : iv_I),
  (((88, 1), .iconst 0, 0, 0, 0) : iv_I),
  (((89, 2), .istore 8, 0, 0, 0) : iv_I),
  (((91, 2), .iload 8, 0, 0, 0) : iv_I),
  (((93, 2), .iload 6, 0, 0, 0) : iv_I),
  (((95, 3), .if_icmp .ge 37, 68, 0, 0) : iv_I),
  (((98, 2), .iload 7, 0, 0, 0) : iv_I),
  (((100, 3), .ifCond .ne 32, 68, 0, 0) : iv_I),
  (((103, 1), .aload_n 0, 0, 0, 0) : iv_I),
  (((104, 1), .iload_n 1, 0, 0, 0) : iv_I),
  (((105, 1), .aload_n 2, 0, 0, 0) : iv_I),
  (((106, 1), .iload_n 3, 0, 0, 0) : iv_I),
  (((107, 2), .iload 8, 0, 0, 0) : iv_I),
  (((109, 1), .aload_n 0, 0, 0, 0) : iv_I),
  (((110, 3), .getfield 23, 2, 3, 250) : iv_I),
  (((113, 1), .iload_n 1, 0, 0, 0) : iv_I),
  (((114, 2), .iload 4, 0, 0, 0) : iv_I),
  (((116, 2), .iload 8, 0, 0, 0) : iv_I),
  (((118, 3), .invokevirtual 117, 115, 4, 534) : iv_I),
  (((121, 3), .invokevirtual 172, 74, 6, 521) : iv_I),
  (((124, 2), .istore 7, 0, 0, 0) : iv_I),
  (((126, 3), .iinc 8 1, 0, 0, 0) : iv_I),
  (((129, 3), .goto (-38), 48, 0, 0) : iv_I),
  (((132, 2), .iload 7, 0, 0, 0) : iv_I),
  (((134, 1), .ireturn, 0, 0, 0) : iv_I)]
/-- 74: RuleGraph$Checker.judge(ILRuleGraph$Rule;III)I -/
def mc_74 : List iv_I := [
  (((0, 1), .aload_n 2, 0, 0, 0) : iv_I),
  (((1, 3), .getfield 155, 8, 2, 368) : iv_I),
  (((4, 2), .astore 6, 0, 0, 0) : iv_I),
  (((6, 1), .iconst 0, 0, 0, 0) : iv_I),
  (((7, 2), .istore 7, 0, 0, 0) : iv_I),
  (((9, 2), .iload 7, 0, 0, 0) : iv_I),
  (((11, 2), .aload 6, 0, 0, 0) : iv_I),
  (((13, 3), .getfield 176, 3, 1, 136) : iv_I),
  (((16, 3), .if_icmp .ge 76, 43, 0, 0) : iv_I),
  (((19, 2), .aload 6, 0, 0, 0) : iv_I),
  (((21, 3), .getfield 177, 3, 0, 134) : iv_I),
  (((24, 2), .iload 7, 0, 0, 0) : iv_I),
  (((26, 1), .aaload, 0, 0, 0) : iv_I),
  (((27, 2), .iload 5, 0, 0, 0) : iv_I),
  (((29, 3), .invokevirtual 181, 80, 2, 525) : iv_I),
  (((32, 3), .ifCond .eq 54, 41, 0, 0) : iv_I),
  (((35, 2), .aload 6, 0, 0, 0) : iv_I),
  (((37, 3), .getfield 186, 3, 2, 140) : iv_I),
  (((40, 3), .ifCond .eq 7, 21, 0, 0) : iv_I),
  (((43, 1), .iconst (-1), 0, 0, 0) : iv_I),
  (((44, 3), .goto 5, 22, 0, 0) : iv_I),
  (((47, 2), .iload 7, 0, 0, 0) : iv_I),
  (((49, 2), .istore 8, 0, 0, 0) : iv_I),
  (((51, 1), .aload_n 0, 0, 0, 0) : iv_I),
  (((52, 3), .getfield 27, 2, 4, 251) : iv_I),
  (((55, 1), .iload_n 1, 0, 0, 0) : iv_I),
  (((56, 1), .aload_n 2, 0, 0, 0) : iv_I),
  (((57, 3), .getfield 139, 8, 0, 364) : iv_I),
  (((60, 2), .iload 4, 0, 0, 0) : iv_I),
  (((62, 1), .iload_n 3, 0, 0, 0) : iv_I),
  (((63, 2), .iload 8, 0, 0, 0) : iv_I),
  (((65, 2), .iload 5, 0, 0, 0) : iv_I),
  (((67, 3), .invokevirtual 189, 89, 7, 529) : iv_I),
  (((70, 3), .ifCond .ne 6, 36, 0, 0) : iv_I),
  (((73, 2), .bipush (-5), 0, 0, 0) : iv_I),
  (((75, 1), .ireturn, 0, 0, 0) : iv_I),
  (((76, 2), .aload 6, 0, 0, 0) : iv_I),
  (((78, 3), .getfield 186, 3, 2, 140) : iv_I),
  (((81, 3), .ifCond .eq 5, 41, 0, 0) : iv_I),
  (((84, 1), .iconst 0, 0, 0, 0) : iv_I),
  (((85, 1), .ireturn, 0, 0, 0) : iv_I),
  (((86, 3), .iinc 7 1, 0, 0, 0) : iv_I),
  (((89, 3), .goto (-80), 5, 0, 0) : iv_I),
  (((92, 1), .iconst 0, 0, 0, 0) : iv_I),
  (((93, 1), .ireturn, 0, 0, 0) : iv_I)]
/-- 75: RuleGraph$Composition.<init>(I)V -/
def mc_75 : List iv_I := [
  (((0, 1), .aload_n 0, 0, 0, 0) : iv_I),
  (((1, 3), .invokespecial 1, 0, 1, 130) : iv_I),
  (((4, 1), .aload_n 0, 0, 0, 0) : iv_I),
  (((5, 1), .iload_n 1, 0, 0, 0) : iv_I),
  (((6, 3), .anewarray 7, 105, 0, 131) : iv_I),
  (((9, 3), .putfield 9, 3, 0, 133) : iv_I),
  (((12, 1), .aload_n 0, 0, 0, 0) : iv_I),
  (((13, 1), .iconst 0, 0, 0, 0) : iv_I),
  (((14, 3), .putfield 15, 3, 1, 135) : iv_I),
  (((17, 1), .aload_n 0, 0, 0, 0) : iv_I),
  (((18, 1), .iconst 0, 0, 0, 0) : iv_I),
  (((19, 3), .putfield 19, 3, 2, 137) : iv_I),
  (((22, 1), .return_, 0, 0, 0) : iv_I)]
/-- 76: RuleGraph$Composition.addPart(III)Z -/
def mc_76 : List iv_I := [
  (((0, 1), .aload_n 0, 0, 0, 0) : iv_I),
  (((1, 3), .getfield 15, 3, 1, 135) : iv_I),
  (((4, 1), .aload_n 0, 0, 0, 0) : iv_I),
  (((5, 3), .getfield 9, 3, 0, 133) : iv_I),
  (((8, 1), .arraylength, 0, 0, 0) : iv_I),
  (((9, 3), .if_icmp .lt 5, 8, 0, 0) : iv_I),
  (((12, 1), .iconst 0, 0, 0, 0) : iv_I),
  (((13, 1), .ireturn, 0, 0, 0) : iv_I),
  (((14, 1), .aload_n 0, 0, 0, 0) : iv_I),
  (((15, 3), .getfield 9, 3, 0, 133) : iv_I),
  (((18, 1), .aload_n 0, 0, 0, 0) : iv_I),
  (((19, 3), .getfield 15, 3, 1, 135) : iv_I),
  (((22, 3), .new 7, 4, 0, 131) : iv_I),
  (((25, 1), .dup, 0, 0, 0) : iv_I),
  (((26, 1), .iload_n 1, 0, 0, 0) : iv_I),
  (((27, 1), .iload_n 2, 0, 0, 0) : iv_I),
  (((28, 1), .iload_n 3, 0, 0, 0) : iv_I),
  (((29, 3), .invokespecial 23, 78, 4, 340) : iv_I),
  (((32, 1), .aastore, 0, 0, 0) : iv_I),
  (((33, 1), .aload_n 0, 0, 0, 0) : iv_I),
  (((34, 1), .dup, 0, 0, 0) : iv_I),
  (((35, 3), .getfield 15, 3, 1, 135) : iv_I),
  (((38, 1), .iconst 1, 0, 0, 0) : iv_I),
  (((39, 1), .iadd, 0, 0, 0) : iv_I),
  (((40, 3), .putfield 15, 3, 1, 135) : iv_I),
  (((43, 1), .iconst 1, 0, 0, 0) : iv_I),
  (((44, 1), .ireturn, 0, 0, 0) : iv_I)]
/-- 77: RuleGraph$Composition.fits(IZ)Z -/
def mc_77 : List iv_I := [
  (((0, 1), .iconst 0, 0, 0, 0) : iv_I),
  (((1, 1), .istore_n 3, 0, 0, 0) : iv_I),
  (((2, 1), .iload_n 3, 0, 0, 0) : iv_I),
  (((3, 1), .aload_n 0, 0, 0, 0) : iv_I),
  (((4, 3), .getfield 15, 3, 1, 135) : iv_I),
  (((7, 3), .if_icmp .ge 25, 18, 0, 0) : iv_I),
  (((10, 1), .aload_n 0, 0, 0, 0) : iv_I),
  (((11, 3), .getfield 9, 3, 0, 133) : iv_I),
  (((14, 1), .iload_n 3, 0, 0, 0) : iv_I),
  (((15, 1), .aaload, 0, 0, 0) : iv_I),
  (((16, 1), .iload_n 1, 0, 0, 0) : iv_I),
  (((17, 1), .iload_n 2, 0, 0, 0) : iv_I),
  (((18, 3), .invokevirtual 26, 79, 3, 517) : iv_I),
  (((21, 3), .ifCond .ne 5, 16, 0, 0) : iv_I),
  (((24, 1), .iconst 0, 0, 0, 0) : iv_I),
  (((25, 1), .ireturn, 0, 0, 0) : iv_I),
  (((26, 3), .iinc 3 1, 0, 0, 0) : iv_I),
  (((29, 3), .goto (-27), 2, 0, 0) : iv_I),
  (((32, 1), .iconst 1, 0, 0, 0) : iv_I),
  (((33, 1), .ireturn, 0, 0, 0) : iv_I)]
/-- 78: RuleGraph$Demand.<init>(III)V -/
def mc_78 : List iv_I := [
  (((0, 1), .aload_n 0, 0, 0, 0) : iv_I),
  (((1, 3), .invokespecial 3, 0, 1, 343) : iv_I),
  (((4, 1), .aload_n 0, 0, 0, 0) : iv_I),
  (((5, 1), .iload_n 1, 0, 0, 0) : iv_I),
  (((6, 3), .putfield 9, 4, 0, 344) : iv_I),
  (((9, 1), .aload_n 0, 0, 0, 0) : iv_I),
  (((10, 1), .iload_n 2, 0, 0, 0) : iv_I),
  (((11, 3), .putfield 15, 4, 1, 345) : iv_I),
  (((14, 1), .aload_n 0, 0, 0, 0) : iv_I),
  (((15, 1), .iload_n 3, 0, 0, 0) : iv_I),
  (((16, 3), .putfield 18, 4, 2, 346) : iv_I),
  (((19, 1), .return_, 0, 0, 0) : iv_I)]
/-- 79: RuleGraph$Demand.fits(IZ)Z -/
def mc_79 : List iv_I := [
  (((0, 1), .aload_n 0, 0, 0, 0) : iv_I),
  (((1, 3), .getfield 9, 4, 0, 344) : iv_I),
  (((4, 28), .tableswitch 74 0 2 #[28, 55, 55], 0, 0, 0) : iv_I),
  (((32, 1), .iload_n 2, 0, 0, 0) : iv_I),
  (((33, 3), .ifCond .eq 16, 12, 0, 0) : iv_I),
  (((36, 1), .iload_n 1, 0, 0, 0) : iv_I),
  (((37, 1), .iconst 3, 0, 0, 0) : iv_I),
  (((38, 3), .if_icmp .ne 7, 10, 0, 0) : iv_I),
  (((41, 1), .iconst 1, 0, 0, 0) : iv_I),
  (((42, 3), .goto 16, 17, 0, 0) : iv_I),
  (((45, 1), .iconst 0, 0, 0, 0) : iv_I),
  (((46, 3), .goto 12, 17, 0, 0) : iv_I),
  (((49, 1), .iload_n 1, 0, 0, 0) : iv_I),
  (((50, 3), .ifCond .eq 7, 16, 0, 0) : iv_I),
  (((53, 1), .iconst 1, 0, 0, 0) : iv_I),
  (((54, 3), .goto 4, 17, 0, 0) : iv_I),
  (((57, 1), .iconst 0, 0, 0, 0) : iv_I),
  (((58, 1), .ireturn, 0, 0, 0) : iv_I),
  (((59, 1), .iload_n 1, 0, 0, 0) : iv_I),
  (((60, 1), .iload_n 2, 0, 0, 0) : iv_I),
  (((61, 3), .ifCond .eq 7, 23, 0, 0) : iv_I),
  (((64, 1), .iconst 2, 0, 0, 0) : iv_I),
  (((65, 3), .goto 4, 24, 0, 0) : iv_I),
  (((68, 1), .iconst 0, 0, 0, 0) : iv_I),
  (((69, 3), .if_icmp .ne 7, 27, 0, 0) : iv_I),
  (((72, 1), .iconst 1, 0, 0, 0) : iv_I),
  (((73, 3), .goto 4, 28, 0, 0) : iv_I),
  (((76, 1), .iconst 0, 0, 0, 0) : iv_I),
  (((77, 1), .ireturn, 0, 0, 0) : iv_I),
  (((78, 1), .iload_n 2, 0, 0, 0) : iv_I),
  (((79, 3), .ifCond .ne 17, 39, 0, 0) : iv_I),
  (((82, 1), .iload_n 1, 0, 0, 0) : iv_I),
  (((83, 1), .iconst 2, 0, 0, 0) : iv_I),
  (((84, 3), .if_icmp .eq 8, 37, 0, 0) : iv_I),
  (((87, 1), .iload_n 1, 0, 0, 0) : iv_I),
  (((88, 1), .iconst 3, 0, 0, 0) : iv_I),
  (((89, 3), .if_icmp .ne 7, 39, 0, 0) : iv_I),
  (((92, 1), .iconst 1, 0, 0, 0) : iv_I),
  (((93, 3), .goto 4, 40, 0, 0) : iv_I),
  (((96, 1), .iconst 0, 0, 0, 0) : iv_I),
  (((97, 1), .ireturn, 0, 0, 0) : iv_I)]
/-- 80: RuleGraph$Demand.isBrokenBy(I)Z -/
def mc_80 : List iv_I := [
  (((0, 1), .aload_n 0, 0, 0, 0) : iv_I),
  (((1, 3), .getfield 9, 4, 0, 344) : iv_I),
  (((4, 28), .tableswitch 67 0 2 #[28, 39, 53], 0, 0, 0) : iv_I),
  (((32, 1), .iload_n 1, 0, 0, 0) : iv_I),
  (((33, 1), .iconst (-1), 0, 0, 0) : iv_I),
  (((34, 3), .if_icmp .ne 7, 8, 0, 0) : iv_I),
  (((37, 1), .iconst 1, 0, 0, 0) : iv_I),
  (((38, 3), .goto 4, 9, 0, 0) : iv_I),
  (((41, 1), .iconst 0, 0, 0, 0) : iv_I),
  (((42, 1), .ireturn, 0, 0, 0) : iv_I),
  (((43, 1), .iload_n 1, 0, 0, 0) : iv_I),
  (((44, 1), .aload_n 0, 0, 0, 0) : iv_I),
  (((45, 3), .getfield 15, 4, 1, 345) : iv_I),
  (((48, 3), .if_icmp .ge 7, 16, 0, 0) : iv_I),
  (((51, 1), .iconst 1, 0, 0, 0) : iv_I),
  (((52, 3), .goto 4, 17, 0, 0) : iv_I),
  (((55, 1), .iconst 0, 0, 0, 0) : iv_I),
  (((56, 1), .ireturn, 0, 0, 0) : iv_I),
  (((57, 1), .iload_n 1, 0, 0, 0) : iv_I),
  (((58, 1), .aload_n 0, 0, 0, 0) : iv_I),
  (((59, 3), .getfield 15, 4, 1, 345) : iv_I),
  (((62, 3), .if_icmp .le 7, 24, 0, 0) : iv_I),
  (((65, 1), .iconst 1, 0, 0, 0) : iv_I),
  (((66, 3), .goto 4, 25, 0, 0) : iv_I),
  (((69, 1), .iconst 0, 0, 0, 0) : iv_I),
  (((70, 1), .ireturn, 0, 0, 0) : iv_I),
  (((71, 1), .iload_n 1, 0, 0, 0) : iv_I),
  (((72, 1), .iconst (-1), 0, 0, 0) : iv_I),
  (((73, 3), .if_icmp .eq 23, 39, 0, 0) : iv_I),
  (((76, 1), .iload_n 1, 0, 0, 0) : iv_I),
  (((77, 1), .aload_n 0, 0, 0, 0) : iv_I),
  (((78, 3), .getfield 15, 4, 1, 345) : iv_I),
  (((81, 3), .if_icmp .lt 11, 37, 0, 0) : iv_I),
  (((84, 1), .iload_n 1, 0, 0, 0) : iv_I),
  (((85, 1), .aload_n 0, 0, 0, 0) : iv_I),
  (((86, 3), .getfield 18, 4, 2, 346) : iv_I),
  (((89, 3), .if_icmp .le 7, 39, 0, 0) : iv_I),
  (((92, 1), .iconst 1, 0, 0, 0) : iv_I),
  (((93, 3), .goto 4, 40, 0, 0) : iv_I),
  (((96, 1), .iconst 0, 0, 0, 0) : iv_I),
  (((97, 1), .ireturn, 0, 0, 0) : iv_I)]
/-- 81: RuleGraph$Groups.<init>()V -/
def mc_81 : List iv_I := [
  (((0, 1), .aload_n 0, 0, 0, 0) : iv_I),
  (((1, 3), .invokespecial 3, 0, 1, 166) : iv_I),
  (((4, 1), .aload_n 0, 0, 0, 0) : iv_I),
  (((5, 2), .bipush 6, 0, 0, 0) : iv_I),
  (((7, 2), .newarray .int, 100, 0, 78) : iv_I),
  (((9, 3), .putfield 9, 5, 0, 169) : iv_I),
  (((12, 1), .iconst 0, 0, 0, 0) : iv_I),
  (((13, 1), .istore_n 1, 0, 0, 0) : iv_I),
  (((14, 1), .iload_n 1, 0, 0, 0) : iv_I),
  (((15, 2), .bipush 6, 0, 0, 0) : iv_I),
  (((17, 3), .if_icmp .ge 18, 20, 0, 0) : iv_I),
  (((20, 1), .aload_n 0, 0, 0, 0) : iv_I),
  (((21, 3), .getfield 9, 5, 0, 169) : iv_I),
  (((24, 1), .iload_n 1, 0, 0, 0) : iv_I),
  (((25, 1), .iconst 1, 0, 0, 0) : iv_I),
  (((26, 1), .iload_n 1, 0, 0, 0) : iv_I),
  (((27, 1), .ishl, 0, 0, 0) : iv_I),
  (((28, 1), .iastore, 0, 0, 0) : iv_I),
  (((29, 3), .iinc 1 1, 0, 0, 0) : iv_I),
  (((32, 3), .goto (-18), 8, 0, 0) : iv_I),
  (((35, 1), .aload_n 0, 0, 0, 0) : iv_I),
  (((36, 1), .iconst 2, 0, 0, 0) : iv_I),
  (((37, 3), .anewarray 15, 106, 0, 167) : iv_I),
  (((40, 3), .putfield 17, 5, 1, 171) : iv_I),
  (((43, 1), .iconst 0, 0, 0, 0) : iv_I),
  (((44, 1), .istore_n 1, 0, 0, 0) : iv_I),
  (((45, 1), .iload_n 1, 0, 0, 0) : iv_I),
  (((46, 1), .iconst 2, 0, 0, 0) : iv_I),
  (((47, 3), .if_icmp .ge 23, 39, 0, 0) : iv_I),
  (((50, 1), .aload_n 0, 0, 0, 0) : iv_I),
  (((51, 3), .getfield 17, 5, 1, 171) : iv_I),
  (((54, 1), .iload_n 1, 0, 0, 0) : iv_I),
  (((55, 3), .new 15, 7, 0, 167) : iv_I),
  (((58, 1), .dup, 0, 0, 0) : iv_I),
  (((59, 1), .iconst 4, 0, 0, 0) : iv_I),
  (((60, 3), .invokespecial 21, 94, 2, 168) : iv_I),
  (((63, 1), .aastore, 0, 0, 0) : iv_I),
  (((64, 3), .iinc 1 1, 0, 0, 0) : iv_I),
  (((67, 3), .goto (-22), 26, 0, 0) : iv_I),
  (((70, 1), .aload_n 0, 0, 0, 0) : iv_I),
  (((71, 3), .new 15, 7, 0, 167) : iv_I),
  (((74, 1), .dup, 0, 0, 0) : iv_I),
  (((75, 2), .bipush 16, 0, 0, 0) : iv_I),
  (((77, 3), .invokespecial 21, 94, 2, 168) : iv_I),
  (((80, 3), .putfield 24, 5, 2, 173) : iv_I),
  (((83, 1), .return_, 0, 0, 0) : iv_I)]
/-- 82: RuleGraph$Groups.isGroup(I)Z -/
def mc_82 : List iv_I := [
  (((0, 1), .iload_n 1, 0, 0, 0) : iv_I),
  (((1, 3), .ifCond .lt 13, 7, 0, 0) : iv_I),
  (((4, 1), .iload_n 1, 0, 0, 0) : iv_I),
  (((5, 2), .bipush 6, 0, 0, 0) : iv_I),
  (((7, 3), .if_icmp .ge 7, 7, 0, 0) : iv_I),
  (((10, 1), .iconst 1, 0, 0, 0) : iv_I),
  (((11, 3), .goto 4, 8, 0, 0) : iv_I),
  (((14, 1), .iconst 0, 0, 0, 0) : iv_I),
  (((15, 1), .ireturn, 0, 0, 0) : iv_I)]
/-- 83: RuleGraph$Groups.isSequence(I)Z -/
def mc_83 : List iv_I := [
  (((0, 1), .iload_n 1, 0, 0, 0) : iv_I),
  (((1, 2), .bipush 6, 0, 0, 0) : iv_I),
  (((3, 3), .if_icmp .lt 13, 8, 0, 0) : iv_I),
  (((6, 1), .iload_n 1, 0, 0, 0) : iv_I),
  (((7, 2), .bipush 8, 0, 0, 0) : iv_I),
  (((9, 3), .if_icmp .ge 7, 8, 0, 0) : iv_I),
  (((12, 1), .iconst 1, 0, 0, 0) : iv_I),
  (((13, 3), .goto 4, 9, 0, 0) : iv_I),
  (((16, 1), .iconst 0, 0, 0, 0) : iv_I),
  (((17, 1), .ireturn, 0, 0, 0) : iv_I)]
/-- 84: RuleGraph$Groups.reaches(II)Z -/
def mc_84 : List iv_I := [
  (((0, 1), .aload_n 0, 0, 0, 0) : iv_I),
  (((1, 3), .getfield 9, 5, 0, 169) : iv_I),
  (((4, 1), .iload_n 1, 0, 0, 0) : iv_I),
  (((5, 1), .iaload, 0, 0, 0) : iv_I),
  (((6, 1), .iload_n 2, 0, 0, 0) : iv_I),
  (((7, 1), .ishr, 0, 0, 0) : iv_I),
  (((8, 1), .iconst 1, 0, 0, 0) : iv_I),
  (((9, 1), .iand, 0, 0, 0) : iv_I),
  (((10, 3), .ifCond .eq 7, 11, 0, 0) : iv_I),
  (((13, 1), .iconst 1, 0, 0, 0) : iv_I),
  (((14, 3), .goto 4, 12, 0, 0) : iv_I),
  (((17, 1), .iconst 0, 0, 0, 0) : iv_I),
  (((18, 1), .ireturn, 0, 0, 0) : iv_I)]
/-- 85: RuleGraph$Groups.widen(II)V -/
def mc_85 : List iv_I := [
  (((0, 1), .iconst 0, 0, 0, 0) : iv_I),
  (((1, 1), .istore_n 3, 0, 0, 0) : iv_I),
  (((2, 1), .iload_n 3, 0, 0, 0) : iv_I),
  (((3, 2), .bipush 6, 0, 0, 0) : iv_I),
  (((5, 3), .if_icmp .ge 33, 23, 0, 0) : iv_I),
  (((8, 1), .aload_n 0, 0, 0, 0) : iv_I),
  (((9, 1), .iload_n 3, 0, 0, 0) : iv_I),
  (((10, 1), .iload_n 1, 0, 0, 0) : iv_I),
  (((11, 3), .invokevirtual 28, 84, 3, 405) : iv_I),
  (((14, 3), .ifCond .eq 18, 21, 0, 0) : iv_I),
  (((17, 1), .aload_n 0, 0, 0, 0) : iv_I),
  (((18, 3), .getfield 9, 5, 0, 169) : iv_I),
  (((21, 1), .iload_n 3, 0, 0, 0) : iv_I),
  (((22, 1), .dup2, 0, 0, 0) : iv_I),
  (((23, 1), .iaload, 0, 0, 0) : iv_I),
  (((24, 1), .aload_n 0, 0, 0, 0) : iv_I),
  (((25, 3), .getfield 9, 5, 0, 169) : iv_I),
  (((28, 1), .iload_n 2, 0, 0, 0) : iv_I),
  (((29, 1), .iaload, 0, 0, 0) : iv_I),
  (((30, 1), .ior, 0, 0, 0) : iv_I),
  (((31, 1), .iastore, 0, 0, 0) : iv_I),
  (((32, 3), .iinc 3 1, 0, 0, 0) : iv_I),
  (((35, 3), .goto (-33), 2, 0, 0) : iv_I),
  (((38, 1), .return_, 0, 0, 0) : iv_I)]
/-- 86: RuleGraph$Groups.flatten(II)Z -/
def mc_86 : List iv_I := [
  (((0, 1), .iload_n 1, 0, 0, 0) : iv_I),
  (((1, 2), .bipush 6, 0, 0, 0) : iv_I),
  (((3, 3), .if_icmp .ge 12, 8, 0, 0) : iv_I),
  (((6, 1), .aload_n 0, 0, 0, 0) : iv_I),
  (((7, 3), .getfield 24, 5, 2, 173) : iv_I),
  (((10, 1), .iload_n 1, 0, 0, 0) : iv_I),
  (((11, 3), .invokevirtual 32, 95, 2, 482) : iv_I),
  (((14, 1), .ireturn, 0, 0, 0) : iv_I),
  (((15, 1), .iload_n 2, 0, 0, 0) : iv_I),
  (((16, 1), .iconst 2, 0, 0, 0) : iv_I),
  (((17, 3), .if_icmp .lt 5, 13, 0, 0) : iv_I),
  (((20, 1), .iconst 0, 0, 0, 0) : iv_I),
  (((21, 1), .ireturn, 0, 0, 0) : iv_I),
  (((22, 1), .aload_n 0, 0, 0, 0) : iv_I),
  (((23, 3), .getfield 17, 5, 1, 171) : iv_I),
  (((26, 1), .iload_n 1, 0, 0, 0) : iv_I),
  (((27, 2), .bipush 6, 0, 0, 0) : iv_I),
  (((29, 1), .isub, 0, 0, 0) : iv_I),
  (((30, 1), .aaload, 0, 0, 0) : iv_I),
  (((31, 1), .astore_n 3, 0, 0, 0) : iv_I),
  (((32, 1), .iconst 0, 0, 0, 0) : iv_I),
  (((33, 2), .istore 4, 0, 0, 0) : iv_I),
  (((35, 2), .iload 4, 0, 0, 0) : iv_I),
  (((37, 1), .aload_n 3, 0, 0, 0) : iv_I),
  (((38, 3), .getfield 36, 7, 1, 71) : iv_I),
  (((41, 3), .if_icmp .ge 28, 40, 0, 0) : iv_I),
  (((44, 1), .aload_n 0, 0, 0, 0) : iv_I),
  (((45, 1), .aload_n 3, 0, 0, 0) : iv_I),
  (((46, 3), .getfield 40, 7, 0, 66) : iv_I),
  (((49, 2), .iload 4, 0, 0, 0) : iv_I),
  (((51, 1), .iaload, 0, 0, 0) : iv_I),
  (((52, 1), .iload_n 2, 0, 0, 0) : iv_I),
  (((53, 1), .iconst 1, 0, 0, 0) : iv_I),
  (((54, 1), .iadd, 0, 0, 0) : iv_I),
  (((55, 3), .invokevirtual 43, 86, 3, 483) : iv_I),
  (((58, 3), .ifCond .ne 5, 38, 0, 0) : iv_I),
  (((61, 1), .iconst 0, 0, 0, 0) : iv_I),
  (((62, 1), .ireturn, 0, 0, 0) : iv_I),
  (((63, 3), .iinc 4 1, 0, 0, 0) : iv_I),
  (((66, 3), .goto (-31), 22, 0, 0) : iv_I),
  (((69, 1), .iconst 1, 0, 0, 0) : iv_I),
  (((70, 1), .ireturn, 0, 0, 0) : iv_I)]
/-- 87: RuleGraph$Report.<init>()V -/
def mc_87 : List iv_I := [
  (((0, 1), .aload_n 0, 0, 0, 0) : iv_I),
  (((1, 3), .invokespecial 3, 0, 1, 211) : iv_I),
  (((4, 1), .aload_n 0, 0, 0, 0) : iv_I),
  (((5, 1), .iconst 0, 0, 0, 0) : iv_I),
  (((6, 3), .putfield 9, 6, 0, 215) : iv_I),
  (((9, 1), .aload_n 0, 0, 0, 0) : iv_I),
  (((10, 2), .bipush 24, 0, 0, 0) : iv_I),
  (((12, 2), .bipush 6, 0, 0, 0) : iv_I),
  (((14, 4), .multianewarray 15 2, 103, 100, 212) : iv_I),
  (((18, 3), .putfield 17, 6, 1, 218) : iv_I),
  (((21, 1), .aload_n 0, 0, 0, 0) : iv_I),
  (((22, 2), .bipush 24, 0, 0, 0) : iv_I),
  (((24, 3), .anewarray 20, 106, 0, 213) : iv_I),
  (((27, 3), .putfield 22, 6, 2, 220) : iv_I),
  (((30, 1), .iconst 0, 0, 0, 0) : iv_I),
  (((31, 1), .istore_n 1, 0, 0, 0) : iv_I),
  (((32, 1), .iload_n 1, 0, 0, 0) : iv_I),
  (((33, 2), .bipush 24, 0, 0, 0) : iv_I),
  (((35, 3), .if_icmp .ge 24, 29, 0, 0) : iv_I),
  (((38, 1), .aload_n 0, 0, 0, 0) : iv_I),
  (((39, 3), .getfield 22, 6, 2, 220) : iv_I),
  (((42, 1), .iload_n 1, 0, 0, 0) : iv_I),
  (((43, 3), .new 20, 7, 0, 213) : iv_I),
  (((46, 1), .dup, 0, 0, 0) : iv_I),
  (((47, 2), .bipush 16, 0, 0, 0) : iv_I),
  (((49, 3), .invokespecial 26, 94, 2, 214) : iv_I),
  (((52, 1), .aastore, 0, 0, 0) : iv_I),
  (((53, 3), .iinc 1 1, 0, 0, 0) : iv_I),
  (((56, 3), .goto (-24), 16, 0, 0) : iv_I),
  (((59, 1), .aload_n 0, 0, 0, 0) : iv_I),
  (((60, 3), .new 20, 7, 0, 213) : iv_I),
  (((63, 1), .dup, 0, 0, 0) : iv_I),
  (((64, 2), .bipush 16, 0, 0, 0) : iv_I),
  (((66, 3), .invokespecial 26, 94, 2, 214) : iv_I),
  (((69, 3), .putfield 29, 6, 3, 221) : iv_I),
  (((72, 1), .aload_n 0, 0, 0, 0) : iv_I),
  (((73, 2), .bipush 112, 0, 0, 0) : iv_I),
  (((75, 2), .newarray .char, 102, 0, 240) : iv_I),
  (((77, 3), .putfield 33, 6, 4, 223) : iv_I),
  (((80, 1), .aload_n 0, 0, 0, 0) : iv_I),
  (((81, 1), .iconst 0, 0, 0, 0) : iv_I),
  (((82, 3), .putfield 37, 6, 5, 225) : iv_I),
  (((85, 1), .return_, 0, 0, 0) : iv_I)]
/-- 88: RuleGraph$Report.holds(I)Z -/
def mc_88 : List iv_I := [
  (((0, 1), .iload_n 1, 0, 0, 0) : iv_I),
  (((1, 3), .ifCond .lt 15, 8, 0, 0) : iv_I),
  (((4, 1), .iload_n 1, 0, 0, 0) : iv_I),
  (((5, 1), .aload_n 0, 0, 0, 0) : iv_I),
  (((6, 3), .getfield 9, 6, 0, 215) : iv_I),
  (((9, 3), .if_icmp .ge 7, 8, 0, 0) : iv_I),
  (((12, 1), .iconst 1, 0, 0, 0) : iv_I),
  (((13, 3), .goto 4, 9, 0, 0) : iv_I),
  (((16, 1), .iconst 0, 0, 0, 0) : iv_I),
  (((17, 1), .ireturn, 0, 0, 0) : iv_I)]
/-- 89: RuleGraph$Report.add(IIIIII)Z -/
def mc_89 : List iv_I := [
  (((0, 1), .aload_n 0, 0, 0, 0) : iv_I),
  (((1, 3), .getfield 9, 6, 0, 215) : iv_I),
  (((4, 2), .bipush 24, 0, 0, 0) : iv_I),
  (((6, 3), .if_icmp .lt 5, 6, 0, 0) : iv_I),
  (((9, 1), .iconst 0, 0, 0, 0) : iv_I),
  (((10, 1), .ireturn, 0, 0, 0) : iv_I),
  (((11, 1), .aload_n 0, 0, 0, 0) : iv_I),
  (((12, 3), .getfield 17, 6, 1, 218) : iv_I),
  (((15, 1), .aload_n 0, 0, 0, 0) : iv_I),
  (((16, 3), .getfield 9, 6, 0, 215) : iv_I),
  (((19, 1), .aaload, 0, 0, 0) : iv_I),
  (((20, 2), .astore 7, 0, 0, 0) : iv_I),
  (((22, 2), .aload 7, 0, 0, 0) : iv_I),
  (((24, 1), .iconst 0, 0, 0, 0) : iv_I),
  (((25, 1), .iload_n 1, 0, 0, 0) : iv_I),
  (((26, 1), .iastore, 0, 0, 0) : iv_I),
  (((27, 2), .aload 7, 0, 0, 0) : iv_I),
  (((29, 1), .iconst 1, 0, 0, 0) : iv_I),
  (((30, 1), .iload_n 2, 0, 0, 0) : iv_I),
  (((31, 1), .iastore, 0, 0, 0) : iv_I),
  (((32, 2), .aload 7, 0, 0, 0) : iv_I),
  (((34, 1), .iconst 2, 0, 0, 0) : iv_I),
  (((35, 1), .iload_n 3, 0, 0, 0) : iv_I),
  (((36, 1), .iastore, 0, 0, 0) : iv_I),
  (((37, 2), .aload 7, 0, 0, 0) : iv_I),
  (((39, 1), .iconst 3, 0, 0, 0) : iv_I),
  (((40, 2), .iload 4, 0, 0, 0) : iv_I),
  (((42, 1), .iastore, 0, 0, 0) : iv_I),
  (((43, 2), .aload 7, 0, 0, 0) : iv_I),
  (((45, 1), .iconst 4, 0, 0, 0) : iv_I),
  (((46, 2), .iload 5, 0, 0, 0) : iv_I),
  (((48, 1), .iastore, 0, 0, 0) : iv_I),
  (((49, 2), .aload 7, 0, 0, 0) : iv_I),
  (((51, 1), .iconst 5, 0, 0, 0) : iv_I),
  (((52, 2), .iload 6, 0, 0, 0) : iv_I),
  (((54, 1), .iastore, 0, 0, 0) : iv_I),
  (((55, 1), .aload_n 0, 0, 0, 0) : iv_I),
  (((56, 3), .getfield 22, 6, 2, 220) : iv_I),
  (((59, 1), .aload_n 0, 0, 0, 0) : iv_I),
  (((60, 3), .getfield 9, 6, 0, 215) : iv_I),
  (((63, 1), .aaload, 0, 0, 0) : iv_I),
  (((64, 2), .astore 8, 0, 0, 0) : iv_I),
  (((66, 1), .iconst 0, 0, 0, 0) : iv_I),
  (((67, 2), .istore 9, 0, 0, 0) : iv_I),
  (((69, 2), .iload 9, 0, 0, 0) : iv_I),
  (((71, 1), .aload_n 0, 0, 0, 0) : iv_I),
  (((72, 3), .getfield 29, 6, 3, 221) : iv_I),
  (((75, 3), .getfield 40, 7, 1, 69) : iv_I),
  (((78, 3), .if_icmp .ge 27, 60, 0, 0) : iv_I),
  (((81, 2), .aload 8, 0, 0, 0) : iv_I),
  (((83, 3), .getfield 43, 7, 0, 64) : iv_I),
  (((86, 2), .iload 9, 0, 0, 0) : iv_I),
  (((88, 1), .aload_n 0, 0, 0, 0) : iv_I),
  (((89, 3), .getfield 29, 6, 3, 221) : iv_I),
  (((92, 3), .getfield 43, 7, 0, 64) : iv_I),
  (((95, 2), .iload 9, 0, 0, 0) : iv_I),
  (((97, 1), .iaload, 0, 0, 0) : iv_I),
  (((98, 1), .iastore, 0, 0, 0) : iv_I),
  (((99, 3), .iinc 9 1, 0, 0, 0) : iv_I),
  (((102, 3), .goto (-33), 44, 0, 0) : iv_I),
  (((105, 2), .aload 8, 0, 0, 0) : iv_I),
  (((107, 1), .aload_n 0, 0, 0, 0) : iv_I),
  (((108, 3), .getfield 29, 6, 3, 221) : iv_I),
  (((111, 3), .getfield 40, 7, 1, 69) : iv_I),
  (((114, 3), .putfield 40, 7, 1, 69) : iv_I),
  (((117, 1), .aload_n 0, 0, 0, 0) : iv_I),
  (((118, 1), .dup, 0, 0, 0) : iv_I),
  (((119, 3), .getfield 9, 6, 0, 215) : iv_I),
  (((122, 1), .iconst 1, 0, 0, 0) : iv_I),
  (((123, 1), .iadd, 0, 0, 0) : iv_I),
  (((124, 3), .putfield 9, 6, 0, 215) : iv_I),
  (((127, 1), .iconst 1, 0, 0, 0) : iv_I),
  (((128, 1), .ireturn, 0, 0, 0) : iv_I)]
/-- 90: RuleGraph$Report.close(I)I -/
def mc_90 : List iv_I := [
  (((0, 1), .iload_n 1, 0, 0, 0) : iv_I),
  (((1, 3), .ifCond .eq 10, 7, 0, 0) : iv_I),
  (((4, 1), .aload_n 0, 0, 0, 0) : iv_I),
  (((5, 1), .iconst 0, 0, 0, 0) : iv_I),
  (((6, 3), .putfield 9, 6, 0, 215) : iv_I),
  (((9, 1), .iload_n 1, 0, 0, 0) : iv_I),
  (((10, 1), .ireturn, 0, 0, 0) : iv_I),
  (((11, 1), .aload_n 0, 0, 0, 0) : iv_I),
  (((12, 3), .getfield 9, 6, 0, 215) : iv_I),
  (((15, 1), .ireturn, 0, 0, 0) : iv_I)]
/-- 91: RuleGraph$Report.spell(I)V -/
def mc_91 : List iv_I := [
  (((0, 1), .aload_n 0, 0, 0, 0) : iv_I),
  (((1, 1), .iconst 0, 0, 0, 0) : iv_I),
  (((2, 3), .putfield 37, 6, 5, 225) : iv_I),
  (((5, 1), .aload_n 0, 0, 0, 0) : iv_I),
  (((6, 3), .getfield 22, 6, 2, 220) : iv_I),
  (((9, 1), .iload_n 1, 0, 0, 0) : iv_I),
  (((10, 1), .aaload, 0, 0, 0) : iv_I),
  (((11, 1), .astore_n 2, 0, 0, 0) : iv_I),
  (((12, 1), .iconst 0, 0, 0, 0) : iv_I),
  (((13, 1), .istore_n 3, 0, 0, 0) : iv_I),
  (((14, 1), .iload_n 3, 0, 0, 0) : iv_I),
  (((15, 1), .aload_n 2, 0, 0, 0) : iv_I),
  (((16, 3), .getfield 40, 7, 1, 69) : iv_I),
  (((19, 3), .if_icmp .ge 37, 35, 0, 0) : iv_I),
  (((22, 1), .aload_n 0, 0, 0, 0) : iv_I),
  (((23, 1), .aload_n 2, 0, 0, 0) : iv_I),
  (((24, 3), .getfield 43, 7, 0, 64) : iv_I),
  (((27, 1), .iload_n 3, 0, 0, 0) : iv_I),
  (((28, 1), .iaload, 0, 0, 0) : iv_I),
  (((29, 1), .iconst 4, 0, 0, 0) : iv_I),
  (((30, 1), .idiv, 0, 0, 0) : iv_I),
  (((31, 1), .aload_n 2, 0, 0, 0) : iv_I),
  (((32, 3), .getfield 43, 7, 0, 64) : iv_I),
  (((35, 1), .iload_n 3, 0, 0, 0) : iv_I),
  (((36, 1), .iaload, 0, 0, 0) : iv_I),
  (((37, 1), .iconst 4, 0, 0, 0) : iv_I),
  (((38, 1), .irem, 0, 0, 0) : iv_I),
  (((39, 1), .iconst 1, 0, 0, 0) : iv_I),
  (((40, 1), .isub, 0, 0, 0) : iv_I),
  (((41, 3), .invokevirtual 47, 92, 3, 585) : iv_I),
  (((44, 1), .aload_n 0, 0, 0, 0) : iv_I),
  (((45, 2), .bipush 46, 0, 0, 0) : iv_I),
  (((47, 3), .invokevirtual 51, 93, 2, 589) : iv_I),
  (((50, 3), .iinc 3 1, 0, 0, 0) : iv_I),
  (((53, 3), .goto (-39), 10, 0, 0) : iv_I),
  (((56, 1), .aload_n 0, 0, 0, 0) : iv_I),
  (((57, 1), .aload_n 0, 0, 0, 0) : iv_I),
  (((58, 3), .getfield 17, 6, 1, 218) : iv_I),
  (((61, 1), .iload_n 1, 0, 0, 0) : iv_I),
  (((62, 1), .aaload, 0, 0, 0) : iv_I),
  (((63, 1), .iconst 1, 0, 0, 0) : iv_I),
  (((64, 1), .iaload, 0, 0, 0) : iv_I),
  (((65, 1), .aload_n 0, 0, 0, 0) : iv_I),
  (((66, 3), .getfield 17, 6, 1, 218) : iv_I),
  (((69, 1), .iload_n 1, 0, 0, 0) : iv_I),
  (((70, 1), .aaload, 0, 0, 0) : iv_I),
  (((71, 1), .iconst 2, 0, 0, 0) : iv_I),
  (((72, 1), .iaload, 0, 0, 0) : iv_I),
  (((73, 3), .invokevirtual 47, 92, 3, 585) : iv_I),
  (((76, 1), .return_, 0, 0, 0) : iv_I)]
/-- 92: RuleGraph$Report.spellStep(II)V -/
def mc_92 : List iv_I := [
  (((0, 1), .aload_n 0, 0, 0, 0) : iv_I),
  (((1, 2), .bipush 102, 0, 0, 0) : iv_I),
  (((3, 3), .invokevirtual 51, 93, 2, 589) : iv_I),
  (((6, 1), .iload_n 1, 0, 0, 0) : iv_I),
  (((7, 2), .bipush 10, 0, 0, 0) : iv_I),
  (((9, 3), .if_icmp .lt 15, 14, 0, 0) : iv_I),
  (((12, 1), .aload_n 0, 0, 0, 0) : iv_I),
  (((13, 2), .bipush 48, 0, 0, 0) : iv_I),
  (((15, 1), .iload_n 1, 0, 0, 0) : iv_I),
  (((16, 2), .bipush 10, 0, 0, 0) : iv_I),
  (((18, 1), .idiv, 0, 0, 0) : iv_I),
  (((19, 1), .iadd, 0, 0, 0) : iv_I),
  (((20, 1), .i2c, 0, 0, 0) : iv_I),
  (((21, 3), .invokevirtual 51, 93, 2, 589) : iv_I),
  (((24, 1), .aload_n 0, 0, 0, 0) : iv_I),
  (((25, 2), .bipush 48, 0, 0, 0) : iv_I),
  (((27, 1), .iload_n 1, 0, 0, 0) : iv_I),
  (((28, 2), .bipush 10, 0, 0, 0) : iv_I),
  (((30, 1), .irem, 0, 0, 0) : iv_I),
  (((31, 1), .iadd, 0, 0, 0) : iv_I),
  (((32, 1), .i2c, 0, 0, 0) : iv_I),
  (((33, 3), .invokevirtual 51, 93, 2, 589) : iv_I),
  (((36, 1), .iload_n 2, 0, 0, 0) : iv_I),
  (((37, 1), .iconst (-1), 0, 0, 0) : iv_I),
  (((38, 3), .if_icmp .eq 24, 37, 0, 0) : iv_I),
  (((41, 1), .aload_n 0, 0, 0, 0) : iv_I),
  (((42, 2), .bipush 91, 0, 0, 0) : iv_I),
  (((44, 3), .invokevirtual 51, 93, 2, 589) : iv_I),
  (((47, 1), .aload_n 0, 0, 0, 0) : iv_I),
  (((48, 2), .bipush 48, 0, 0, 0) : iv_I),
  (((50, 1), .iload_n 2, 0, 0, 0) : iv_I),
  (((51, 1), .iadd, 0, 0, 0) : iv_I),
  (((52, 1), .i2c, 0, 0, 0) : iv_I),
  (((53, 3), .invokevirtual 51, 93, 2, 589) : iv_I),
  (((56, 1), .aload_n 0, 0, 0, 0) : iv_I),
  (((57, 2), .bipush 93, 0, 0, 0) : iv_I),
  (((59, 3), .invokevirtual 51, 93, 2, 589) : iv_I),
  (((62, 1), .return_, 0, 0, 0) : iv_I)]
/-- 93: RuleGraph$Report.write(C)V -/
def mc_93 : List iv_I := [
  (((0, 1), .aload_n 0, 0, 0, 0) : iv_I),
  (((1, 3), .getfield 37, 6, 5, 225) : iv_I),
  (((4, 1), .aload_n 0, 0, 0, 0) : iv_I),
  (((5, 3), .getfield 33, 6, 4, 223) : iv_I),
  (((8, 1), .arraylength, 0, 0, 0) : iv_I),
  (((9, 3), .if_icmp .ge 23, 18, 0, 0) : iv_I),
  (((12, 1), .aload_n 0, 0, 0, 0) : iv_I),
  (((13, 3), .getfield 33, 6, 4, 223) : iv_I),
  (((16, 1), .aload_n 0, 0, 0, 0) : iv_I),
  (((17, 3), .getfield 37, 6, 5, 225) : iv_I),
  (((20, 1), .iload_n 1, 0, 0, 0) : iv_I),
  (((21, 1), .castore, 0, 0, 0) : iv_I),
  (((22, 1), .aload_n 0, 0, 0, 0) : iv_I),
  (((23, 1), .dup, 0, 0, 0) : iv_I),
  (((24, 3), .getfield 37, 6, 5, 225) : iv_I),
  (((27, 1), .iconst 1, 0, 0, 0) : iv_I),
  (((28, 1), .iadd, 0, 0, 0) : iv_I),
  (((29, 3), .putfield 37, 6, 5, 225) : iv_I),
  (((32, 1), .return_, 0, 0, 0) : iv_I)]
/-- 94: RuleGraph$Row.<init>(I)V -/
def mc_94 : List iv_I := [
  (((0, 1), .aload_n 0, 0, 0, 0) : iv_I),
  (((1, 3), .invokespecial 1, 0, 1, 62) : iv_I),
  (((4, 1), .aload_n 0, 0, 0, 0) : iv_I),
  (((5, 1), .iload_n 1, 0, 0, 0) : iv_I),
  (((6, 2), .newarray .int, 100, 0, 78) : iv_I),
  (((8, 3), .putfield 7, 7, 0, 63) : iv_I),
  (((11, 1), .aload_n 0, 0, 0, 0) : iv_I),
  (((12, 1), .iconst 0, 0, 0, 0) : iv_I),
  (((13, 3), .putfield 13, 7, 1, 68) : iv_I),
  (((16, 1), .return_, 0, 0, 0) : iv_I)]
/-- 95: RuleGraph$Row.add(I)Z -/
def mc_95 : List iv_I := [
  (((0, 1), .aload_n 0, 0, 0, 0) : iv_I),
  (((1, 3), .getfield 13, 7, 1, 68) : iv_I),
  (((4, 1), .aload_n 0, 0, 0, 0) : iv_I),
  (((5, 3), .getfield 7, 7, 0, 63) : iv_I),
  (((8, 1), .arraylength, 0, 0, 0) : iv_I),
  (((9, 3), .if_icmp .lt 5, 8, 0, 0) : iv_I),
  (((12, 1), .iconst 0, 0, 0, 0) : iv_I),
  (((13, 1), .ireturn, 0, 0, 0) : iv_I),
  (((14, 1), .aload_n 0, 0, 0, 0) : iv_I),
  (((15, 3), .getfield 7, 7, 0, 63) : iv_I),
  (((18, 1), .aload_n 0, 0, 0, 0) : iv_I),
  (((19, 3), .getfield 13, 7, 1, 68) : iv_I),
  (((22, 1), .iload_n 1, 0, 0, 0) : iv_I),
  (((23, 1), .iastore, 0, 0, 0) : iv_I),
  (((24, 1), .aload_n 0, 0, 0, 0) : iv_I),
  (((25, 1), .dup, 0, 0, 0) : iv_I),
  (((26, 3), .getfield 13, 7, 1, 68) : iv_I),
  (((29, 1), .iconst 1, 0, 0, 0) : iv_I),
  (((30, 1), .iadd, 0, 0, 0) : iv_I),
  (((31, 3), .putfield 13, 7, 1, 68) : iv_I),
  (((34, 1), .iconst 1, 0, 0, 0) : iv_I),
  (((35, 1), .ireturn, 0, 0, 0) : iv_I)]
/-- 96: RuleGraph$Rule.<init>(IZLRuleGraph$Composition;I)V -/
def mc_96 : List iv_I := [
  (((0, 1), .aload_n 0, 0, 0, 0) : iv_I),
  (((1, 3), .invokespecial 1, 0, 1, 362) : iv_I),
  (((4, 1), .aload_n 0, 0, 0, 0) : iv_I),
  (((5, 1), .iload_n 1, 0, 0, 0) : iv_I),
  (((6, 3), .putfield 7, 8, 0, 363) : iv_I),
  (((9, 1), .aload_n 0, 0, 0, 0) : iv_I),
  (((10, 1), .iload_n 2, 0, 0, 0) : iv_I),
  (((11, 3), .putfield 13, 8, 1, 365) : iv_I),
  (((14, 1), .aload_n 0, 0, 0, 0) : iv_I),
  (((15, 1), .aload_n 3, 0, 0, 0) : iv_I),
  (((16, 3), .putfield 17, 8, 2, 367) : iv_I),
  (((19, 1), .aload_n 0, 0, 0, 0) : iv_I),
  (((20, 2), .iload 4, 0, 0, 0) : iv_I),
  (((22, 3), .putfield 21, 8, 3, 369) : iv_I),
  (((25, 1), .return_, 0, 0, 0) : iv_I)]
/-- 97: RuleGraph$Rulebook.<init>()V -/
def mc_97 : List iv_I := [
  (((0, 1), .aload_n 0, 0, 0, 0) : iv_I),
  (((1, 3), .invokespecial 3, 0, 1, 121) : iv_I),
  (((4, 1), .aload_n 0, 0, 0, 0) : iv_I),
  (((5, 2), .bipush 24, 0, 0, 0) : iv_I),
  (((7, 3), .anewarray 9, 107, 0, 122) : iv_I),
  (((10, 3), .putfield 11, 9, 0, 148) : iv_I),
  (((13, 1), .aload_n 0, 0, 0, 0) : iv_I),
  (((14, 1), .iconst 0, 0, 0, 0) : iv_I),
  (((15, 3), .putfield 17, 9, 1, 150) : iv_I),
  (((18, 1), .aload_n 0, 0, 0, 0) : iv_I),
  (((19, 1), .iconst 3, 0, 0, 0) : iv_I),
  (((20, 3), .anewarray 21, 104, 0, 124) : iv_I),
  (((23, 3), .putfield 23, 9, 2, 152) : iv_I),
  (((26, 1), .iconst 0, 0, 0, 0) : iv_I),
  (((27, 1), .istore_n 1, 0, 0, 0) : iv_I),
  (((28, 1), .iload_n 1, 0, 0, 0) : iv_I),
  (((29, 1), .iconst 3, 0, 0, 0) : iv_I),
  (((30, 3), .if_icmp .ge 23, 28, 0, 0) : iv_I),
  (((33, 1), .aload_n 0, 0, 0, 0) : iv_I),
  (((34, 3), .getfield 23, 9, 2, 152) : iv_I),
  (((37, 1), .iload_n 1, 0, 0, 0) : iv_I),
  (((38, 3), .new 21, 3, 0, 124) : iv_I),
  (((41, 1), .dup, 0, 0, 0) : iv_I),
  (((42, 1), .iconst 3, 0, 0, 0) : iv_I),
  (((43, 3), .invokespecial 27, 75, 2, 127) : iv_I),
  (((46, 1), .aastore, 0, 0, 0) : iv_I),
  (((47, 3), .iinc 1 1, 0, 0, 0) : iv_I),
  (((50, 3), .goto (-22), 15, 0, 0) : iv_I),
  (((53, 1), .return_, 0, 0, 0) : iv_I)]
/-- 98: RuleGraph$Rulebook.isComposition(I)Z -/
def mc_98 : List iv_I := [
  (((0, 1), .iload_n 1, 0, 0, 0) : iv_I),
  (((1, 3), .ifCond .lt 12, 7, 0, 0) : iv_I),
  (((4, 1), .iload_n 1, 0, 0, 0) : iv_I),
  (((5, 1), .iconst 3, 0, 0, 0) : iv_I),
  (((6, 3), .if_icmp .ge 7, 7, 0, 0) : iv_I),
  (((9, 1), .iconst 1, 0, 0, 0) : iv_I),
  (((10, 3), .goto 4, 8, 0, 0) : iv_I),
  (((13, 1), .iconst 0, 0, 0, 0) : iv_I),
  (((14, 1), .ireturn, 0, 0, 0) : iv_I)]
/-- 99: RuleGraph$Rulebook.alone(III)LRuleGraph$Composition; -/
def mc_99 : List iv_I := [
  (((0, 3), .new 21, 3, 0, 124) : iv_I),
  (((3, 1), .dup, 0, 0, 0) : iv_I),
  (((4, 1), .iconst 1, 0, 0, 0) : iv_I),
  (((5, 3), .invokespecial 27, 75, 2, 127) : iv_I),
  (((8, 2), .astore 4, 0, 0, 0) : iv_I),
  (((10, 2), .aload 4, 0, 0, 0) : iv_I),
  (((12, 1), .iload_n 1, 0, 0, 0) : iv_I),
  (((13, 1), .iload_n 2, 0, 0, 0) : iv_I),
  (((14, 1), .iload_n 3, 0, 0, 0) : iv_I),
  (((15, 3), .invokevirtual 30, 76, 4, 335) : iv_I),
  (((18, 1), .pop, 0, 0, 0) : iv_I),
  (((19, 2), .aload 4, 0, 0, 0) : iv_I),
  (((21, 1), .iconst 1, 0, 0, 0) : iv_I),
  (((22, 3), .putfield 34, 3, 2, 138) : iv_I),
  (((25, 2), .aload 4, 0, 0, 0) : iv_I),
  (((27, 1), .areturn, 0, 0, 0) : iv_I)]
/-- 100: RuleGraph$Rulebook.addRule(IZLRuleGraph$Composition;I)I -/
def mc_100 : List iv_I := [
  (((0, 1), .aload_n 0, 0, 0, 0) : iv_I),
  (((1, 3), .getfield 17, 9, 1, 150) : iv_I),
  (((4, 2), .bipush 24, 0, 0, 0) : iv_I),
  (((6, 3), .if_icmp .lt 5, 6, 0, 0) : iv_I),
  (((9, 1), .iconst (-1), 0, 0, 0) : iv_I),
  (((10, 1), .ireturn, 0, 0, 0) : iv_I),
  (((11, 1), .aload_n 0, 0, 0, 0) : iv_I),
  (((12, 3), .getfield 11, 9, 0, 148) : iv_I),
  (((15, 1), .aload_n 0, 0, 0, 0) : iv_I),
  (((16, 3), .getfield 17, 9, 1, 150) : iv_I),
  (((19, 3), .new 9, 8, 0, 122) : iv_I),
  (((22, 1), .dup, 0, 0, 0) : iv_I),
  (((23, 1), .iload_n 1, 0, 0, 0) : iv_I),
  (((24, 1), .iload_n 2, 0, 0, 0) : iv_I),
  (((25, 1), .aload_n 3, 0, 0, 0) : iv_I),
  (((26, 2), .iload 4, 0, 0, 0) : iv_I),
  (((28, 3), .invokespecial 38, 96, 5, 359) : iv_I),
  (((31, 1), .aastore, 0, 0, 0) : iv_I),
  (((32, 1), .aload_n 0, 0, 0, 0) : iv_I),
  (((33, 1), .dup, 0, 0, 0) : iv_I),
  (((34, 3), .getfield 17, 9, 1, 150) : iv_I),
  (((37, 1), .iconst 1, 0, 0, 0) : iv_I),
  (((38, 1), .iadd, 0, 0, 0) : iv_I),
  (((39, 3), .putfield 17, 9, 1, 150) : iv_I),
  (((42, 1), .aload_n 0, 0, 0, 0) : iv_I),
  (((43, 3), .getfield 17, 9, 1, 150) : iv_I),
  (((46, 1), .iconst 1, 0, 0, 0) : iv_I),
  (((47, 1), .isub, 0, 0, 0) : iv_I),
  (((48, 1), .ireturn, 0, 0, 0) : iv_I)]
/-- 101: RuleGraph$Shape.<init>()V -/
def mc_101 : List iv_I := [
  (((0, 1), .aload_n 0, 0, 0, 0) : iv_I),
  (((1, 3), .invokespecial 3, 0, 1, 55) : iv_I),
  (((4, 1), .aload_n 0, 0, 0, 0) : iv_I),
  (((5, 1), .iconst 0, 0, 0, 0) : iv_I),
  (((6, 3), .putfield 9, 10, 0, 81) : iv_I),
  (((9, 1), .aload_n 0, 0, 0, 0) : iv_I),
  (((10, 2), .bipush 6, 0, 0, 0) : iv_I),
  (((12, 2), .newarray .int, 100, 0, 78) : iv_I),
  (((14, 3), .putfield 15, 10, 1, 82) : iv_I),
  (((17, 1), .aload_n 0, 0, 0, 0) : iv_I),
  (((18, 2), .bipush 6, 0, 0, 0) : iv_I),
  (((20, 3), .anewarray 19, 106, 0, 56) : iv_I),
  (((23, 3), .putfield 21, 10, 2, 83) : iv_I),
  (((26, 1), .iconst 0, 0, 0, 0) : iv_I),
  (((27, 1), .istore_n 1, 0, 0, 0) : iv_I),
  (((28, 1), .iload_n 1, 0, 0, 0) : iv_I),
  (((29, 2), .bipush 6, 0, 0, 0) : iv_I),
  (((31, 3), .if_icmp .ge 23, 28, 0, 0) : iv_I),
  (((34, 1), .aload_n 0, 0, 0, 0) : iv_I),
  (((35, 3), .getfield 21, 10, 2, 83) : iv_I),
  (((38, 1), .iload_n 1, 0, 0, 0) : iv_I),
  (((39, 3), .new 19, 7, 0, 56) : iv_I),
  (((42, 1), .dup, 0, 0, 0) : iv_I),
  (((43, 1), .iconst 4, 0, 0, 0) : iv_I),
  (((44, 3), .invokespecial 25, 94, 2, 59) : iv_I),
  (((47, 1), .aastore, 0, 0, 0) : iv_I),
  (((48, 3), .iinc 1 1, 0, 0, 0) : iv_I),
  (((51, 3), .goto (-23), 15, 0, 0) : iv_I),
  (((54, 1), .aload_n 0, 0, 0, 0) : iv_I),
  (((55, 1), .iconst 0, 0, 0, 0) : iv_I),
  (((56, 3), .putfield 28, 10, 3, 86) : iv_I),
  (((59, 1), .aload_n 0, 0, 0, 0) : iv_I),
  (((60, 2), .bipush 14, 0, 0, 0) : iv_I),
  (((62, 2), .newarray .int, 100, 0, 78) : iv_I),
  (((64, 3), .putfield 31, 10, 4, 88) : iv_I),
  (((67, 1), .aload_n 0, 0, 0, 0) : iv_I),
  (((68, 2), .bipush 14, 0, 0, 0) : iv_I),
  (((70, 2), .newarray .int, 100, 0, 78) : iv_I),
  (((72, 3), .putfield 34, 10, 5, 89) : iv_I),
  (((75, 1), .aload_n 0, 0, 0, 0) : iv_I),
  (((76, 2), .bipush 14, 0, 0, 0) : iv_I),
  (((78, 2), .newarray .boolean, 101, 0, 115) : iv_I),
  (((80, 3), .putfield 37, 10, 6, 92) : iv_I),
  (((83, 1), .aload_n 0, 0, 0, 0) : iv_I),
  (((84, 2), .bipush 14, 0, 0, 0) : iv_I),
  (((86, 2), .bipush 6, 0, 0, 0) : iv_I),
  (((88, 4), .multianewarray 41 2, 103, 100, 79) : iv_I),
  (((92, 3), .putfield 43, 10, 7, 95) : iv_I),
  (((95, 1), .return_, 0, 0, 0) : iv_I)]
/-- 102: RuleGraph$Shape.isClass(I)Z -/
def mc_102 : List iv_I := [
  (((0, 1), .iload_n 1, 0, 0, 0) : iv_I),
  (((1, 3), .ifCond .lt 15, 8, 0, 0) : iv_I),
  (((4, 1), .iload_n 1, 0, 0, 0) : iv_I),
  (((5, 1), .aload_n 0, 0, 0, 0) : iv_I),
  (((6, 3), .getfield 9, 10, 0, 81) : iv_I),
  (((9, 3), .if_icmp .ge 7, 8, 0, 0) : iv_I),
  (((12, 1), .iconst 1, 0, 0, 0) : iv_I),
  (((13, 3), .goto 4, 9, 0, 0) : iv_I),
  (((16, 1), .iconst 0, 0, 0, 0) : iv_I),
  (((17, 1), .ireturn, 0, 0, 0) : iv_I)]
/-- 103: RuleGraph$Shape.isField(I)Z -/
def mc_103 : List iv_I := [
  (((0, 1), .iload_n 1, 0, 0, 0) : iv_I),
  (((1, 3), .ifCond .lt 15, 8, 0, 0) : iv_I),
  (((4, 1), .iload_n 1, 0, 0, 0) : iv_I),
  (((5, 1), .aload_n 0, 0, 0, 0) : iv_I),
  (((6, 3), .getfield 28, 10, 3, 86) : iv_I),
  (((9, 3), .if_icmp .ge 7, 8, 0, 0) : iv_I),
  (((12, 1), .iconst 1, 0, 0, 0) : iv_I),
  (((13, 3), .goto 4, 9, 0, 0) : iv_I),
  (((16, 1), .iconst 0, 0, 0, 0) : iv_I),
  (((17, 1), .ireturn, 0, 0, 0) : iv_I)]
/-- 104: RuleGraph$Shape.isList(I)Z -/
def mc_104 : List iv_I := [
  (((0, 1), .aload_n 0, 0, 0, 0) : iv_I),
  (((1, 3), .getfield 34, 10, 5, 89) : iv_I),
  (((4, 1), .iload_n 1, 0, 0, 0) : iv_I),
  (((5, 1), .iaload, 0, 0, 0) : iv_I),
  (((6, 1), .iconst 2, 0, 0, 0) : iv_I),
  (((7, 3), .if_icmp .eq 13, 12, 0, 0) : iv_I),
  (((10, 1), .aload_n 0, 0, 0, 0) : iv_I),
  (((11, 3), .getfield 34, 10, 5, 89) : iv_I),
  (((14, 1), .iload_n 1, 0, 0, 0) : iv_I),
  (((15, 1), .iaload, 0, 0, 0) : iv_I),
  (((16, 1), .iconst 3, 0, 0, 0) : iv_I),
  (((17, 3), .if_icmp .ne 7, 14, 0, 0) : iv_I),
  (((20, 1), .iconst 1, 0, 0, 0) : iv_I),
  (((21, 3), .goto 4, 15, 0, 0) : iv_I),
  (((24, 1), .iconst 0, 0, 0, 0) : iv_I),
  (((25, 1), .ireturn, 0, 0, 0) : iv_I)]
/-- 105: RuleGraph$Shape.leadsToObjects(I)Z -/
def mc_105 : List iv_I := [
  (((0, 1), .aload_n 0, 0, 0, 0) : iv_I),
  (((1, 3), .getfield 34, 10, 5, 89) : iv_I),
  (((4, 1), .iload_n 1, 0, 0, 0) : iv_I),
  (((5, 1), .iaload, 0, 0, 0) : iv_I),
  (((6, 1), .iconst 1, 0, 0, 0) : iv_I),
  (((7, 3), .if_icmp .eq 13, 12, 0, 0) : iv_I),
  (((10, 1), .aload_n 0, 0, 0, 0) : iv_I),
  (((11, 3), .getfield 34, 10, 5, 89) : iv_I),
  (((14, 1), .iload_n 1, 0, 0, 0) : iv_I),
  (((15, 1), .iaload, 0, 0, 0) : iv_I),
  (((16, 1), .iconst 3, 0, 0, 0) : iv_I),
  (((17, 3), .if_icmp .ne 7, 14, 0, 0) : iv_I),
  (((20, 1), .iconst 1, 0, 0, 0) : iv_I),
  (((21, 3), .goto 4, 15, 0, 0) : iv_I),
  (((24, 1), .iconst 0, 0, 0, 0) : iv_I),
  (((25, 1), .ireturn, 0, 0, 0) : iv_I)]
/-- 106: RuleGraph$Shape.owns(II)Z -/
def mc_106 : List iv_I := [
  (((0, 1), .aload_n 0, 0, 0, 0) : iv_I),
  (((1, 3), .getfield 15, 10, 1, 82) : iv_I),
  (((4, 1), .iload_n 1, 0, 0, 0) : iv_I),
  (((5, 1), .iaload, 0, 0, 0) : iv_I),
  (((6, 1), .aload_n 0, 0, 0, 0) : iv_I),
  (((7, 3), .getfield 31, 10, 4, 88) : iv_I),
  (((10, 1), .iload_n 2, 0, 0, 0) : iv_I),
  (((11, 1), .iaload, 0, 0, 0) : iv_I),
  (((12, 1), .ishr, 0, 0, 0) : iv_I),
  (((13, 1), .iconst 1, 0, 0, 0) : iv_I),
  (((14, 1), .iand, 0, 0, 0) : iv_I),
  (((15, 3), .ifCond .eq 7, 14, 0, 0) : iv_I),
  (((18, 1), .iconst 1, 0, 0, 0) : iv_I),
  (((19, 3), .goto 4, 15, 0, 0) : iv_I),
  (((22, 1), .iconst 0, 0, 0, 0) : iv_I),
  (((23, 1), .ireturn, 0, 0, 0) : iv_I)]
/-- 107: RuleGraph$Shape.fieldsOf(I)I -/
def mc_107 : List iv_I := [
  (((0, 1), .iconst 0, 0, 0, 0) : iv_I),
  (((1, 1), .istore_n 2, 0, 0, 0) : iv_I),
  (((2, 1), .iconst 0, 0, 0, 0) : iv_I),
  (((3, 1), .istore_n 3, 0, 0, 0) : iv_I),
  (((4, 1), .iload_n 3, 0, 0, 0) : iv_I),
  (((5, 1), .aload_n 0, 0, 0, 0) : iv_I),
  (((6, 3), .getfield 28, 10, 3, 86) : iv_I),
  (((9, 3), .if_icmp .ge 24, 21, 0, 0) : iv_I),
  (((12, 1), .aload_n 0, 0, 0, 0) : iv_I),
  (((13, 1), .iload_n 1, 0, 0, 0) : iv_I),
  (((14, 1), .iload_n 3, 0, 0, 0) : iv_I),
  (((15, 3), .invokevirtual 46, 106, 3, 504) : iv_I),
  (((18, 3), .ifCond .eq 9, 19, 0, 0) : iv_I),
  (((21, 1), .iload_n 2, 0, 0, 0) : iv_I),
  (((22, 1), .iconst 1, 0, 0, 0) : iv_I),
  (((23, 1), .iload_n 3, 0, 0, 0) : iv_I),
  (((24, 1), .ishl, 0, 0, 0) : iv_I),
  (((25, 1), .ior, 0, 0, 0) : iv_I),
  (((26, 1), .istore_n 2, 0, 0, 0) : iv_I),
  (((27, 3), .iinc 3 1, 0, 0, 0) : iv_I),
  (((30, 3), .goto (-26), 4, 0, 0) : iv_I),
  (((33, 1), .iload_n 2, 0, 0, 0) : iv_I),
  (((34, 1), .ireturn, 0, 0, 0) : iv_I)]
/-- 108: RuleGraph$Shape.addClass(I)I -/
def mc_108 : List iv_I := [
  (((0, 1), .aload_n 0, 0, 0, 0) : iv_I),
  (((1, 3), .getfield 9, 10, 0, 81) : iv_I),
  (((4, 2), .bipush 6, 0, 0, 0) : iv_I),
  (((6, 3), .if_icmp .lt 5, 6, 0, 0) : iv_I),
  (((9, 1), .iconst (-1), 0, 0, 0) : iv_I),
  (((10, 1), .ireturn, 0, 0, 0) : iv_I),
  (((11, 1), .aload_n 0, 0, 0, 0) : iv_I),
  (((12, 3), .getfield 9, 10, 0, 81) : iv_I),
  (((15, 1), .istore_n 2, 0, 0, 0) : iv_I),
  (((16, 1), .aload_n 0, 0, 0, 0) : iv_I),
  (((17, 3), .getfield 15, 10, 1, 82) : iv_I),
  (((20, 1), .iload_n 2, 0, 0, 0) : iv_I),
  (((21, 1), .iconst 1, 0, 0, 0) : iv_I),
  (((22, 1), .iload_n 2, 0, 0, 0) : iv_I),
  (((23, 1), .ishl, 0, 0, 0) : iv_I),
  (((24, 1), .iload_n 1, 0, 0, 0) : iv_I),
  (((25, 1), .iconst (-1), 0, 0, 0) : iv_I),
  (((26, 3), .if_icmp .ne 7, 20, 0, 0) : iv_I),
  (((29, 1), .iconst 0, 0, 0, 0) : iv_I),
  (((30, 3), .goto 9, 24, 0, 0) : iv_I),
  (((33, 1), .aload_n 0, 0, 0, 0) : iv_I),
  (((34, 3), .getfield 15, 10, 1, 82) : iv_I),
  (((37, 1), .iload_n 1, 0, 0, 0) : iv_I),
  (((38, 1), .iaload, 0, 0, 0) : iv_I),
  (((39, 1), .ior, 0, 0, 0) : iv_I),
  (((40, 1), .iastore, 0, 0, 0) : iv_I),
  (((41, 1), .aload_n 0, 0, 0, 0) : iv_I),
  (((42, 1), .dup, 0, 0, 0) : iv_I),
  (((43, 3), .getfield 9, 10, 0, 81) : iv_I),
  (((46, 1), .iconst 1, 0, 0, 0) : iv_I),
  (((47, 1), .iadd, 0, 0, 0) : iv_I),
  (((48, 3), .putfield 9, 10, 0, 81) : iv_I),
  (((51, 1), .iload_n 2, 0, 0, 0) : iv_I),
  (((52, 1), .ireturn, 0, 0, 0) : iv_I)]
/-- 109: RuleGraph$Shape.addField(II)I -/
def mc_109 : List iv_I := [
  (((0, 1), .aload_n 0, 0, 0, 0) : iv_I),
  (((1, 3), .getfield 28, 10, 3, 86) : iv_I),
  (((4, 2), .bipush 14, 0, 0, 0) : iv_I),
  (((6, 3), .if_icmp .lt 5, 6, 0, 0) : iv_I),
  (((9, 1), .iconst (-1), 0, 0, 0) : iv_I),
  (((10, 1), .ireturn, 0, 0, 0) : iv_I),
  (((11, 1), .aload_n 0, 0, 0, 0) : iv_I),
  (((12, 3), .getfield 28, 10, 3, 86) : iv_I),
  (((15, 1), .istore_n 3, 0, 0, 0) : iv_I),
  (((16, 1), .aload_n 0, 0, 0, 0) : iv_I),
  (((17, 3), .getfield 31, 10, 4, 88) : iv_I),
  (((20, 1), .iload_n 3, 0, 0, 0) : iv_I),
  (((21, 1), .iload_n 1, 0, 0, 0) : iv_I),
  (((22, 1), .iastore, 0, 0, 0) : iv_I),
  (((23, 1), .aload_n 0, 0, 0, 0) : iv_I),
  (((24, 3), .getfield 34, 10, 5, 89) : iv_I),
  (((27, 1), .iload_n 3, 0, 0, 0) : iv_I),
  (((28, 1), .iload_n 2, 0, 0, 0) : iv_I),
  (((29, 1), .iastore, 0, 0, 0) : iv_I),
  (((30, 1), .iconst 0, 0, 0, 0) : iv_I),
  (((31, 2), .istore 4, 0, 0, 0) : iv_I),
  (((33, 2), .iload 4, 0, 0, 0) : iv_I),
  (((35, 2), .bipush 6, 0, 0, 0) : iv_I),
  (((37, 3), .if_icmp .ge 20, 33, 0, 0) : iv_I),
  (((40, 1), .aload_n 0, 0, 0, 0) : iv_I),
  (((41, 3), .getfield 43, 10, 7, 95) : iv_I),
  (((44, 1), .iload_n 3, 0, 0, 0) : iv_I),
  (((45, 1), .aaload, 0, 0, 0) : iv_I),
  (((46, 2), .iload 4, 0, 0, 0) : iv_I),
  (((48, 2), .iload 4, 0, 0, 0) : iv_I),
  (((50, 1), .iastore, 0, 0, 0) : iv_I),
  (((51, 3), .iinc 4 1, 0, 0, 0) : iv_I),
  (((54, 3), .goto (-21), 21, 0, 0) : iv_I),
  (((57, 1), .aload_n 0, 0, 0, 0) : iv_I),
  (((58, 1), .dup, 0, 0, 0) : iv_I),
  (((59, 3), .getfield 28, 10, 3, 86) : iv_I),
  (((62, 1), .iconst 1, 0, 0, 0) : iv_I),
  (((63, 1), .iadd, 0, 0, 0) : iv_I),
  (((64, 3), .putfield 28, 10, 3, 86) : iv_I),
  (((67, 1), .iload_n 3, 0, 0, 0) : iv_I),
  (((68, 1), .ireturn, 0, 0, 0) : iv_I)]
/-- 110: RuleGraph$Store.<init>()V -/
def mc_110 : List iv_I := [
  (((0, 1), .aload_n 0, 0, 0, 0) : iv_I),
  (((1, 3), .invokespecial 3, 0, 1, 187) : iv_I),
  (((4, 1), .aload_n 0, 0, 0, 0) : iv_I),
  (((5, 1), .iconst 0, 0, 0, 0) : iv_I),
  (((6, 3), .putfield 9, 11, 0, 189) : iv_I),
  (((9, 1), .aload_n 0, 0, 0, 0) : iv_I),
  (((10, 2), .bipush 10, 0, 0, 0) : iv_I),
  (((12, 2), .newarray .int, 100, 0, 78) : iv_I),
  (((14, 3), .putfield 15, 11, 1, 190) : iv_I),
  (((17, 1), .aload_n 0, 0, 0, 0) : iv_I),
  (((18, 2), .bipush 10, 0, 0, 0) : iv_I),
  (((20, 2), .bipush 14, 0, 0, 0) : iv_I),
  (((22, 4), .multianewarray 19 2, 103, 100, 188) : iv_I),
  (((26, 3), .putfield 21, 11, 2, 193) : iv_I),
  (((29, 1), .aload_n 0, 0, 0, 0) : iv_I),
  (((30, 2), .bipush 10, 0, 0, 0) : iv_I),
  (((32, 2), .bipush 42, 0, 0, 0) : iv_I),
  (((34, 4), .multianewarray 19 2, 103, 100, 188) : iv_I),
  (((38, 3), .putfield 24, 11, 3, 196) : iv_I),
  (((41, 1), .return_, 0, 0, 0) : iv_I)]
/-- 111: RuleGraph$Store.isObject(I)Z -/
def mc_111 : List iv_I := [
  (((0, 1), .iload_n 1, 0, 0, 0) : iv_I),
  (((1, 3), .ifCond .lt 15, 8, 0, 0) : iv_I),
  (((4, 1), .iload_n 1, 0, 0, 0) : iv_I),
  (((5, 1), .aload_n 0, 0, 0, 0) : iv_I),
  (((6, 3), .getfield 9, 11, 0, 189) : iv_I),
  (((9, 3), .if_icmp .ge 7, 8, 0, 0) : iv_I),
  (((12, 1), .iconst 1, 0, 0, 0) : iv_I),
  (((13, 3), .goto 4, 9, 0, 0) : iv_I),
  (((16, 1), .iconst 0, 0, 0, 0) : iv_I),
  (((17, 1), .ireturn, 0, 0, 0) : iv_I)]
/-- 112: RuleGraph$Store.startField(II)V -/
def mc_112 : List iv_I := [
  (((0, 1), .iconst 0, 0, 0, 0) : iv_I),
  (((1, 1), .istore_n 3, 0, 0, 0) : iv_I),
  (((2, 1), .iload_n 3, 0, 0, 0) : iv_I),
  (((3, 2), .bipush 10, 0, 0, 0) : iv_I),
  (((5, 3), .if_icmp .ge 18, 14, 0, 0) : iv_I),
  (((8, 1), .aload_n 0, 0, 0, 0) : iv_I),
  (((9, 3), .getfield 21, 11, 2, 193) : iv_I),
  (((12, 1), .iload_n 3, 0, 0, 0) : iv_I),
  (((13, 1), .aaload, 0, 0, 0) : iv_I),
  (((14, 1), .iload_n 1, 0, 0, 0) : iv_I),
  (((15, 1), .iload_n 2, 0, 0, 0) : iv_I),
  (((16, 1), .iastore, 0, 0, 0) : iv_I),
  (((17, 3), .iinc 3 1, 0, 0, 0) : iv_I),
  (((20, 3), .goto (-18), 2, 0, 0) : iv_I),
  (((23, 1), .return_, 0, 0, 0) : iv_I)]
/-- 113: RuleGraph$Store.addObject(I)I -/
def mc_113 : List iv_I := [
  (((0, 1), .aload_n 0, 0, 0, 0) : iv_I),
  (((1, 3), .getfield 9, 11, 0, 189) : iv_I),
  (((4, 2), .bipush 10, 0, 0, 0) : iv_I),
  (((6, 3), .if_icmp .lt 5, 6, 0, 0) : iv_I),
  (((9, 1), .iconst (-1), 0, 0, 0) : iv_I),
  (((10, 1), .ireturn, 0, 0, 0) : iv_I),
  (((11, 1), .aload_n 0, 0, 0, 0) : iv_I),
  (((12, 3), .getfield 15, 11, 1, 190) : iv_I),
  (((15, 1), .aload_n 0, 0, 0, 0) : iv_I),
  (((16, 3), .getfield 9, 11, 0, 189) : iv_I),
  (((19, 1), .iload_n 1, 0, 0, 0) : iv_I),
  (((20, 1), .iastore, 0, 0, 0) : iv_I),
  (((21, 1), .aload_n 0, 0, 0, 0) : iv_I),
  (((22, 1), .dup, 0, 0, 0) : iv_I),
  (((23, 3), .getfield 9, 11, 0, 189) : iv_I),
  (((26, 1), .iconst 1, 0, 0, 0) : iv_I),
  (((27, 1), .iadd, 0, 0, 0) : iv_I),
  (((28, 3), .putfield 9, 11, 0, 189) : iv_I),
  (((31, 1), .aload_n 0, 0, 0, 0) : iv_I),
  (((32, 3), .getfield 9, 11, 0, 189) : iv_I),
  (((35, 1), .iconst 1, 0, 0, 0) : iv_I),
  (((36, 1), .isub, 0, 0, 0) : iv_I),
  (((37, 1), .ireturn, 0, 0, 0) : iv_I)]
/-- 114: RuleGraph$Store.addElement(III)Z -/
def mc_114 : List iv_I := [
  (((0, 1), .aload_n 0, 0, 0, 0) : iv_I),
  (((1, 3), .getfield 21, 11, 2, 193) : iv_I),
  (((4, 1), .iload_n 1, 0, 0, 0) : iv_I),
  (((5, 1), .aaload, 0, 0, 0) : iv_I),
  (((6, 1), .iload_n 2, 0, 0, 0) : iv_I),
  (((7, 1), .iaload, 0, 0, 0) : iv_I),
  (((8, 1), .iconst (-1), 0, 0, 0) : iv_I),
  (((9, 3), .if_icmp .ne 7, 10, 0, 0) : iv_I),
  (((12, 1), .iconst 0, 0, 0, 0) : iv_I),
  (((13, 3), .goto 11, 16, 0, 0) : iv_I),
  (((16, 1), .aload_n 0, 0, 0, 0) : iv_I),
  (((17, 3), .getfield 21, 11, 2, 193) : iv_I),
  (((20, 1), .iload_n 1, 0, 0, 0) : iv_I),
  (((21, 1), .aaload, 0, 0, 0) : iv_I),
  (((22, 1), .iload_n 2, 0, 0, 0) : iv_I),
  (((23, 1), .iaload, 0, 0, 0) : iv_I),
  (((24, 2), .istore 4, 0, 0, 0) : iv_I),
  (((26, 2), .iload 4, 0, 0, 0) : iv_I),
  (((28, 1), .iconst 3, 0, 0, 0) : iv_I),
  (((29, 3), .if_icmp .lt 5, 22, 0, 0) : iv_I),
  (((32, 1), .iconst 0, 0, 0, 0) : iv_I),
  (((33, 1), .ireturn, 0, 0, 0) : iv_I),
  (((34, 1), .aload_n 0, 0, 0, 0) : iv_I),
  (((35, 3), .getfield 24, 11, 3, 196) : iv_I),
  (((38, 1), .iload_n 1, 0, 0, 0) : iv_I),
  (((39, 1), .aaload, 0, 0, 0) : iv_I),
  (((40, 1), .iload_n 2, 0, 0, 0) : iv_I),
  (((41, 1), .iconst 3, 0, 0, 0) : iv_I),
  (((42, 1), .imul, 0, 0, 0) : iv_I),
  (((43, 2), .iload 4, 0, 0, 0) : iv_I),
  (((45, 1), .iadd, 0, 0, 0) : iv_I),
  (((46, 1), .iload_n 3, 0, 0, 0) : iv_I),
  (((47, 1), .iastore, 0, 0, 0) : iv_I),
  (((48, 1), .aload_n 0, 0, 0, 0) : iv_I),
  (((49, 3), .getfield 21, 11, 2, 193) : iv_I),
  (((52, 1), .iload_n 1, 0, 0, 0) : iv_I),
  (((53, 1), .aaload, 0, 0, 0) : iv_I),
  (((54, 1), .iload_n 2, 0, 0, 0) : iv_I),
  (((55, 2), .iload 4, 0, 0, 0) : iv_I),
  (((57, 1), .iconst 1, 0, 0, 0) : iv_I),
  (((58, 1), .iadd, 0, 0, 0) : iv_I),
  (((59, 1), .iastore, 0, 0, 0) : iv_I),
  (((60, 1), .iconst 1, 0, 0, 0) : iv_I),
  (((61, 1), .ireturn, 0, 0, 0) : iv_I)]
/-- 115: RuleGraph$Store.elementAt(III)I -/
def mc_115 : List iv_I := [
  (((0, 1), .aload_n 0, 0, 0, 0) : iv_I),
  (((1, 3), .getfield 24, 11, 3, 196) : iv_I),
  (((4, 1), .iload_n 1, 0, 0, 0) : iv_I),
  (((5, 1), .aaload, 0, 0, 0) : iv_I),
  (((6, 1), .iload_n 2, 0, 0, 0) : iv_I),
  (((7, 1), .iconst 3, 0, 0, 0) : iv_I),
  (((8, 1), .imul, 0, 0, 0) : iv_I),
  (((9, 1), .iload_n 3, 0, 0, 0) : iv_I),
  (((10, 1), .iadd, 0, 0, 0) : iv_I),
  (((11, 1), .iaload, 0, 0, 0) : iv_I),
  (((12, 1), .ireturn, 0, 0, 0) : iv_I)]
def iv_ms : List (Nat × Option FieldType × List iv_I) := [(0, none, []),
  (4, (some .boolean), mc_1),
  (1, none, mc_2),
  (2, (some .int), mc_3),
  (4, (some .int), mc_4),
  (8, (some .int), mc_5),
  (5, (some .boolean), mc_6),
  (3, (some .boolean), mc_7),
  (3, (some .boolean), mc_8),
  (3, (some .boolean), mc_9),
  (3, (some .boolean), mc_10),
  (2, (some .boolean), mc_11),
  (4, (some .boolean), mc_12),
  (2, (some .int), mc_13),
  (4, (some .boolean), mc_14),
  (4, (some .boolean), mc_15),
  (4, (some .boolean), mc_16),
  (6, (some .int), mc_17),
  (4, (some .int), mc_18),
  (1, (some .int), mc_19),
  (1, (some .int), mc_20),
  (3, (some .int), mc_21),
  (3, (some .int), mc_22),
  (3, (some .boolean), mc_23),
  (1, none, mc_24),
  (3, (some .boolean), mc_25),
  (2, (some .int), mc_26),
  (3, (some .int), mc_27),
  (7, (some .int), mc_28),
  (6, (some .boolean), mc_29),
  (3, (some .boolean), mc_30),
  (5, (some .int), mc_31),
  (3, (some .boolean), mc_32),
  (3, (some .boolean), mc_33),
  (3, (some .boolean), mc_34),
  (2, (some .boolean), mc_35),
  (4, (some .boolean), mc_36),
  (2, (some .int), mc_37),
  (5, (some .boolean), mc_38),
  (4, (some .boolean), mc_39),
  (6, (some .boolean), mc_40),
  (4, (some .boolean), mc_41),
  (3, (some .boolean), mc_42),
  (5, (some .boolean), mc_43),
  (5, (some .boolean), mc_44),
  (8, (some .boolean), mc_45),
  (11, (some .boolean), mc_46),
  (10, (some .int), mc_47),
  (5, (some .boolean), mc_48),
  (4, (some .int), mc_49),
  (5, (some .int), mc_50),
  (8, (some .int), mc_51),
  (5, (some .int), mc_52),
  (5, (some .boolean), mc_53),
  (3, (some .boolean), mc_54),
  (7, (some .int), mc_55),
  (6, (some .int), mc_56),
  (5, (some .int), mc_57),
  (1, (some .int), mc_58),
  (1, (some .int), mc_59),
  (3, (some .int), mc_60),
  (2, none, mc_61),
  (3, none, mc_62),
  (4, (some .int), mc_63),
  (6, none, mc_64),
  (4, (some .int), mc_65),
  (4, (some .boolean), mc_66),
  (8, (some .int), mc_67),
  (4, (some .boolean), mc_68),
  (6, (some .int), mc_69),
  (7, (some .int), mc_70),
  (7, (some .int), mc_71),
  (7, (some .int), mc_72),
  (9, (some .int), mc_73),
  (9, (some .int), mc_74),
  (2, none, mc_75),
  (4, (some .boolean), mc_76),
  (4, (some .boolean), mc_77),
  (4, none, mc_78),
  (3, (some .boolean), mc_79),
  (2, (some .boolean), mc_80),
  (2, none, mc_81),
  (2, (some .boolean), mc_82),
  (2, (some .boolean), mc_83),
  (3, (some .boolean), mc_84),
  (4, none, mc_85),
  (5, (some .boolean), mc_86),
  (2, none, mc_87),
  (2, (some .boolean), mc_88),
  (10, (some .boolean), mc_89),
  (2, (some .int), mc_90),
  (4, none, mc_91),
  (3, none, mc_92),
  (2, none, mc_93),
  (2, none, mc_94),
  (2, (some .boolean), mc_95),
  (5, none, mc_96),
  (2, none, mc_97),
  (2, (some .boolean), mc_98),
  (5, (some (.object "RuleGraph$Composition")), mc_99),
  (5, (some .int), mc_100),
  (2, none, mc_101),
  (2, (some .boolean), mc_102),
  (2, (some .boolean), mc_103),
  (2, (some .boolean), mc_104),
  (2, (some .boolean), mc_105),
  (3, (some .boolean), mc_106),
  (4, (some .int), mc_107),
  (3, (some .int), mc_108),
  (5, (some .int), mc_109),
  (1, none, mc_110),
  (2, (some .boolean), mc_111),
  (4, none, mc_112),
  (2, (some .int), mc_113),
  (5, (some .boolean), mc_114),
  (4, (some .int), mc_115)]
def iv_M (x : Nat) : Option (Nat × Option FieldType × List iv_I) := if x < 2 then none else iv_ms[x]?
def iv_ns : List (MethodName × ByteArray) := [(⟨"", "", ""⟩, ⟨#[]⟩),
  (x, code),
  (⟨"RuleGraph", "<init>", "()V"⟩, prog_1_method_1_code),
  (⟨"RuleGraph", "type", "(I)I"⟩, prog_1_method_2_code),
  (⟨"RuleGraph", "field", "(II)I"⟩, prog_1_method_3_code),
  (⟨"RuleGraph", "rule", "(IZIIII)I"⟩, prog_1_method_4_code),
  (⟨"RuleGraph", "part", "(IIII)Z"⟩, prog_1_method_5_code),
  (⟨"RuleGraph", "single", "(IZ)Z"⟩, prog_1_method_6_code),
  (⟨"RuleGraph", "extend", "(II)Z"⟩, prog_1_method_7_code),
  (⟨"RuleGraph", "member", "(II)Z"⟩, prog_1_method_8_code),
  (⟨"RuleGraph", "order", "(II)Z"⟩, prog_1_method_9_code),
  (⟨"RuleGraph", "cascade", "(I)Z"⟩, prog_1_method_10_code),
  (⟨"RuleGraph", "convert", "(III)Z"⟩, prog_1_method_11_code),
  (⟨"RuleGraph", "object", "(I)I"⟩, prog_1_method_12_code),
  (⟨"RuleGraph", "put", "(III)Z"⟩, prog_1_method_13_code),
  (⟨"RuleGraph", "append", "(III)Z"⟩, prog_1_method_14_code),
  (⟨"RuleGraph", "clear", "(IIZ)Z"⟩, prog_1_method_15_code),
  (⟨"RuleGraph", "validate", "(II)I"⟩, prog_1_method_16_code),
  (⟨"RuleGraph", "look", "(III)I"⟩, prog_1_method_17_code),
  (⟨"RuleGraph", "found", "()I"⟩, prog_1_method_18_code),
  (⟨"RuleGraph", "visits", "()I"⟩, prog_1_method_19_code),
  (⟨"RuleGraph", "violation", "(II)I"⟩, prog_1_method_20_code),
  (⟨"RuleGraph", "way", "(II)I"⟩, prog_1_method_21_code),
  (⟨"RuleGraph", "hasField", "(II)Z"⟩, prog_1_method_22_code),
  (⟨"RuleGraphModel", "<init>", "()V"⟩, prog_13_method_1_code),
  (⟨"RuleGraphModel", "in", "(III)Z"⟩, prog_13_method_2_code),
  (⟨"RuleGraphModel", "type", "(I)I"⟩, prog_13_method_3_code),
  (⟨"RuleGraphModel", "field", "(II)I"⟩, prog_13_method_4_code),
  (⟨"RuleGraphModel", "rule", "(IZIIII)I"⟩, prog_13_method_5_code),
  (⟨"RuleGraphModel", "part", "(IIII)Z"⟩, prog_13_method_6_code),
  (⟨"RuleGraphModel", "single", "(IZ)Z"⟩, prog_13_method_7_code),
  (⟨"RuleGraphModel", "closure", "(I)I"⟩, prog_13_method_8_code),
  (⟨"RuleGraphModel", "extend", "(II)Z"⟩, prog_13_method_9_code),
  (⟨"RuleGraphModel", "member", "(II)Z"⟩, prog_13_method_10_code),
  (⟨"RuleGraphModel", "order", "(II)Z"⟩, prog_13_method_11_code),
  (⟨"RuleGraphModel", "cascade", "(I)Z"⟩, prog_13_method_12_code),
  (⟨"RuleGraphModel", "convert", "(III)Z"⟩, prog_13_method_13_code),
  (⟨"RuleGraphModel", "object", "(I)I"⟩, prog_13_method_14_code),
  (⟨"RuleGraphModel", "has", "(II)Z"⟩, prog_13_method_15_code),
  (⟨"RuleGraphModel", "put", "(III)Z"⟩, prog_13_method_16_code),
  (⟨"RuleGraphModel", "append", "(III)Z"⟩, prog_13_method_17_code),
  (⟨"RuleGraphModel", "clear", "(IIZ)Z"⟩, prog_13_method_18_code),
  (⟨"RuleGraphModel", "fitsKind", "(IIZ)Z"⟩, prog_13_method_19_code),
  (⟨"RuleGraphModel", "fits", "(I)Z"⟩, prog_13_method_20_code),
  (⟨"RuleGraphModel", "broken", "(IIIIZ)Z"⟩, prog_13_method_21_code),
  (⟨"RuleGraphModel", "keep", "(IIII)Z"⟩, prog_13_method_22_code),
  (⟨"RuleGraphModel", "looks", "(III)Z"⟩, prog_13_method_23_code),
  (⟨"RuleGraphModel", "rulesOf", "(III)I"⟩, prog_13_method_24_code),
  (⟨"RuleGraphModel", "good", "(I)Z"⟩, prog_13_method_25_code),
  (⟨"RuleGraphModel", "enter", "(II)I"⟩, prog_13_method_26_code),
  (⟨"RuleGraphModel", "begin", "(I)I"⟩, prog_13_method_27_code),
  (⟨"RuleGraphModel", "onwards", "(I)I"⟩, prog_13_method_28_code),
  (⟨"RuleGraphModel", "check", "(II)I"⟩, prog_13_method_29_code),
  (⟨"RuleGraphModel", "comesUpon", "(II)Z"⟩, prog_13_method_30_code),
  (⟨"RuleGraphModel", "cyclic", "(I)Z"⟩, prog_13_method_31_code),
  (⟨"RuleGraphModel", "flat", "(I)I"⟩, prog_13_method_32_code),
  (⟨"RuleGraphModel", "validate", "(II)I"⟩, prog_13_method_33_code),
  (⟨"RuleGraphModel", "look", "(III)I"⟩, prog_13_method_34_code),
  (⟨"RuleGraphModel", "found", "()I"⟩, prog_13_method_35_code),
  (⟨"RuleGraphModel", "visits", "()I"⟩, prog_13_method_36_code),
  (⟨"RuleGraphModel", "violation", "(II)I"⟩, prog_13_method_37_code),
  (⟨"RuleGraphModel", "say", "(I)V"⟩, prog_13_method_38_code),
  (⟨"RuleGraphModel", "sayStep", "(II)V"⟩, prog_13_method_39_code),
  (⟨"RuleGraphModel", "way", "(II)I"⟩, prog_13_method_40_code),
  (⟨"RuleGraph$Checker", "<init>", "(LRuleGraph$Shape;LRuleGraph$Rulebook;LRuleGraph$Groups;LRuleGraph$Store;LRuleGraph$Report;)V"⟩, prog_2_method_1_code),
  (⟨"RuleGraph$Checker", "check", "(II)I"⟩, prog_2_method_2_code),
  (⟨"RuleGraph$Checker", "isOpen", "(II)Z"⟩, prog_2_method_3_code),
  (⟨"RuleGraph$Checker", "goThroughStages", "(II)I"⟩, prog_2_method_4_code),
  (⟨"RuleGraph$Checker", "isGood", "(LRuleGraph$Row;)Z"⟩, prog_2_method_5_code),
  (⟨"RuleGraph$Checker", "goThroughStage", "(II)I"⟩, prog_2_method_6_code),
  (⟨"RuleGraph$Checker", "follow", "(III)I"⟩, prog_2_method_7_code),
  (⟨"RuleGraph$Checker", "goOver", "(IIII)I"⟩, prog_2_method_8_code),
  (⟨"RuleGraph$Checker", "tryRules", "(III)I"⟩, prog_2_method_9_code),
  (⟨"RuleGraph$Checker", "tryRule", "(ILRuleGraph$Rule;I)I"⟩, prog_2_method_10_code),
  (⟨"RuleGraph$Checker", "judge", "(ILRuleGraph$Rule;III)I"⟩, prog_2_method_11_code),
  (⟨"RuleGraph$Composition", "<init>", "(I)V"⟩, prog_3_method_1_code),
  (⟨"RuleGraph$Composition", "addPart", "(III)Z"⟩, prog_3_method_2_code),
  (⟨"RuleGraph$Composition", "fits", "(IZ)Z"⟩, prog_3_method_3_code),
  (⟨"RuleGraph$Demand", "<init>", "(III)V"⟩, prog_4_method_1_code),
  (⟨"RuleGraph$Demand", "fits", "(IZ)Z"⟩, prog_4_method_2_code),
  (⟨"RuleGraph$Demand", "isBrokenBy", "(I)Z"⟩, prog_4_method_3_code),
  (⟨"RuleGraph$Groups", "<init>", "()V"⟩, prog_5_method_1_code),
  (⟨"RuleGraph$Groups", "isGroup", "(I)Z"⟩, prog_5_method_2_code),
  (⟨"RuleGraph$Groups", "isSequence", "(I)Z"⟩, prog_5_method_3_code),
  (⟨"RuleGraph$Groups", "reaches", "(II)Z"⟩, prog_5_method_4_code),
  (⟨"RuleGraph$Groups", "widen", "(II)V"⟩, prog_5_method_5_code),
  (⟨"RuleGraph$Groups", "flatten", "(II)Z"⟩, prog_5_method_6_code),
  (⟨"RuleGraph$Report", "<init>", "()V"⟩, prog_6_method_1_code),
  (⟨"RuleGraph$Report", "holds", "(I)Z"⟩, prog_6_method_2_code),
  (⟨"RuleGraph$Report", "add", "(IIIIII)Z"⟩, prog_6_method_3_code),
  (⟨"RuleGraph$Report", "close", "(I)I"⟩, prog_6_method_4_code),
  (⟨"RuleGraph$Report", "spell", "(I)V"⟩, prog_6_method_5_code),
  (⟨"RuleGraph$Report", "spellStep", "(II)V"⟩, prog_6_method_6_code),
  (⟨"RuleGraph$Report", "write", "(C)V"⟩, prog_6_method_7_code),
  (⟨"RuleGraph$Row", "<init>", "(I)V"⟩, prog_7_method_1_code),
  (⟨"RuleGraph$Row", "add", "(I)Z"⟩, prog_7_method_2_code),
  (⟨"RuleGraph$Rule", "<init>", "(IZLRuleGraph$Composition;I)V"⟩, prog_8_method_1_code),
  (⟨"RuleGraph$Rulebook", "<init>", "()V"⟩, prog_9_method_1_code),
  (⟨"RuleGraph$Rulebook", "isComposition", "(I)Z"⟩, prog_9_method_2_code),
  (⟨"RuleGraph$Rulebook", "alone", "(III)LRuleGraph$Composition;"⟩, prog_9_method_3_code),
  (⟨"RuleGraph$Rulebook", "addRule", "(IZLRuleGraph$Composition;I)I"⟩, prog_9_method_4_code),
  (⟨"RuleGraph$Shape", "<init>", "()V"⟩, prog_10_method_1_code),
  (⟨"RuleGraph$Shape", "isClass", "(I)Z"⟩, prog_10_method_2_code),
  (⟨"RuleGraph$Shape", "isField", "(I)Z"⟩, prog_10_method_3_code),
  (⟨"RuleGraph$Shape", "isList", "(I)Z"⟩, prog_10_method_4_code),
  (⟨"RuleGraph$Shape", "leadsToObjects", "(I)Z"⟩, prog_10_method_5_code),
  (⟨"RuleGraph$Shape", "owns", "(II)Z"⟩, prog_10_method_6_code),
  (⟨"RuleGraph$Shape", "fieldsOf", "(I)I"⟩, prog_10_method_7_code),
  (⟨"RuleGraph$Shape", "addClass", "(I)I"⟩, prog_10_method_8_code),
  (⟨"RuleGraph$Shape", "addField", "(II)I"⟩, prog_10_method_9_code),
  (⟨"RuleGraph$Store", "<init>", "()V"⟩, prog_11_method_1_code),
  (⟨"RuleGraph$Store", "isObject", "(I)Z"⟩, prog_11_method_2_code),
  (⟨"RuleGraph$Store", "startField", "(II)V"⟩, prog_11_method_3_code),
  (⟨"RuleGraph$Store", "addObject", "(I)I"⟩, prog_11_method_4_code),
  (⟨"RuleGraph$Store", "addElement", "(III)Z"⟩, prog_11_method_5_code),
  (⟨"RuleGraph$Store", "elementAt", "(III)I"⟩, prog_11_method_6_code)]
def iv_N (x : Nat) : MethodName × ByteArray := iv_ns.getD x (⟨"", "", ""⟩, ⟨#[]⟩)
def iv_mcl : List Nat := [0, 99, 0, 0, 0, 0, 0, 0, 0, 0, 0, 0, 0, 0, 0, 0, 0, 0, 0, 0, 0, 0, 0, 0, 1, 1, 1, 1, 1, 1, 1, 1, 1, 1, 1, 1, 1, 1, 1, 1, 1, 1, 1, 1, 1, 1, 1, 1, 1, 1, 1, 1, 1, 1, 1, 1, 1, 1, 1, 1, 1, 1, 1, 1, 2, 2, 2, 2, 2, 2, 2, 2, 2, 2, 2, 3, 3, 3, 4, 4, 4, 5, 5, 5, 5, 5, 5, 6, 6, 6, 6, 6, 6, 6, 7, 7, 8, 9, 9, 9, 9, 10, 10, 10, 10, 10, 10, 10, 10, 10, 11, 11, 11, 11, 11, 11]
def iv_mc (x : Nat) : Nat := iv_mcl.getD x 99
def iv_lc : List iv_I := mc_1
def iv_lL : Nat := 4
end
section
/-! A small machine over pictures of the heap: what a method's bytecode does, as a function. A picture names cells 0, 1, 2 ..: 0 is the script, the others are made in their order. -/
abbrev iv_C : Type := Nat × List Value
abbrev iv_S : Type := (Nat → Option iv_C) × Nat × Nat
abbrev iv_R : Type := Option (Option Value × iv_S)
abbrev iv_Q : Type := Nat → List Value → List Value → iv_S → iv_R
def iv_un : Value := .retAddr 0
def iv_isv : Value → Bool
  | .int _ => true
  | .ref _ => true
  | .null => true
  | _ => false
def iv_put (h : Nat → Option iv_C) (a : Nat) (c : iv_C) : Nat → Option iv_C := fun j => if j = a then some c else h j
def iv_cnd (c : Jvm.ClassFile.Cond) (x y : Int32) : Bool := match c with
  | .eq => decide (x = y)
  | .ne => decide (¬ x = y)
  | .lt => decide (x < y)
  | .ge => decide (y ≤ x)
  | .gt => decide (y < x)
  | .le => decide (x ≤ y)
def iv_fit : FieldType → Value → Bool
  | .int, .int _ => true
  | .boolean, .int x => x == 0 || x == 1
  | .object _, .ref _ => true
  | .object _, .null => true
  | .array _, .ref _ => true
  | .array _, .null => true
  | _, _ => false
def iv_p1 (st : List Value) (q : Int32 → List Value → iv_R) : iv_R := match st with
  | .int x :: st' => q x st'
  | _ => none
def iv_p2 (st : List Value) (q : Int32 → Int32 → List Value → iv_R) : iv_R := match st with
  | .int y :: .int x :: st' => q x y st'
  | _ => none
def iv_ldi (L : List Value) (i : Nat) (q : Int32 → iv_R) : iv_R := match L[i]? with
  | some (.int x) => q x
  | _ => none
def iv_lda (L : List Value) (i : Nat) (q : Value → iv_R) : iv_R := match L[i]? with
  | some (.ref a) => q (.ref a)
  | some .null => q .null
  | _ => none
def iv_sto (L : List Value) (i : Nat) (v : Value) (q : List Value → iv_R) : iv_R := if i < L.length then q (L.set i v) else none
def iv_gf (w : iv_S) (st : List Value) (x y : Nat) (q : Value → List Value → iv_R) : iv_R := match st with
  | .ref a :: st' => match w.1 a with
    | some (t, fs) => if t = x then (match fs[y]? with
      | some v => q v st'
      | none => none) else none
    | none => none
  | _ => none
def iv_pf (w : iv_S) (st : List Value) (x y : Nat) (q : List Value → iv_S → iv_R) : iv_R := match st with
  | v :: .ref a :: st' => match w.1 a with
    | some (t, fs) => if t = x then (if y < fs.length then (if iv_fit (iv_ft x y) v = true then q st' (iv_put w.1 a (t, fs.set y v), w.2) else none) else none) else none
    | none => none
  | _ => none
/-- an element, of an array whose elements are of the kind p -/
def iv_ald (w : iv_S) (st : List Value) (p : FieldType → Bool) (q : Value → List Value → iv_R) : iv_R := match st with
  | .int j :: .ref a :: st' => match w.1 a with
    | some (t, vs) => match iv_ar t with
      | some ty => if p ty = true then (if j < 0 then none else match vs[j.toNatClampNeg]? with
        | some v => q v st'
        | none => none) else none
      | none => none
    | none => none
  | _ => none
def iv_ast (w : iv_S) (st : List Value) (p : FieldType → Bool) (q : List Value → iv_S → iv_R) : iv_R := match st with
  | .int x :: .int j :: .ref a :: st' => match w.1 a with
    | some (t, vs) => match iv_ar t with
      | some ty => if p ty = true then (if t = 150 then none else if j < 0 then none else if j.toNatClampNeg < vs.length then q st' (iv_put w.1 a (t, vs.set j.toNatClampNeg (narrow ty (.int x))), w.2) else none) else none
      | none => none
    | none => none
  | _ => none
def iv_ust (w : iv_S) (st : List Value) (q : List Value → iv_S → iv_R) : iv_R := match st with
  | .ref b :: .int j :: .ref a :: st' => match w.1 a, w.1 b with
    | some (t, vs), some (t', _) => if iv_ac t = some t' then (if j < 0 then none else if j.toNatClampNeg < vs.length then q st' (iv_put w.1 a (t, vs.set j.toNatClampNeg (.ref b)), w.2) else none) else none
    | _, _ => none
  | _ => none
def iv_len (w : iv_S) (st : List Value) (q : Int32 → List Value → iv_R) : iv_R := match st with
  | .ref a :: st' => match w.1 a with
    | some (t, vs) => match iv_ar t with
      | some _ => q (Int32.ofNat vs.length) st'
      | none => none
    | none => none
  | _ => none
def iv_nw (w : iv_S) (x : Nat) (q : Value → iv_S → iv_R) : iv_R := match iv_df x with
  | some fs => q (.ref (w.2.1 + 1)) (iv_put w.1 (w.2.1 + 1) (x, fs), w.2.1 + 1, w.2.2 + fs.length)
  | none => none
/-- a new array of the kind x, of n elements -/
def iv_na (w : iv_S) (x : Nat) (v : Value) (n : Int32) (q : Value → iv_S → iv_R) : iv_R :=
  if n < 0 then none else if n.toNatClampNeg ≤ 10000 then q (.ref (w.2.1 + 1)) (iv_put w.1 (w.2.1 + 1) (x, List.replicate n.toNatClampNeg v), w.2.1 + 1, w.2.2 + n.toNatClampNeg) else none
/-- a grid: an array of the kind x, of n arrays of the kind y, of k elements each -/
def iv_nm (w : iv_S) (x y : Nat) (v : Value) (n k : Int32) (q : Value → iv_S → iv_R) : iv_R :=
  if n < 0 then none else if k < 0 then none else if n.toNatClampNeg ≤ 10000 then (if k.toNatClampNeg ≤ 10000 then
    q (.ref (w.2.1 + 1)) (fun j => if j = w.2.1 + 1 then some (x, (List.range n.toNatClampNeg).map fun i => .ref (w.2.1 + 2 + i)) else if w.2.1 + 1 < j ∧ j ≤ w.2.1 + 1 + n.toNatClampNeg then some (y, List.replicate k.toNatClampNeg v) else w.1 j,
      w.2.1 + 1 + n.toNatClampNeg, w.2.2 + (n.toNatClampNeg + n.toNatClampNeg * k.toNatClampNeg)) else none) else none
def iv_sw (code : List iv_I) (t : Int) (q : Nat → iv_R) : iv_R := match code.findIdx? (fun J => decide ((J.1.1 : Int) = t)) with
  | some j => q j
  | none => none
/-- the receiver is an object of the class number t -/
def iv_rc (w : iv_S) (as : List Value) (t : Nat) : Bool := match as with
  | .ref b :: _ => match w.1 b with
    | some (t', _) => decide (t' = t)
    | none => false
  | _ => false
def iv_isr (as : List Value) : Bool := match as with
  | .ref _ :: _ => true
  | _ => false
def iv_inv (call : Nat → List Value → iv_S → iv_R) (x y : Nat) (ok : List Value → Bool) (st : List Value) (w : iv_S) (q : List Value → iv_S → iv_R) : iv_R :=
  if y ≤ st.length then (if (st.drop y).length ≤ 8 then (if (st.drop y).all iv_isv = true then (if ok (st.take y).reverse = true then (match call x (st.take y).reverse w with
    | some (v, w') => q (v.toList ++ st.drop y) w'
    | none => none) else none) else none) else none) else none
def iv_oi (st : List Value) (q : List Value → iv_R) : iv_R := match st with
  | .ref _ :: st' => if st'.length ≤ 8 then (if st'.all iv_isv = true then q st' else none) else none
  | _ => none
def iv_isI (t : FieldType) : Bool := match t with
  | .int => true
  | _ => false
def iv_isZ (t : FieldType) : Bool := match t with
  | .boolean => true
  | _ => false
def iv_isC (t : FieldType) : Bool := match t with
  | .char => true
  | _ => false
def iv_isA (t : FieldType) : Bool := match t with
  | .object _ => true
  | .array _ => true
  | _ => false
def iv_ret (rt : Option FieldType) (st : List Value) (w : iv_S) : iv_R := match rt, st with
  | some ty, [.int x] => if iv_fit ty (.int x) = true then some (some (.int x), w) else none
  | _, _ => none
def iv_rea (rt : Option FieldType) (st : List Value) (w : iv_S) : iv_R := match rt, st with
  | some ty, [v] => if iv_isA ty = true then (if iv_fit ty v = true then some (some v, w) else none) else none
  | _, _ => none
def iv_rev (rt : Option FieldType) (st : List Value) (w : iv_S) : iv_R := match rt, st with
  | none, [] => some (none, w)
  | _, _ => none
def iv_go (call : Nat → List Value → iv_S → iv_R) (code : List iv_I) (rt : Option FieldType) (K : iv_Q) (I : iv_I) (k : Nat) (L st : List Value) (w : iv_S) : iv_R :=
  match I.2.1 with
  | .iconst n => K (k + 1) L (.int (Int32.ofInt n) :: st) w
  | .bipush n => K (k + 1) L (.int (Int8.ofInt n).toInt32 :: st) w
  | .sipush n => K (k + 1) L (.int (Int16.ofInt n).toInt32 :: st) w
  | .ldc _ => K (k + 1) L (.int (Int32.ofNat I.2.2.1) :: st) w
  | .aconst_null => K (k + 1) L (.null :: st) w
  | .iload i => iv_ldi L i fun x => K (k + 1) L (.int x :: st) w
  | .iload_n i => iv_ldi L i.val fun x => K (k + 1) L (.int x :: st) w
  | .aload i => iv_lda L i fun v => K (k + 1) L (v :: st) w
  | .aload_n i => iv_lda L i.val fun v => K (k + 1) L (v :: st) w
  | .istore i => iv_p1 st fun x st' => iv_sto L i (.int x) fun L' => K (k + 1) L' st' w
  | .istore_n i => iv_p1 st fun x st' => iv_sto L i.val (.int x) fun L' => K (k + 1) L' st' w
  | .astore i => match st with
    | .ref a :: st' => iv_sto L i (.ref a) fun L' => K (k + 1) L' st' w
    | _ => none
  | .astore_n i => match st with
    | .ref a :: st' => iv_sto L i.val (.ref a) fun L' => K (k + 1) L' st' w
    | _ => none
  | .iinc i n => iv_ldi L i fun x => iv_sto L i (.int (x + Int32.ofInt n)) fun L' => K (k + 1) L' st w
  | .iadd => iv_p2 st fun x y st' => K (k + 1) L (.int (x + y) :: st') w
  | .isub => iv_p2 st fun x y st' => K (k + 1) L (.int (x - y) :: st') w
  | .imul => iv_p2 st fun x y st' => K (k + 1) L (.int (x * y) :: st') w
  | .iand => iv_p2 st fun x y st' => K (k + 1) L (.int (x &&& y) :: st') w
  | .ior => iv_p2 st fun x y st' => K (k + 1) L (.int (x ||| y) :: st') w
  | .ixor => iv_p2 st fun x y st' => K (k + 1) L (.int (x ^^^ y) :: st') w
  | .ishl => iv_p2 st fun x y st' => K (k + 1) L (.int (x <<< (y &&& 31)) :: st') w
  | .ishr => iv_p2 st fun x y st' => K (k + 1) L (.int (x >>> (y &&& 31)) :: st') w
  | .idiv => iv_p2 st fun x y st' => if y = 0 then none else K (k + 1) L (.int (x / y) :: st') w
  | .irem => iv_p2 st fun x y st' => if y = 0 then none else K (k + 1) L (.int (x - x / y * y) :: st') w
  | .ineg => iv_p1 st fun x st' => K (k + 1) L (.int (-x) :: st') w
  | .i2c => iv_p1 st fun x st' => K (k + 1) L (.int (x.toUInt32 % 65536).toInt32 :: st') w
  | .dup => match st with
    | a :: st' => if iv_isv a = true then K (k + 1) L (a :: a :: st') w else none
    | _ => none
  | .dup_x1 => match st with
    | a :: b :: st' => if iv_isv a = true then (if iv_isv b = true then K (k + 1) L (a :: b :: a :: st') w else none) else none
    | _ => none
  | .dup2 => match st with
    | a :: b :: st' => if iv_isv a = true then (if iv_isv b = true then K (k + 1) L (a :: b :: a :: b :: st') w else none) else none
    | _ => none
  | .pop => match st with
    | a :: st' => if iv_isv a = true then K (k + 1) L st' w else none
    | _ => none
  | .ifCond c _ => iv_p1 st fun x st' => if iv_cnd c x 0 = true then K I.2.2.1 L st' w else K (k + 1) L st' w
  | .if_icmp c _ => iv_p2 st fun x y st' => if iv_cnd c x y = true then K I.2.2.1 L st' w else K (k + 1) L st' w
  | .ifnull _ => match st with
    | .ref _ :: st' => K (k + 1) L st' w
    | .null :: st' => K I.2.2.1 L st' w
    | _ => none
  | .ifnonnull _ => match st with
    | .ref _ :: st' => K I.2.2.1 L st' w
    | .null :: st' => K (k + 1) L st' w
    | _ => none
  | .goto _ => K I.2.2.1 L st w
  | .getfield _ => iv_gf w st I.2.2.1 I.2.2.2.1 fun v st' => K (k + 1) L (v :: st') w
  | .putfield _ => iv_pf w st I.2.2.1 I.2.2.2.1 fun st' w' => K (k + 1) L st' w'
  | .iaload => iv_ald w st iv_isI fun v st' => K (k + 1) L (v :: st') w
  | .baload => iv_ald w st iv_isZ fun v st' => K (k + 1) L (v :: st') w
  | .caload => iv_ald w st iv_isC fun v st' => K (k + 1) L (v :: st') w
  | .aaload => iv_ald w st iv_isA fun v st' => K (k + 1) L (v :: st') w
  | .iastore => iv_ast w st iv_isI fun st' w' => K (k + 1) L st' w'
  | .bastore => iv_ast w st iv_isZ fun st' w' => K (k + 1) L st' w'
  | .castore => iv_ast w st iv_isC fun st' w' => K (k + 1) L st' w'
  | .aastore => iv_ust w st fun st' w' => K (k + 1) L st' w'
  | .arraylength => iv_len w st fun x st' => K (k + 1) L (.int x :: st') w
  | .new _ => iv_nw w I.2.2.1 fun v w' => K (k + 1) L (v :: st) w'
  | .newarray t => iv_p1 st fun n st' => iv_na w I.2.2.1 (defaultValue (newarray.typeOf t)) n fun v w' => K (k + 1) L (v :: st') w'
  | .anewarray _ => iv_p1 st fun n st' => iv_na w I.2.2.1 .null n fun v w' => K (k + 1) L (v :: st') w'
  | .multianewarray _ _ => iv_p2 st fun n m st' => iv_nm w I.2.2.1 I.2.2.2.1 (.int 0) n m fun v w' => K (k + 1) L (v :: st') w'
  | .tableswitch d lo hi offs => iv_p1 st fun x st' => if x.toInt < lo ∨ hi < x.toInt then iv_sw code ((I.1.1 : Int) + d) fun j => K j L st' w else
      match offs[(x.toInt - lo).toNat]? with
      | some o => iv_sw code ((I.1.1 : Int) + o) fun j => K j L st' w
      | none => none
  | .lookupswitch d ps => iv_p1 st fun x st' => iv_sw code ((I.1.1 : Int) + Op.lookupswitch.offset ps.toList d x.toInt) fun j => K j L st' w
  | .invokevirtual _ => iv_inv call I.2.2.1 I.2.2.2.1 (fun as => iv_rc w as (iv_mc I.2.2.1)) st w fun st' w' => K (k + 1) L st' w'
  | .invokespecial _ => if I.2.2.1 = 0 then iv_oi st fun st' => K (k + 1) L st' w else iv_inv call I.2.2.1 I.2.2.2.1 iv_isr st w fun st' w' => K (k + 1) L st' w'
  | .invokestatic _ => iv_inv call I.2.2.1 I.2.2.2.1 (fun _ => true) st w fun st' w' => K (k + 1) L st' w'
  | .ireturn => iv_ret rt st w
  | .areturn => iv_rea rt st w
  | .return_ => iv_rev rt st w
  | _ => none
def iv_run (call : Nat → List Value → iv_S → iv_R) (code : List iv_I) (rt : Option FieldType) (n : Nat) : iv_Q :=
  Nat.rec (fun _ _ _ _ => none) (fun _ ih k L st w => match code[k]? with
    | some I => iv_go call code rt ih I k L st w
    | none => none) n
def iv_call (F d : Nat) : Nat → List Value → iv_S → iv_R :=
  Nat.rec (fun _ _ _ => none) (fun _ ih x as w => match iv_M x with
    | some (mL, rt, code) => if as.length ≤ mL then (if as.all iv_isv = true then iv_run ih code rt F 0 (as ++ List.replicate (mL - as.length) iv_un) [] w else none) else none
    | none => none) d
theorem iv_run_0 (call : Nat → List Value → iv_S → iv_R) (code : List iv_I) (rt : Option FieldType) (k : Nat) (L st : List Value) (w : iv_S) : iv_run call code rt 0 k L st w = none := rfl
theorem iv_run_s (call : Nat → List Value → iv_S → iv_R) (code : List iv_I) (rt : Option FieldType) (n k : Nat) (L st : List Value) (w : iv_S) : iv_run call code rt (n + 1) k L st w = match code[k]? with
    | some I => iv_go call code rt (iv_run call code rt n) I k L st w
    | none => none := rfl
theorem iv_call_0 (F x : Nat) (as : List Value) (w : iv_S) : iv_call F 0 x as w = none := rfl
theorem iv_call_s (F d x : Nat) (as : List Value) (w : iv_S) : iv_call F (d + 1) x as w = match iv_M x with
    | some (mL, rt, code) => if as.length ≤ mL then (if as.all iv_isv = true then iv_run (iv_call F d) code rt F 0 (as ++ List.replicate (mL - as.length) iv_un) [] w else none) else none
    | none => none := rfl
end
section
/-! what the pictures say of the machine's heap -/
def iv_mv (r : Nat → Nat) : Value → Value
  | .ref k => .ref (r k)
  | v => v
/-- the addresses: 0 is the script at b, the others lie from z on -/
def iv_r (b z : Nat) : Nat → Nat
  | 0 => b
  | k + 1 => z + k
theorem iv_r_inj {b z : Nat} (h : b < z) {i j : Nat} (e : iv_r b z i = iv_r b z j) : i = j := by
  cases i with
  | zero => cases j with
    | zero => rfl
    | succ j => simp only [iv_r] at e; omega
  | succ i => cases j with
    | zero => simp only [iv_r] at e; omega
    | succ j => simp only [iv_r] at e; omega
theorem iv_r_lo {b z k : Nat} (h : k ≠ 0) : z ≤ iv_r b z k := by
  cases k with
  | zero => exact absurd rfl h
  | succ k => simp only [iv_r]; omega
def iv_stab (w : Cond) : Bool := (w.onTables && w.keepsH) || (match w with
  | .arrayClass _ => true
  | .arrayOver (.object _) => true
  | .arrayOver (.array _) => true
  | _ => false)
/-- the words of the tables that stay, and the classes' numbers and slots -/
def iv_Kw (D : va_G) (U : State) : Prop := (∀ (i : Nat) (q : vw_C), iv_cl[i]? = some q → u_Kn U q.1 q.2.1 q.2.2 (D.1 i) (D.2 i)) ∧ ∀ w ∈ lw_tbl, iv_stab w = true → w.before #[] U = true
theorem iv_over {t : FieldType} (ht : (∃ C, t = .object C) ∨ ∃ u, t = .array u) {A A' : Array Value} {s U : State} (hvm : s.vm.Alike U.vm) (h : (Cond.arrayOver t).before A s = true) : (Cond.arrayOver t).before A' U = true := by
  rcases ht with ⟨C, rfl⟩ | ⟨u, rfl⟩
  · exact va_AO.use (va_AO.moved hvm (va_AO.of h))
  · obtain ⟨comp, c, k, h1, h2, h3, h4, h5⟩ := arrayOverA_spec h
    obtain ⟨k', hk', he⟩ := hvm.2.2 _ _ h3
    have hi : (U.vm.classes.findIdx? fun (x : Class) => match x.kind with | .array component _ => component == comp | _ => false) = some c := by
      rw [hvm.findIdx?_eq _ (fun _ => rfl)]
      exact h2
    have hkind : k'.kind = .array comp (.array u) := by rw [he]; exact h4
    have f1 : U.vm.findClass (FieldType.array u).toString = some comp := by rw [hvm.findClass]; exact h1
    have f2 : U.vm.findClass ("[" ++ (FieldType.array u).toString) = some c := by rw [hvm.findClass]; exact h5
    unfold Cond.before Cond.holds
    simp only [Cond.value]
    rw [f1, Option.bind_some]
    refine (congrArg (fun o : Option Nat => (o.bind (fun c => (U.vm.classes[c]?).map fun (k : Class) => match k.kind with | .array _ ty => decide (ty = FieldType.array u) && decide (U.vm.findClass ("[" ++ (FieldType.array u).toString) = some c) | _ => false) == some true)) hi).trans ?_
    simp [hk', hkind, f2]
theorem iv_stay {w : Cond} (hs : iv_stab w = true) {A A' : Array Value} {s U : State} (hW : s.WarmedH U.vm) (h : w.before A s = true) : w.before A' U = true := by
  unfold iv_stab at hs
  rcases Bool.or_eq_true_iff.mp hs with h1 | h1
  · simp only [Bool.and_eq_true] at h1
    have h2 := Cond.onTables_warmH (T := U) (args' := A') hW h1.1 h1.2 h
    rwa [State.setVm_self] at h2
  · split at h1
    · exact word_at hW (Or.inr ⟨_, rfl⟩) h
    · exact iv_over (Or.inl ⟨_, rfl⟩) hW.alike h
    · exact iv_over (Or.inr ⟨_, rfl⟩) hW.alike h
    · cases h1
theorem iv_Kw.use {D : va_G} {U : State} (h : iv_Kw D U) {w : Cond} (hw : w ∈ lw_tbl) (hs : iv_stab w = true) {A : Array Value} : w.before A U = true := iv_stay hs (State.WarmedH.refl U) (h.2 w hw hs)
theorem iv_Kw.at {D : va_G} {U : State} (h : iv_Kw D U) {w : Cond} {i : Nat} (hw : lw_tbl[i]? = some w) (hs : iv_stab w = true) {A : Array Value} : w.before A U = true := h.use (List.mem_of_getElem? hw) hs
theorem iv_Kw.moved {D : va_G} {s U : State} (hW : s.WarmedH U.vm) (h : iv_Kw D s) : iv_Kw D U := ⟨fun i q hq => u_Kn_moved hW.alike (h.1 i q hq), fun w hw hs => iv_stay hs hW (h.2 w hw hs)⟩
/-- the cell at the address a is what the picture says -/
def iv_at (D : va_G) (r : Nat → Nat) (s : State) (H : Heap) (a : Nat) (x : iv_C) : Prop :=
  (∃ q : vw_C, iv_cl[x.1]? = some q ∧ x.2.length = q.2.2 ∧ t_OB a (D.1 x.1) q.2.2 (D.2 x.1) H (vp_V (x.2.map (iv_mv r)))) ∨
  (∃ (ty : FieldType) (cell : Cell), iv_ar x.1 = some ty ∧ H[a]? = some cell ∧ s.isArrayOf cell ty ∧ cell.vm ≠ .unknown ∧ cell.slots = (x.2.map (iv_mv r)).toArray ∧ (iv_isA ty = true → va_RA s cell.cls ty))
def iv_rep (D : va_G) (b z : Nat) (s : State) (w : iv_S) (H : Heap) : Prop := H.size = z + w.2.1 ∧ ∀ (k : Nat) (x : iv_C), w.1 k = some x → iv_at D (iv_r b z) s H (iv_r b z k) x ∧ (x.1 ≠ 150 → k ≠ 0)
theorem iv_at.kept {D : va_G} {r : Nat → Nat} {s : State} {H H1 : Heap} {a : Nat} {x : iv_C} (h : iv_at D r s H a x) (e : H1[a]? = H[a]?) : iv_at D r s H1 a x := by
  rcases h with ⟨q, h1, h2, h3⟩ | ⟨ty, cell, h1, h2, h3⟩
  · exact Or.inl ⟨q, h1, h2, h3.kept e⟩
  · exact Or.inr ⟨ty, cell, h1, e.trans h2, h3⟩
theorem iv_at.moved {D : va_G} {r : Nat → Nat} {s U : State} {H : Heap} {a : Nat} {x : iv_C} (hv : s.vm.Alike U.vm) (h : iv_at D r s H a x) : iv_at D r U H a x := by
  rcases h with h | ⟨ty, cell, h1, h2, h3, h4, h5, h6⟩
  · exact Or.inl h
  · exact Or.inr ⟨ty, cell, h1, h2, State.isArrayOf_alike hv h3, h4, h5, fun q => (h6 q).moved hv⟩
theorem iv_at.lt {D : va_G} {r : Nat → Nat} {s : State} {H : Heap} {a : Nat} {x : iv_C} (h : iv_at D r s H a x) : a < H.size := by
  rcases h with ⟨q, h1, h2, cell, h3, -⟩ | ⟨ty, cell, h1, h2, -⟩
  · exact (Array.getElem?_eq_some_iff.mp h3).1
  · exact (Array.getElem?_eq_some_iff.mp h2).1
theorem iv_rep.moved {D : va_G} {b z : Nat} {s U : State} {w : iv_S} {H : Heap} (hv : s.vm.Alike U.vm) (h : iv_rep D b z s w H) : iv_rep D b z U w H := ⟨h.1, fun k x hk => ⟨(h.2 k x hk).1.moved hv, (h.2 k x hk).2⟩⟩
theorem iv_rep.put {D : va_G} {b z : Nat} {s : State} {w : iv_S} {H H1 : Heap} {a : Nat} {x0 x : iv_C} (hb : b < z) (h : iv_rep D b z s w H) (ha : w.1 a = some x0) (h0 : x0.1 ≠ 150) (hx : iv_at D (iv_r b z) s H1 (iv_r b z a) x) (e1 : H1.size = H.size) (e2 : ∀ q : Nat, q ≠ iv_r b z a → H1[q]? = H[q]?) : iv_rep D b z s (iv_put w.1 a x, w.2) H1 := by
  refine ⟨e1.trans h.1, fun k y hk => ?_⟩
  by_cases hka : k = a
  · subst hka
    simp only [iv_put, if_true] at hk
    cases hk
    exact ⟨hx, fun _ => (h.2 k x0 ha).2 h0⟩
  · simp only [iv_put, if_neg hka] at hk
    exact ⟨(h.2 k y hk).1.kept (e2 _ (fun q => hka (iv_r_inj hb q))), (h.2 k y hk).2⟩
theorem iv_rep.push {D : va_G} {b z : Nat} {s : State} {w : iv_S} {H H1 : Heap} {x : iv_C} {n : Nat} (h : iv_rep D b z s w H) (hx : iv_at D (iv_r b z) s H1 (z + w.2.1) x) (e1 : H1.size = H.size + 1) (e2 : ∀ q : Nat, q < H.size → H1[q]? = H[q]?) : iv_rep D b z s (iv_put w.1 (w.2.1 + 1) x, w.2.1 + 1, n) H1 := by
  refine ⟨by rw [e1, h.1]; rfl, fun k y hk => ?_⟩
  by_cases hka : k = w.2.1 + 1
  · subst hka
    simp only [iv_put, if_true] at hk
    cases hk
    exact ⟨hx, fun _ => by omega⟩
  · simp only [iv_put, if_neg hka] at hk
    exact ⟨(h.2 k y hk).1.kept (e2 _ (h.2 k y hk).1.lt), (h.2 k y hk).2⟩
/-- the locals -/
def iv_fr (r : Nat → Nat) (nL : Nat) (L : List Value) (ls : Array Slot) : Prop := L.length = nL ∧ ∃ lv, lv_has ls nL lv ∧ ∀ (i : Nat) (v : Value), L[i]? = some v → iv_isv v = true → (i, iv_mv r v) ∈ lv
theorem iv_fr.get {r : Nat → Nat} {nL : Nat} {L : List Value} {ls : Array Slot} (h : iv_fr r nL L ls) {i : Nat} {v : Value} (hv : L[i]? = some v) (hi : iv_isv v = true) : ls[i]? = some (.val (iv_mv r v)) := by
  obtain ⟨-, lv, h1, h2⟩ := h
  exact h1.2.2 _ (h2 i v hv hi)
theorem iv_cat {r : Nat → Nat} {v : Value} (h : iv_isv v = true) : (iv_mv r v).category = 1 := by
  cases v <;> first | rfl | cases h
theorem iv_fr.set {r : Nat → Nat} {nL : Nat} {L : List Value} {ls' : Array Slot} {lv : List (Nat × Value)} {i : Nat} {v : Value} (hn : L.length = nL) (h2 : ∀ (i : Nat) (v : Value), L[i]? = some v → iv_isv v = true → (i, iv_mv r v) ∈ lv) (hl : lv_has ls' nL ((i, iv_mv r v) :: lv.filter (fun q => !(q.1 == i) && !(q.1 + 1 == i && q.2.category == 2)))) : iv_fr r nL (L.set i v) ls' := by
  refine ⟨by rw [List.length_set]; exact hn, _, hl, fun j u hj hu => ?_⟩
  by_cases hji : j = i
  · subst hji
    rw [List.getElem?_set] at hj
    simp only [if_true] at hj
    split at hj
    · cases hj; exact List.mem_cons_self
    · cases hj
  · rw [List.getElem?_set_ne (Ne.symm hji)] at hj
    refine List.mem_cons_of_mem _ (List.mem_filter.mpr ⟨h2 j u hj hu, ?_⟩)
    simp [hji, iv_cat hu]
theorem iv_args_mem {r : Nat → Nat} : ∀ (as : List Value) (n i : Nat) (v : Value), as.all iv_isv = true → as[i]? = some v → (n + i, iv_mv r v) ∈ lv_args n (as.map (iv_mv r))
  | [], n, i, v, _, h => by simp at h
  | a :: as, n, i, v, ha, h => by
    simp only [List.all_cons, Bool.and_eq_true] at ha
    have hc : (iv_mv r a).category = 1 := iv_cat ha.1
    simp only [List.map_cons, lv_args, hc]
    cases i with
    | zero =>
      simp only [List.getElem?_cons_zero] at h
      cases h
      exact List.mem_cons_self
    | succ i =>
      simp only [List.getElem?_cons_succ] at h
      have h3 := iv_args_mem (r := r) as (n + 1) i v ha.2 h
      rw [show n + 1 + i = n + (i + 1) by omega] at h3
      exact List.mem_cons_of_mem _ (by simpa using h3)
theorem iv_sl_len {r : Nat → Nat} : ∀ (as : List Value), as.all iv_isv = true → (lg_sl (as.map (iv_mv r))).length = as.length
  | [], _ => rfl
  | a :: as, ha => by
    simp only [List.all_cons, Bool.and_eq_true] at ha
    have hc : (iv_mv r a).category = 1 := iv_cat ha.1
    have h3 := iv_sl_len (r := r) as ha.2
    simp only [lg_sl, List.map_cons, List.flatMap_cons, hc, List.length_append, List.length_cons] at h3 ⊢
    simp at h3 ⊢
    omega
theorem iv_entry {r : Nat → Nat} {as : List Value} {nL : Nat} (ha : as.all iv_isv = true) (hn : as.length ≤ nL) : iv_fr r nL (as ++ List.replicate (nL - as.length) iv_un) ((lg_sl (as.map (iv_mv r)) ++ List.replicate (nL - (lg_sl (as.map (iv_mv r))).length) Slot.unset).toArray) := by
  refine ⟨by simp; omega, _, lv_entry (as.map (iv_mv r)) (n := nL) (by rw [iv_sl_len as ha]; exact hn), fun i v hv hi => ?_⟩
  by_cases hl : i < as.length
  · rw [List.getElem?_append_left hl] at hv
    have h3 := iv_args_mem (r := r) as 0 i v ha hv
    rwa [Nat.zero_add] at h3
  · rw [List.getElem?_append_right (by omega), List.getElem?_replicate] at hv
    split at hv
    · cases hv; cases hi
    · cases hv
theorem iv_fit_ok {t : FieldType} {r : Nat → Nat} {v : Value} (h : iv_fit t v = true) : narrow t (iv_mv r v) = iv_mv r v ∧ fits t (iv_mv r v) = true := by
  unfold iv_fit at h
  split at h
  · exact ⟨rfl, rfl⟩
  · rename_i x
    simp only [Bool.or_eq_true, beq_iff_eq] at h
    rcases h with rfl | rfl
    · exact ⟨show narrow .boolean (.int 0) = .int 0 from rfl, show fits .boolean (.int 0) = true by decide +kernel⟩
    · exact ⟨show narrow .boolean (.int 1) = .int 1 from rfl, show fits .boolean (.int 1) = true by decide +kernel⟩
  · exact ⟨rfl, rfl⟩
  · exact ⟨rfl, rfl⟩
  · exact ⟨rfl, rfl⟩
  · exact ⟨rfl, rfl⟩
  · cases h
/-- what the classes' table says -/
def iv_ckc (i : Nat) (q : vw_C) : Prop := i < 100 ∧ (∀ w ∈ u_ws q.1 q.2.1 q.2.2, w ∈ lw_tbl ∧ iv_stab w = true) ∧ (∀ k, k < q.2.2 → parseFieldDescriptor (q.2.1 k).2.2.1 = some (iv_ft i k)) ∧ (∀ a, a < q.2.2 → ∀ b, b < q.2.2 → a ≠ b → (q.2.1 a).2.1 ≠ (q.2.1 b).2.1) ∧ Cond.instantiable q.1 q.2.2 ∈ lw_tbl ∧ Cond.initialized q.1 ∈ lw_tbl
/-- what the methods' table says -/
def iv_ckm (x mL : Nat) (rt : Option FieldType) : Prop := Cond.code (iv_N x).1 (iv_N x).2 mL rt ∈ lw_tbl ∧ Cond.initialized (iv_N x).1.cls ∈ lw_tbl ∧ ((iv_N x).1.cls ≠ "java/lang/invoke/MethodHandle" ∧ (iv_N x).1.cls ≠ "java/lang/invoke/VarHandle") ∧ plainName (iv_N x).1.cls = true ∧ mL ≤ 40
def iv_ckv (x : Nat) : Prop := Cond.instanceMethod (iv_N x).1 ∈ lw_tbl ∧ Cond.selects (iv_N x).1.cls (iv_N x).1 (iv_N x).1 ∈ lw_tbl ∧ ∃ q, iv_cl[iv_mc x]? = some q ∧ q.1 = (iv_N x).1.cls
def iv_cki (x : Nat) : Prop := Cond.instanceMethod (iv_N x).1 ∈ lw_tbl ∧ (iv_N x).1.name = "<init>" ∧ ∀ mL rt code, iv_M x = some (mL, rt, code) → rt = none
section IVB
variable {p : Program} {l : Launch} {e : Env} {R : Room} {s : State} {m : MethodId} {args : Array Value} {below : List Frame} {meth : Method} {c : Code} {H : Heap} {locs : List Loc} {cells slots : Nat} {Q : State → Prop}
variable {cc : ByteArray} {pc : Nat} {ls : Array Slot} {rest : List Value} {D : va_G} {own : String}
theorem iv_getf (hexec : p.tables.exec = Jvm.exec) (hb : c.code = cc) (hown : s.vm.findClass own = some m.cls) (hK : iv_Kw D s) {i k index j : Nat} {q : vw_C} (hc : iv_cl[i]? = some q) (hck : iv_ckc i q) (hk : k < q.2.2) (hlink : lw_tbl[j]? = some (.fieldLink own index (q.2.1 k).1 (q.2.1 k).2.1 (q.2.1 k).2.2.1) ∨ ∃ host, lw_tbl[j]? = some (.fieldLinkNest own index (q.2.1 k).1 (q.2.1 k).2.1 (q.2.1 k).2.2.1 host)) {a : Nat} {fs : List Value} {v : Value} (hob : t_OB a (D.1 i) q.2.2 (D.2 i) H (vp_V fs)) (hv : fs[k]? = some v) (hdg : decode cc pc = .ok (.getfield index, 3))
    (kk : W p l e R s m args below meth c H locs cells slots Q (F0 m (pc + 3) ls (v :: rest))) : W p l e R s m args below meth c H locs cells slots Q (F0 m pc ls (.ref a :: rest)) := by
  obtain ⟨C, T, N⟩ := q
  have hts : ∀ w ∈ u_ws C T N, w.before args s = true := fun w hw => hK.use (hck.2.1 w hw).1 (hck.2.1 w hw).2
  have hK' : va_K D iv_cl [] s := ⟨hK.1, fun k q h => by simp at h⟩
  have hP : va_P D iv_cl [(a, .inr (i, fs))] H := fun k x hx => by
    have hz : k < 1 := (List.getElem?_eq_some_iff.mp hx).1
    rw [show k = 0 by omega] at hx
    cases hx
    exact ⟨_, hc, hob⟩
  rcases hlink with h | ⟨host, h⟩
  · exact va_get (D := D) (cl := iv_cl) (tys := []) hexec hb hts (fun w h => h) hown hK' hP 0 rfl hc k hk (hK.at h rfl) (fun _ h => h) hv hdg kk
  · exact va_getN (D := D) (cl := iv_cl) (tys := []) hexec hb hts (fun w h => h) hown hK' hP 0 rfl hc k hk (hK.at h rfl) (fun _ h => h) hv hdg kk
theorem iv_putf (hexec : p.tables.exec = Jvm.exec) (hb : c.code = cc) (hown : s.vm.findClass own = some m.cls) (hK : iv_Kw D s) {i k index j : Nat} {q : vw_C} (hc : iv_cl[i]? = some q) (hck : iv_ckc i q) (hk : k < q.2.2)
    (hlink : (lw_tbl[j]? = some (.fieldLink own index (q.2.1 k).1 (q.2.1 k).2.1 (q.2.1 k).2.2.1) ∧ ((q.2.1 k).2.2.2 = false ∨ ((q.2.1 k).2.2.2 = true ∧ (q.2.1 k).1 = own ∧ meth.name = "<init>"))) ∨ ∃ host, lw_tbl[j]? = some (.fieldLinkNest own index (q.2.1 k).1 (q.2.1 k).2.1 (q.2.1 k).2.2.1 host) ∧ (q.2.1 k).2.2.2 = false)
    {a : Nat} {fs : List Value} {v : Value} (hob : t_OB a (D.1 i) q.2.2 (D.2 i) H (vp_V fs)) (hl : k < fs.length) (hn : narrow (iv_ft i k) v = v) (hfit : fits (iv_ft i k) v = true) (hdg : decode cc pc = .ok (.putfield index, 3))
    (kk : ∀ (H1 : Heap) (x : Nat), t_OB a (D.1 i) q.2.2 (D.2 i) H1 (vp_V (fs.set k v)) → H1.size = H.size → (∀ q : Nat, q ≠ a → H1[q]? = H[q]?) → W p l e R s m args below meth c H1 (locs ++ [⟨a, x⟩]) cells slots Q (F0 m (pc + 3) ls rest)) : W p l e R s m args below meth c H locs cells slots Q (F0 m pc ls (v :: .ref a :: rest)) := by
  obtain ⟨C, T, N⟩ := q
  have hts : ∀ w ∈ u_ws C T N, w.before args s = true := fun w hw => hK.use (hck.2.1 w hw).1 (hck.2.1 w hw).2
  have hK' : va_K D iv_cl [] s := ⟨hK.1, fun k q h => by simp at h⟩
  have hd := hck.2.2.1 k hk
  have hap := va_apart (own := own) hts (fun w h => h) (iv_ft i) hck.2.2.1 hck.2.2.2.1 hK' hc
  obtain ⟨cell, q1, q2, q3, q4⟩ := hob
  obtain ⟨hS, hfc, kC, hkC, hkind⟩ := hK.1 i _ hc
  obtain ⟨cf, kf, fi, f, hi, hsl⟩ := hS k hk
  have hlay := hts _ (u_in_lay hk)
  have hst := (u_facts hfc hkC (u_lays hts (fun w h => h) hk) hi).1
  have hfin : ∀ H' : Heap, H'[a]? = some (cell.setSlot f.slot v) → t_OB a (D.1 i) N (D.2 i) H' (vp_V (fs.set k v)) := fun H' e1 => by
    rw [hsl] at e1
    exact t_OB.to (V := updV (vp_V fs) k v) ⟨_, e1, q2, q3, t_set q4 hap hk v⟩ (fun j _ => vp_updV_set hl v j)
  unfold u_lay at hlay
  rcases hlink with ⟨h, hf | ⟨hf, hde, hin⟩⟩ | ⟨host, h, hf⟩
  · have hf : (T k).2.2.2 = false := hf
    rw [if_neg (by rw [hf]; decide)] at hlay
    have h6 := u_store hfc hkC hkind hlay hi hd hn hfit
    refine W.putK hexec hb (f := f) ⟨hown, hK.at h rfl, ⟨_, _, _, hi⟩, hst⟩ (by rw [q2]; exact h6) q1 q3 (by rw [hsl]; exact k2_hasslot (q4 k hk)) rfl rfl hdg fun H' e1 e2 e3 => ?_
    exact kk H' _ (hfin H' e1) e2 e3
  · have hf : (T k).2.2.2 = true := hf
    have hde : (T k).1 = own := hde
    rw [if_pos hf] at hlay
    have hcf : m.cls = cf := by
      obtain ⟨_, _, c', _, _, _, -, -, hf', -, -, -, hown2, -⟩ := Cond.laysFinal_spec hlay
      have e1 : c' = cf := by have := hi.symm.trans hf'; simp at this; exact this.1.symm
      rw [hde] at hown2
      rw [← e1]; exact Option.some.inj (hown.symm.trans hown2)
    have h6 := u_fits hfc hkC hkind (Or.inr hlay) hi hd hn hfit
    refine W.putFinK hexec hb hown (hK.at h rfl) hi hst hcf hin (by rw [q2]; exact h6) q1 q3 (by rw [hsl]; exact k2_hasslot (q4 k hk)) rfl rfl hdg fun H' e1 e2 e3 => ?_
    exact kk H' _ (hfin H' e1) e2 e3
  · have hf : (T k).2.2.2 = false := hf
    rw [if_neg (by rw [hf]; decide)] at hlay
    have h6 := u_store hfc hkC hkind hlay hi hd hn hfit
    refine va_WputK hexec hb (f := f) hown (hK.at h rfl) hi hst (by rw [q2]; exact h6) q1 q3 (by rw [hsl]; exact k2_hasslot (q4 k hk)) rfl rfl hdg fun H' e1 e2 e3 => ?_
    exact kk H' _ (hfin H' e1) e2 e3
theorem iv_newc (hexec : p.tables.exec = Jvm.exec) (hb : c.code = cc) (hown : s.vm.findClass own = some m.cls) (hK : iv_Kw D s) {i index j : Nat} {q : vw_C} (hc : iv_cl[i]? = some q) (hck : iv_ckc i q) (hlink : lw_tbl[j]? = some (.classLink own index q.1)) {fs : List Value} (hfs : ∀ j, j < q.2.2 → defaultValue (iv_ft i j) = vp_V fs j) (hcells : cells + 1 ≤ R.cells) (hslots : slots + q.2.2 ≤ R.slots) (hdg : decode cc pc = .ok (.new index, 3))
    (kk : ∀ (H1 : Heap), t_OB H.size (D.1 i) q.2.2 (D.2 i) H1 (vp_V fs) → H1.size = H.size + 1 → (∀ q : Nat, q < H.size → H1[q]? = H[q]?) → W p l e R s m args below meth c H1 locs (cells + 1) (slots + q.2.2) Q (F0 m (pc + 3) ls (.ref H.size :: rest))) : W p l e R s m args below meth c H locs cells slots Q (F0 m pc ls rest) := by
  obtain ⟨C, T, N⟩ := q
  have hts : ∀ w ∈ u_ws C T N, w.before args s = true := fun w hw => hK.use (hck.2.1 w hw).1 (hck.2.1 w hw).2
  have hKn := hK.1 i _ hc
  refine W.newcK hexec hb hown (hK.at hlink rfl) (hK.use hck.2.2.2.2.1 rfl) (hK.use hck.2.2.2.2.2 rfl) rfl hdg hcells hslots hKn.2.1 rfl fun H1 kC hkC e1 z1 o1 => ?_
  exact kk H1 ((u_born (iv_ft i) hts (fun w h => h) hKn hkC e1 hck.2.2.1).to hfs) z1 o1
/-- behind a call -/
theorem iv_after {mc ms : Nat} {g : JFrame} {Qa : State → Outcome → State → Prop} {free : Addr → Prop} (hr : va_Run p l e R s m args below meth c H locs cells slots mc ms g rest Qa free)
    (kk : ∀ (v : Option Value) (st₀ t : State) (H1 : Heap) (L : List Loc), Qa st₀ (.returned v) t → t.heap = H1 → s.vm.Alike t.vm → (∀ q ∈ L, free q.base) → W p l e R s m args below meth c H1 (locs ++ L) (cells + mc) (slots + ms) Q { g with pc := g.pc + 3, stack := v.toList ++ rest }) : W p l e R s m args below meth c H locs cells slots Q g := by
  intro T hT X
  obtain ⟨v, st₀, t, T', L, h0, X', hL, e1, e2, hq, st⟩ := hr T hT X
  obtain ⟨t2, a1, b1⟩ := kk v st₀ t T'.heap L hq e1.symm (by rw [← e2]; exact X'.warmed.alike) hL T' rfl X'
  exact ⟨t2, st t2 a1, b1⟩
end IVB
end
section
/-! the tables are what the Statement says -/
theorem ck_ar : ∀ (t : Nat) (ty : FieldType), iv_ar t = some ty → 100 ≤ t := by
  intro t ty h
  unfold iv_ar at h
  split at h <;> first | omega | cases h
theorem ck_150 : ∀ c, iv_ac 150 ≠ some c := by
  intro c h
  cases h
theorem ck_scr : iv_ar 150 = some .int := rfl
set_option maxRecDepth 20000 in
theorem ckc_0 : iv_ckc 0 ("RuleGraph", cl_0, 6) := ⟨by decide, fun w hw => by
    rw [show u_ws "RuleGraph" cl_0 6 = [Cond.laysFinal "RuleGraph" "RuleGraph" "shape" "LRuleGraph$Shape;", Cond.laysFinal "RuleGraph" "RuleGraph" "rulebook" "LRuleGraph$Rulebook;", Cond.laysFinal "RuleGraph" "RuleGraph" "groups" "LRuleGraph$Groups;", Cond.laysFinal "RuleGraph" "RuleGraph" "store" "LRuleGraph$Store;", Cond.laysFinal "RuleGraph" "RuleGraph" "report" "LRuleGraph$Report;", Cond.laysFinal "RuleGraph" "RuleGraph" "checker" "LRuleGraph$Checker;"] by decide +kernel] at hw
    simp only [List.mem_cons, List.not_mem_nil, or_false] at hw
    rcases hw with rfl | rfl | rfl | rfl | rfl | rfl
    · exact ⟨List.mem_of_getElem? (i := 282) (by decide +kernel), rfl⟩
    · exact ⟨List.mem_of_getElem? (i := 284) (by decide +kernel), rfl⟩
    · exact ⟨List.mem_of_getElem? (i := 286) (by decide +kernel), rfl⟩
    · exact ⟨List.mem_of_getElem? (i := 288) (by decide +kernel), rfl⟩
    · exact ⟨List.mem_of_getElem? (i := 290) (by decide +kernel), rfl⟩
    · exact ⟨List.mem_of_getElem? (i := 292) (by decide +kernel), rfl⟩,
    by decide +kernel, by decide +kernel, List.mem_of_getElem? (i := 43) (by decide +kernel), List.mem_of_getElem? (i := 30) (by decide +kernel)⟩
set_option maxRecDepth 20000 in
theorem ckc_1 : iv_ckc 1 ("RuleGraphModel", cl_1, 48) := ⟨by decide, fun w hw => by
    rw [show u_ws "RuleGraphModel" cl_1 48 = [Cond.lays "RuleGraphModel" "RuleGraphModel" "types" "I", Cond.lays "RuleGraphModel" "RuleGraphModel" "parent" "[I", Cond.lays "RuleGraphModel" "RuleGraphModel" "fields" "I", Cond.lays "RuleGraphModel" "RuleGraphModel" "owner" "[I", Cond.lays "RuleGraphModel" "RuleGraphModel" "sort" "[I", Cond.lays "RuleGraphModel" "RuleGraphModel" "cascades" "[Z", Cond.lays "RuleGraphModel" "RuleGraphModel" "turns" "[I", Cond.lays "RuleGraphModel" "RuleGraphModel" "rules" "I", Cond.lays "RuleGraphModel" "RuleGraphModel" "ruleField" "[I", Cond.lays "RuleGraphModel" "RuleGraphModel" "ruleElement" "[Z", Cond.lays "RuleGraphModel" "RuleGraphModel" "ruleKind" "[I", Cond.lays "RuleGraphModel" "RuleGraphModel" "ruleA" "[I", Cond.lays "RuleGraphModel" "RuleGraphModel" "ruleB" "[I", Cond.lays "RuleGraphModel" "RuleGraphModel" "ruleGroups" "[I", Cond.lays "RuleGraphModel" "RuleGraphModel" "parts" "[I", Cond.lays "RuleGraphModel" "RuleGraphModel" "partKind" "[I", Cond.lays "RuleGraphModel" "RuleGraphModel" "partA" "[I", Cond.lays "RuleGraphModel" "RuleGraphModel" "partB" "[I", Cond.lays "RuleGraphModel" "RuleGraphModel" "alone" "[Z", Cond.lays "RuleGraphModel" "RuleGraphModel" "extended" "[I", Cond.lays "RuleGraphModel" "RuleGraphModel" "members" "[I", Cond.lays "RuleGraphModel" "RuleGraphModel" "member" "[I", Cond.lays "RuleGraphModel" "RuleGraphModel" "entries" "[I", Cond.lays "RuleGraphModel" "RuleGraphModel" "entry" "[I", Cond.lays "RuleGraphModel" "RuleGraphModel" "objects" "I", Cond.lays "RuleGraphModel" "RuleGraphModel" "type" "[I", Cond.lays "RuleGraphModel" "RuleGraphModel" "value" "[I", Cond.lays "RuleGraphModel" "RuleGraphModel" "element" "[I", Cond.lays "RuleGraphModel" "RuleGraphModel" "depth" "I", Cond.lays "RuleGraphModel" "RuleGraphModel" "who" "[I", Cond.lays "RuleGraphModel" "RuleGraphModel" "group" "[I", Cond.lays "RuleGraphModel" "RuleGraphModel" "stage" "[I", Cond.lays "RuleGraphModel" "RuleGraphModel" "stageGroup" "[I", Cond.lays "RuleGraphModel" "RuleGraphModel" "onward" "[Z", Cond.lays "RuleGraphModel" "RuleGraphModel" "nextField" "[I", Cond.lays "RuleGraphModel" "RuleGraphModel" "nextPlace" "[I", Cond.lays "RuleGraphModel" "RuleGraphModel" "before" "[I", Cond.lays "RuleGraphModel" "RuleGraphModel" "trailField" "[I", Cond.lays "RuleGraphModel" "RuleGraphModel" "trailPlace" "[I", Cond.lays "RuleGraphModel" "RuleGraphModel" "visits" "I", Cond.lays "RuleGraphModel" "RuleGraphModel" "row" "[I", Cond.lays "RuleGraphModel" "RuleGraphModel" "count" "I", Cond.lays "RuleGraphModel" "RuleGraphModel" "told" "[I", Cond.lays "RuleGraphModel" "RuleGraphModel" "steps" "[I", Cond.lays "RuleGraphModel" "RuleGraphModel" "wayField" "[I", Cond.lays "RuleGraphModel" "RuleGraphModel" "wayPlace" "[I", Cond.lays "RuleGraphModel" "RuleGraphModel" "text" "[I", Cond.lays "RuleGraphModel" "RuleGraphModel" "size" "I"] by decide +kernel] at hw
    simp only [List.mem_cons, List.not_mem_nil, or_false] at hw
    rcases hw with rfl | rfl | rfl | rfl | rfl | rfl | rfl | rfl | rfl | rfl | rfl | rfl | rfl | rfl | rfl | rfl | rfl | rfl | rfl | rfl | rfl | rfl | rfl | rfl | rfl | rfl | rfl | rfl | rfl | rfl | rfl | rfl | rfl | rfl | rfl | rfl | rfl | rfl | rfl | rfl | rfl | rfl | rfl | rfl | rfl | rfl | rfl | rfl
    · exact ⟨List.mem_of_getElem? (i := 647) (by decide +kernel), rfl⟩
    · exact ⟨List.mem_of_getElem? (i := 649) (by decide +kernel), rfl⟩
    · exact ⟨List.mem_of_getElem? (i := 651) (by decide +kernel), rfl⟩
    · exact ⟨List.mem_of_getElem? (i := 653) (by decide +kernel), rfl⟩
    · exact ⟨List.mem_of_getElem? (i := 655) (by decide +kernel), rfl⟩
    · exact ⟨List.mem_of_getElem? (i := 657) (by decide +kernel), rfl⟩
    · exact ⟨List.mem_of_getElem? (i := 659) (by decide +kernel), rfl⟩
    · exact ⟨List.mem_of_getElem? (i := 661) (by decide +kernel), rfl⟩
    · exact ⟨List.mem_of_getElem? (i := 663) (by decide +kernel), rfl⟩
    · exact ⟨List.mem_of_getElem? (i := 665) (by decide +kernel), rfl⟩
    · exact ⟨List.mem_of_getElem? (i := 667) (by decide +kernel), rfl⟩
    · exact ⟨List.mem_of_getElem? (i := 669) (by decide +kernel), rfl⟩
    · exact ⟨List.mem_of_getElem? (i := 671) (by decide +kernel), rfl⟩
    · exact ⟨List.mem_of_getElem? (i := 673) (by decide +kernel), rfl⟩
    · exact ⟨List.mem_of_getElem? (i := 675) (by decide +kernel), rfl⟩
    · exact ⟨List.mem_of_getElem? (i := 677) (by decide +kernel), rfl⟩
    · exact ⟨List.mem_of_getElem? (i := 679) (by decide +kernel), rfl⟩
    · exact ⟨List.mem_of_getElem? (i := 681) (by decide +kernel), rfl⟩
    · exact ⟨List.mem_of_getElem? (i := 683) (by decide +kernel), rfl⟩
    · exact ⟨List.mem_of_getElem? (i := 685) (by decide +kernel), rfl⟩
    · exact ⟨List.mem_of_getElem? (i := 687) (by decide +kernel), rfl⟩
    · exact ⟨List.mem_of_getElem? (i := 689) (by decide +kernel), rfl⟩
    · exact ⟨List.mem_of_getElem? (i := 691) (by decide +kernel), rfl⟩
    · exact ⟨List.mem_of_getElem? (i := 693) (by decide +kernel), rfl⟩
    · exact ⟨List.mem_of_getElem? (i := 695) (by decide +kernel), rfl⟩
    · exact ⟨List.mem_of_getElem? (i := 697) (by decide +kernel), rfl⟩
    · exact ⟨List.mem_of_getElem? (i := 699) (by decide +kernel), rfl⟩
    · exact ⟨List.mem_of_getElem? (i := 701) (by decide +kernel), rfl⟩
    · exact ⟨List.mem_of_getElem? (i := 703) (by decide +kernel), rfl⟩
    · exact ⟨List.mem_of_getElem? (i := 705) (by decide +kernel), rfl⟩
    · exact ⟨List.mem_of_getElem? (i := 707) (by decide +kernel), rfl⟩
    · exact ⟨List.mem_of_getElem? (i := 709) (by decide +kernel), rfl⟩
    · exact ⟨List.mem_of_getElem? (i := 711) (by decide +kernel), rfl⟩
    · exact ⟨List.mem_of_getElem? (i := 713) (by decide +kernel), rfl⟩
    · exact ⟨List.mem_of_getElem? (i := 715) (by decide +kernel), rfl⟩
    · exact ⟨List.mem_of_getElem? (i := 717) (by decide +kernel), rfl⟩
    · exact ⟨List.mem_of_getElem? (i := 719) (by decide +kernel), rfl⟩
    · exact ⟨List.mem_of_getElem? (i := 721) (by decide +kernel), rfl⟩
    · exact ⟨List.mem_of_getElem? (i := 723) (by decide +kernel), rfl⟩
    · exact ⟨List.mem_of_getElem? (i := 725) (by decide +kernel), rfl⟩
    · exact ⟨List.mem_of_getElem? (i := 727) (by decide +kernel), rfl⟩
    · exact ⟨List.mem_of_getElem? (i := 729) (by decide +kernel), rfl⟩
    · exact ⟨List.mem_of_getElem? (i := 731) (by decide +kernel), rfl⟩
    · exact ⟨List.mem_of_getElem? (i := 733) (by decide +kernel), rfl⟩
    · exact ⟨List.mem_of_getElem? (i := 735) (by decide +kernel), rfl⟩
    · exact ⟨List.mem_of_getElem? (i := 737) (by decide +kernel), rfl⟩
    · exact ⟨List.mem_of_getElem? (i := 739) (by decide +kernel), rfl⟩
    · exact ⟨List.mem_of_getElem? (i := 741) (by decide +kernel), rfl⟩,
    by decide +kernel, by decide +kernel, List.mem_of_getElem? (i := 594) (by decide +kernel), List.mem_of_getElem? (i := 39) (by decide +kernel)⟩
set_option maxRecDepth 20000 in
theorem ckc_2 : iv_ckc 2 ("RuleGraph$Checker", cl_2, 9) := ⟨by decide, fun w hw => by
    rw [show u_ws "RuleGraph$Checker" cl_2 9 = [Cond.laysFinal "RuleGraph$Checker" "RuleGraph$Checker" "shape" "LRuleGraph$Shape;", Cond.laysFinal "RuleGraph$Checker" "RuleGraph$Checker" "rulebook" "LRuleGraph$Rulebook;", Cond.laysFinal "RuleGraph$Checker" "RuleGraph$Checker" "groups" "LRuleGraph$Groups;", Cond.laysFinal "RuleGraph$Checker" "RuleGraph$Checker" "store" "LRuleGraph$Store;", Cond.laysFinal "RuleGraph$Checker" "RuleGraph$Checker" "report" "LRuleGraph$Report;", Cond.laysFinal "RuleGraph$Checker" "RuleGraph$Checker" "openObjects" "[I", Cond.laysFinal "RuleGraph$Checker" "RuleGraph$Checker" "openGroups" "[I", Cond.lays "RuleGraph$Checker" "RuleGraph$Checker" "openCount" "I", Cond.lays "RuleGraph$Checker" "RuleGraph$Checker" "visitCount" "I"] by decide +kernel] at hw
    simp only [List.mem_cons, List.not_mem_nil, or_false] at hw
    rcases hw with rfl | rfl | rfl | rfl | rfl | rfl | rfl | rfl | rfl
    · exact ⟨List.mem_of_getElem? (i := 257) (by decide +kernel), rfl⟩
    · exact ⟨List.mem_of_getElem? (i := 259) (by decide +kernel), rfl⟩
    · exact ⟨List.mem_of_getElem? (i := 261) (by decide +kernel), rfl⟩
    · exact ⟨List.mem_of_getElem? (i := 263) (by decide +kernel), rfl⟩
    · exact ⟨List.mem_of_getElem? (i := 265) (by decide +kernel), rfl⟩
    · exact ⟨List.mem_of_getElem? (i := 267) (by decide +kernel), rfl⟩
    · exact ⟨List.mem_of_getElem? (i := 269) (by decide +kernel), rfl⟩
    · exact ⟨List.mem_of_getElem? (i := 271) (by decide +kernel), rfl⟩
    · exact ⟨List.mem_of_getElem? (i := 273) (by decide +kernel), rfl⟩,
    by decide +kernel, by decide +kernel, List.mem_of_getElem? (i := 242) (by decide +kernel), List.mem_of_getElem? (i := 38) (by decide +kernel)⟩
set_option maxRecDepth 20000 in
theorem ckc_3 : iv_ckc 3 ("RuleGraph$Composition", cl_3, 3) := ⟨by decide, fun w hw => by
    rw [show u_ws "RuleGraph$Composition" cl_3 3 = [Cond.laysFinal "RuleGraph$Composition" "RuleGraph$Composition" "parts" "[LRuleGraph$Demand;", Cond.lays "RuleGraph$Composition" "RuleGraph$Composition" "size" "I", Cond.lays "RuleGraph$Composition" "RuleGraph$Composition" "isSingle" "Z"] by decide +kernel] at hw
    simp only [List.mem_cons, List.not_mem_nil, or_false] at hw
    rcases hw with rfl | rfl | rfl
    · exact ⟨List.mem_of_getElem? (i := 141) (by decide +kernel), rfl⟩
    · exact ⟨List.mem_of_getElem? (i := 143) (by decide +kernel), rfl⟩
    · exact ⟨List.mem_of_getElem? (i := 145) (by decide +kernel), rfl⟩,
    by decide +kernel, by decide +kernel, List.mem_of_getElem? (i := 126) (by decide +kernel), List.mem_of_getElem? (i := 34) (by decide +kernel)⟩
set_option maxRecDepth 20000 in
theorem ckc_4 : iv_ckc 4 ("RuleGraph$Demand", cl_4, 3) := ⟨by decide, fun w hw => by
    rw [show u_ws "RuleGraph$Demand" cl_4 3 = [Cond.laysFinal "RuleGraph$Demand" "RuleGraph$Demand" "kind" "I", Cond.laysFinal "RuleGraph$Demand" "RuleGraph$Demand" "a" "I", Cond.laysFinal "RuleGraph$Demand" "RuleGraph$Demand" "b" "I"] by decide +kernel] at hw
    simp only [List.mem_cons, List.not_mem_nil, or_false] at hw
    rcases hw with rfl | rfl | rfl
    · exact ⟨List.mem_of_getElem? (i := 347) (by decide +kernel), rfl⟩
    · exact ⟨List.mem_of_getElem? (i := 349) (by decide +kernel), rfl⟩
    · exact ⟨List.mem_of_getElem? (i := 351) (by decide +kernel), rfl⟩,
    by decide +kernel, by decide +kernel, List.mem_of_getElem? (i := 339) (by decide +kernel), List.mem_of_getElem? (i := 40) (by decide +kernel)⟩
set_option maxRecDepth 20000 in
theorem ckc_5 : iv_ckc 5 ("RuleGraph$Groups", cl_5, 3) := ⟨by decide, fun w hw => by
    rw [show u_ws "RuleGraph$Groups" cl_5 3 = [Cond.laysFinal "RuleGraph$Groups" "RuleGraph$Groups" "closures" "[I", Cond.laysFinal "RuleGraph$Groups" "RuleGraph$Groups" "sequences" "[LRuleGraph$Row;", Cond.laysFinal "RuleGraph$Groups" "RuleGraph$Groups" "flat" "LRuleGraph$Row;"] by decide +kernel] at hw
    simp only [List.mem_cons, List.not_mem_nil, or_false] at hw
    rcases hw with rfl | rfl | rfl
    · exact ⟨List.mem_of_getElem? (i := 175) (by decide +kernel), rfl⟩
    · exact ⟨List.mem_of_getElem? (i := 177) (by decide +kernel), rfl⟩
    · exact ⟨List.mem_of_getElem? (i := 179) (by decide +kernel), rfl⟩,
    by decide +kernel, by decide +kernel, List.mem_of_getElem? (i := 162) (by decide +kernel), List.mem_of_getElem? (i := 35) (by decide +kernel)⟩
set_option maxRecDepth 20000 in
theorem ckc_6 : iv_ckc 6 ("RuleGraph$Report", cl_6, 6) := ⟨by decide, fun w hw => by
    rw [show u_ws "RuleGraph$Report" cl_6 6 = [Cond.lays "RuleGraph$Report" "RuleGraph$Report" "count" "I", Cond.laysFinal "RuleGraph$Report" "RuleGraph$Report" "facts" "[[I", Cond.laysFinal "RuleGraph$Report" "RuleGraph$Report" "ways" "[LRuleGraph$Row;", Cond.laysFinal "RuleGraph$Report" "RuleGraph$Report" "trail" "LRuleGraph$Row;", Cond.laysFinal "RuleGraph$Report" "RuleGraph$Report" "text" "[C", Cond.lays "RuleGraph$Report" "RuleGraph$Report" "textLength" "I"] by decide +kernel] at hw
    simp only [List.mem_cons, List.not_mem_nil, or_false] at hw
    rcases hw with rfl | rfl | rfl | rfl | rfl | rfl
    · exact ⟨List.mem_of_getElem? (i := 227) (by decide +kernel), rfl⟩
    · exact ⟨List.mem_of_getElem? (i := 229) (by decide +kernel), rfl⟩
    · exact ⟨List.mem_of_getElem? (i := 231) (by decide +kernel), rfl⟩
    · exact ⟨List.mem_of_getElem? (i := 233) (by decide +kernel), rfl⟩
    · exact ⟨List.mem_of_getElem? (i := 235) (by decide +kernel), rfl⟩
    · exact ⟨List.mem_of_getElem? (i := 237) (by decide +kernel), rfl⟩,
    by decide +kernel, by decide +kernel, List.mem_of_getElem? (i := 207) (by decide +kernel), List.mem_of_getElem? (i := 37) (by decide +kernel)⟩
set_option maxRecDepth 20000 in
theorem ckc_7 : iv_ckc 7 ("RuleGraph$Row", cl_7, 2) := ⟨by decide, fun w hw => by
    rw [show u_ws "RuleGraph$Row" cl_7 2 = [Cond.laysFinal "RuleGraph$Row" "RuleGraph$Row" "items" "[I", Cond.lays "RuleGraph$Row" "RuleGraph$Row" "size" "I"] by decide +kernel] at hw
    simp only [List.mem_cons, List.not_mem_nil, or_false] at hw
    rcases hw with rfl | rfl
    · exact ⟨List.mem_of_getElem? (i := 73) (by decide +kernel), rfl⟩
    · exact ⟨List.mem_of_getElem? (i := 75) (by decide +kernel), rfl⟩,
    by decide +kernel, by decide +kernel, List.mem_of_getElem? (i := 58) (by decide +kernel), List.mem_of_getElem? (i := 32) (by decide +kernel)⟩
set_option maxRecDepth 20000 in
theorem ckc_8 : iv_ckc 8 ("RuleGraph$Rule", cl_8, 4) := ⟨by decide, fun w hw => by
    rw [show u_ws "RuleGraph$Rule" cl_8 4 = [Cond.laysFinal "RuleGraph$Rule" "RuleGraph$Rule" "field" "I", Cond.laysFinal "RuleGraph$Rule" "RuleGraph$Rule" "element" "Z", Cond.laysFinal "RuleGraph$Rule" "RuleGraph$Rule" "demands" "LRuleGraph$Composition;", Cond.laysFinal "RuleGraph$Rule" "RuleGraph$Rule" "groups" "I"] by decide +kernel] at hw
    simp only [List.mem_cons, List.not_mem_nil, or_false] at hw
    rcases hw with rfl | rfl | rfl | rfl
    · exact ⟨List.mem_of_getElem? (i := 371) (by decide +kernel), rfl⟩
    · exact ⟨List.mem_of_getElem? (i := 373) (by decide +kernel), rfl⟩
    · exact ⟨List.mem_of_getElem? (i := 375) (by decide +kernel), rfl⟩
    · exact ⟨List.mem_of_getElem? (i := 377) (by decide +kernel), rfl⟩,
    by decide +kernel, by decide +kernel, List.mem_of_getElem? (i := 358) (by decide +kernel), List.mem_of_getElem? (i := 41) (by decide +kernel)⟩
set_option maxRecDepth 20000 in
theorem ckc_9 : iv_ckc 9 ("RuleGraph$Rulebook", cl_9, 3) := ⟨by decide, fun w hw => by
    rw [show u_ws "RuleGraph$Rulebook" cl_9 3 = [Cond.laysFinal "RuleGraph$Rulebook" "RuleGraph$Rulebook" "rules" "[LRuleGraph$Rule;", Cond.lays "RuleGraph$Rulebook" "RuleGraph$Rulebook" "ruleCount" "I", Cond.laysFinal "RuleGraph$Rulebook" "RuleGraph$Rulebook" "compositions" "[LRuleGraph$Composition;"] by decide +kernel] at hw
    simp only [List.mem_cons, List.not_mem_nil, or_false] at hw
    rcases hw with rfl | rfl | rfl
    · exact ⟨List.mem_of_getElem? (i := 154) (by decide +kernel), rfl⟩
    · exact ⟨List.mem_of_getElem? (i := 156) (by decide +kernel), rfl⟩
    · exact ⟨List.mem_of_getElem? (i := 158) (by decide +kernel), rfl⟩,
    by decide +kernel, by decide +kernel, List.mem_of_getElem? (i := 117) (by decide +kernel), List.mem_of_getElem? (i := 33) (by decide +kernel)⟩
set_option maxRecDepth 20000 in
theorem ckc_10 : iv_ckc 10 ("RuleGraph$Shape", cl_10, 8) := ⟨by decide, fun w hw => by
    rw [show u_ws "RuleGraph$Shape" cl_10 8 = [Cond.lays "RuleGraph$Shape" "RuleGraph$Shape" "classCount" "I", Cond.laysFinal "RuleGraph$Shape" "RuleGraph$Shape" "lines" "[I", Cond.laysFinal "RuleGraph$Shape" "RuleGraph$Shape" "orders" "[LRuleGraph$Row;", Cond.lays "RuleGraph$Shape" "RuleGraph$Shape" "fieldCount" "I", Cond.laysFinal "RuleGraph$Shape" "RuleGraph$Shape" "owners" "[I", Cond.laysFinal "RuleGraph$Shape" "RuleGraph$Shape" "kinds" "[I", Cond.laysFinal "RuleGraph$Shape" "RuleGraph$Shape" "cascaded" "[Z", Cond.laysFinal "RuleGraph$Shape" "RuleGraph$Shape" "conversions" "[[I"] by decide +kernel] at hw
    simp only [List.mem_cons, List.not_mem_nil, or_false] at hw
    rcases hw with rfl | rfl | rfl | rfl | rfl | rfl | rfl | rfl
    · exact ⟨List.mem_of_getElem? (i := 98) (by decide +kernel), rfl⟩
    · exact ⟨List.mem_of_getElem? (i := 100) (by decide +kernel), rfl⟩
    · exact ⟨List.mem_of_getElem? (i := 102) (by decide +kernel), rfl⟩
    · exact ⟨List.mem_of_getElem? (i := 104) (by decide +kernel), rfl⟩
    · exact ⟨List.mem_of_getElem? (i := 106) (by decide +kernel), rfl⟩
    · exact ⟨List.mem_of_getElem? (i := 108) (by decide +kernel), rfl⟩
    · exact ⟨List.mem_of_getElem? (i := 110) (by decide +kernel), rfl⟩
    · exact ⟨List.mem_of_getElem? (i := 112) (by decide +kernel), rfl⟩,
    by decide +kernel, by decide +kernel, List.mem_of_getElem? (i := 51) (by decide +kernel), List.mem_of_getElem? (i := 31) (by decide +kernel)⟩
set_option maxRecDepth 20000 in
theorem ckc_11 : iv_ckc 11 ("RuleGraph$Store", cl_11, 4) := ⟨by decide, fun w hw => by
    rw [show u_ws "RuleGraph$Store" cl_11 4 = [Cond.lays "RuleGraph$Store" "RuleGraph$Store" "objectCount" "I", Cond.laysFinal "RuleGraph$Store" "RuleGraph$Store" "classes" "[I", Cond.laysFinal "RuleGraph$Store" "RuleGraph$Store" "values" "[[I", Cond.laysFinal "RuleGraph$Store" "RuleGraph$Store" "elements" "[[I"] by decide +kernel] at hw
    simp only [List.mem_cons, List.not_mem_nil, or_false] at hw
    rcases hw with rfl | rfl | rfl | rfl
    · exact ⟨List.mem_of_getElem? (i := 197) (by decide +kernel), rfl⟩
    · exact ⟨List.mem_of_getElem? (i := 199) (by decide +kernel), rfl⟩
    · exact ⟨List.mem_of_getElem? (i := 201) (by decide +kernel), rfl⟩
    · exact ⟨List.mem_of_getElem? (i := 203) (by decide +kernel), rfl⟩,
    by decide +kernel, by decide +kernel, List.mem_of_getElem? (i := 183) (by decide +kernel), List.mem_of_getElem? (i := 36) (by decide +kernel)⟩
theorem ck_cl : ∀ (i : Nat) (q : vw_C), iv_cl[i]? = some q → iv_ckc i q := by
  intro i q h
  have hi : i < 12 := (List.getElem?_eq_some_iff.mp h).1
  match i, hi, h with
  | 0, _, h => cases h; exact ckc_0
  | 1, _, h => cases h; exact ckc_1
  | 2, _, h => cases h; exact ckc_2
  | 3, _, h => cases h; exact ckc_3
  | 4, _, h => cases h; exact ckc_4
  | 5, _, h => cases h; exact ckc_5
  | 6, _, h => cases h; exact ckc_6
  | 7, _, h => cases h; exact ckc_7
  | 8, _, h => cases h; exact ckc_8
  | 9, _, h => cases h; exact ckc_9
  | 10, _, h => cases h; exact ckc_10
  | 11, _, h => cases h; exact ckc_11
  | n + 12, hi, _ => omega
theorem ck_ac : ∀ (t i : Nat), iv_ac t = some i → ∃ q : vw_C, iv_cl[i]? = some q ∧ iv_ar t = some (.object q.1) := by
  intro t i h
  unfold iv_ac at h
  split at h <;> first | (cases h; exact ⟨_, rfl, rfl⟩) | cases h
theorem ck_df : ∀ (i : Nat) (fs : List Value) (q : vw_C), iv_df i = some fs → iv_cl[i]? = some q → fs.length = q.2.2 ∧ (∀ j, j < q.2.2 → defaultValue (iv_ft i j) = vp_V fs j) ∧ ∀ r : Nat → Nat, fs.map (iv_mv r) = fs := by
  intro i fs q h hq
  have hi : i < 12 := (List.getElem?_eq_some_iff.mp hq).1
  match i, hi, h, hq with
  | 0, _, h, hq => cases h; cases hq; exact ⟨rfl, by decide +kernel, fun _ => rfl⟩
  | 1, _, h, hq => cases h; cases hq; exact ⟨rfl, by decide +kernel, fun _ => rfl⟩
  | 2, _, h, hq => cases h; cases hq; exact ⟨rfl, by decide +kernel, fun _ => rfl⟩
  | 3, _, h, hq => cases h; cases hq; exact ⟨rfl, by decide +kernel, fun _ => rfl⟩
  | 4, _, h, hq => cases h; cases hq; exact ⟨rfl, by decide +kernel, fun _ => rfl⟩
  | 5, _, h, hq => cases h; cases hq; exact ⟨rfl, by decide +kernel, fun _ => rfl⟩
  | 6, _, h, hq => cases h; cases hq; exact ⟨rfl, by decide +kernel, fun _ => rfl⟩
  | 7, _, h, hq => cases h; cases hq; exact ⟨rfl, by decide +kernel, fun _ => rfl⟩
  | 8, _, h, hq => cases h; cases hq; exact ⟨rfl, by decide +kernel, fun _ => rfl⟩
  | 9, _, h, hq => cases h; cases hq; exact ⟨rfl, by decide +kernel, fun _ => rfl⟩
  | 10, _, h, hq => cases h; cases hq; exact ⟨rfl, by decide +kernel, fun _ => rfl⟩
  | 11, _, h, hq => cases h; cases hq; exact ⟨rfl, by decide +kernel, fun _ => rfl⟩
  | n + 12, hi, _, _ => omega
theorem ck_oi : Cond.instanceMethod Lib.objectInit ∈ lw_tbl ∧ Cond.code Lib.objectInit ⟨#[0xb1]⟩ 1 none ∈ lw_tbl := ⟨List.mem_of_getElem? (i := 48) (by decide +kernel), List.mem_of_getElem? (i := 49) (by decide +kernel)⟩
theorem ckm_2 : iv_ckm 2 1 none := ⟨List.mem_of_getElem? (i := 46) (by decide +kernel), List.mem_of_getElem? (i := 30) (by decide +kernel), ⟨by decide +kernel, by decide +kernel⟩, by decide +kernel, by decide⟩
theorem cki_2 : iv_cki 2 := ⟨List.mem_of_getElem? (i := 45) (by decide +kernel), rfl, fun mL rt code h => by cases h; rfl⟩
theorem ckm_3 : iv_ckm 3 2 (some .int) := ⟨List.mem_of_getElem? (i := 298) (by decide +kernel), List.mem_of_getElem? (i := 30) (by decide +kernel), ⟨by decide +kernel, by decide +kernel⟩, by decide +kernel, by decide⟩
theorem ckv_3 : iv_ckv 3 := ⟨List.mem_of_getElem? (i := 296) (by decide +kernel), List.mem_of_getElem? (i := 297) (by decide +kernel), _, rfl, rfl⟩
theorem ckm_4 : iv_ckm 4 4 (some .int) := ⟨List.mem_of_getElem? (i := 310) (by decide +kernel), List.mem_of_getElem? (i := 30) (by decide +kernel), ⟨by decide +kernel, by decide +kernel⟩, by decide +kernel, by decide⟩
theorem ckv_4 : iv_ckv 4 := ⟨List.mem_of_getElem? (i := 308) (by decide +kernel), List.mem_of_getElem? (i := 309) (by decide +kernel), _, rfl, rfl⟩
theorem ckm_5 : iv_ckm 5 8 (some .int) := ⟨List.mem_of_getElem? (i := 322) (by decide +kernel), List.mem_of_getElem? (i := 30) (by decide +kernel), ⟨by decide +kernel, by decide +kernel⟩, by decide +kernel, by decide⟩
theorem ckv_5 : iv_ckv 5 := ⟨List.mem_of_getElem? (i := 320) (by decide +kernel), List.mem_of_getElem? (i := 321) (by decide +kernel), _, rfl, rfl⟩
theorem ckm_6 : iv_ckm 6 5 (some .boolean) := ⟨List.mem_of_getElem? (i := 383) (by decide +kernel), List.mem_of_getElem? (i := 30) (by decide +kernel), ⟨by decide +kernel, by decide +kernel⟩, by decide +kernel, by decide⟩
theorem ckv_6 : iv_ckv 6 := ⟨List.mem_of_getElem? (i := 381) (by decide +kernel), List.mem_of_getElem? (i := 382) (by decide +kernel), _, rfl, rfl⟩
theorem ckm_7 : iv_ckm 7 3 (some .boolean) := ⟨List.mem_of_getElem? (i := 388) (by decide +kernel), List.mem_of_getElem? (i := 30) (by decide +kernel), ⟨by decide +kernel, by decide +kernel⟩, by decide +kernel, by decide⟩
theorem ckv_7 : iv_ckv 7 := ⟨List.mem_of_getElem? (i := 386) (by decide +kernel), List.mem_of_getElem? (i := 387) (by decide +kernel), _, rfl, rfl⟩
theorem ckm_8 : iv_ckm 8 3 (some .boolean) := ⟨List.mem_of_getElem? (i := 392) (by decide +kernel), List.mem_of_getElem? (i := 30) (by decide +kernel), ⟨by decide +kernel, by decide +kernel⟩, by decide +kernel, by decide⟩
theorem ckv_8 : iv_ckv 8 := ⟨List.mem_of_getElem? (i := 390) (by decide +kernel), List.mem_of_getElem? (i := 391) (by decide +kernel), _, rfl, rfl⟩
theorem ckm_9 : iv_ckm 9 3 (some .boolean) := ⟨List.mem_of_getElem? (i := 409) (by decide +kernel), List.mem_of_getElem? (i := 30) (by decide +kernel), ⟨by decide +kernel, by decide +kernel⟩, by decide +kernel, by decide⟩
theorem ckv_9 : iv_ckv 9 := ⟨List.mem_of_getElem? (i := 407) (by decide +kernel), List.mem_of_getElem? (i := 408) (by decide +kernel), _, rfl, rfl⟩
theorem ckm_10 : iv_ckm 10 3 (some .boolean) := ⟨List.mem_of_getElem? (i := 421) (by decide +kernel), List.mem_of_getElem? (i := 30) (by decide +kernel), ⟨by decide +kernel, by decide +kernel⟩, by decide +kernel, by decide⟩
theorem ckv_10 : iv_ckv 10 := ⟨List.mem_of_getElem? (i := 419) (by decide +kernel), List.mem_of_getElem? (i := 420) (by decide +kernel), _, rfl, rfl⟩
theorem ckm_11 : iv_ckm 11 2 (some .boolean) := ⟨List.mem_of_getElem? (i := 425) (by decide +kernel), List.mem_of_getElem? (i := 30) (by decide +kernel), ⟨by decide +kernel, by decide +kernel⟩, by decide +kernel, by decide⟩
theorem ckv_11 : iv_ckv 11 := ⟨List.mem_of_getElem? (i := 423) (by decide +kernel), List.mem_of_getElem? (i := 424) (by decide +kernel), _, rfl, rfl⟩
theorem ckm_12 : iv_ckm 12 4 (some .boolean) := ⟨List.mem_of_getElem? (i := 433) (by decide +kernel), List.mem_of_getElem? (i := 30) (by decide +kernel), ⟨by decide +kernel, by decide +kernel⟩, by decide +kernel, by decide⟩
theorem ckv_12 : iv_ckv 12 := ⟨List.mem_of_getElem? (i := 431) (by decide +kernel), List.mem_of_getElem? (i := 432) (by decide +kernel), _, rfl, rfl⟩
theorem ckm_13 : iv_ckm 13 2 (some .int) := ⟨List.mem_of_getElem? (i := 437) (by decide +kernel), List.mem_of_getElem? (i := 30) (by decide +kernel), ⟨by decide +kernel, by decide +kernel⟩, by decide +kernel, by decide⟩
theorem ckv_13 : iv_ckv 13 := ⟨List.mem_of_getElem? (i := 435) (by decide +kernel), List.mem_of_getElem? (i := 436) (by decide +kernel), _, rfl, rfl⟩
theorem ckm_14 : iv_ckm 14 4 (some .boolean) := ⟨List.mem_of_getElem? (i := 445) (by decide +kernel), List.mem_of_getElem? (i := 30) (by decide +kernel), ⟨by decide +kernel, by decide +kernel⟩, by decide +kernel, by decide⟩
theorem ckv_14 : iv_ckv 14 := ⟨List.mem_of_getElem? (i := 443) (by decide +kernel), List.mem_of_getElem? (i := 444) (by decide +kernel), _, rfl, rfl⟩
theorem ckm_15 : iv_ckm 15 4 (some .boolean) := ⟨List.mem_of_getElem? (i := 465) (by decide +kernel), List.mem_of_getElem? (i := 30) (by decide +kernel), ⟨by decide +kernel, by decide +kernel⟩, by decide +kernel, by decide⟩
theorem ckv_15 : iv_ckv 15 := ⟨List.mem_of_getElem? (i := 463) (by decide +kernel), List.mem_of_getElem? (i := 464) (by decide +kernel), _, rfl, rfl⟩
theorem ckm_16 : iv_ckm 16 4 (some .boolean) := ⟨List.mem_of_getElem? (i := 473) (by decide +kernel), List.mem_of_getElem? (i := 30) (by decide +kernel), ⟨by decide +kernel, by decide +kernel⟩, by decide +kernel, by decide⟩
theorem ckv_16 : iv_ckv 16 := ⟨List.mem_of_getElem? (i := 471) (by decide +kernel), List.mem_of_getElem? (i := 472) (by decide +kernel), _, rfl, rfl⟩
theorem ckm_17 : iv_ckm 17 6 (some .int) := ⟨List.mem_of_getElem? (i := 477) (by decide +kernel), List.mem_of_getElem? (i := 30) (by decide +kernel), ⟨by decide +kernel, by decide +kernel⟩, by decide +kernel, by decide⟩
theorem ckv_17 : iv_ckv 17 := ⟨List.mem_of_getElem? (i := 475) (by decide +kernel), List.mem_of_getElem? (i := 476) (by decide +kernel), _, rfl, rfl⟩
theorem ckm_18 : iv_ckm 18 4 (some .int) := ⟨List.mem_of_getElem? (i := 559) (by decide +kernel), List.mem_of_getElem? (i := 30) (by decide +kernel), ⟨by decide +kernel, by decide +kernel⟩, by decide +kernel, by decide⟩
theorem ckv_18 : iv_ckv 18 := ⟨List.mem_of_getElem? (i := 557) (by decide +kernel), List.mem_of_getElem? (i := 558) (by decide +kernel), _, rfl, rfl⟩
theorem ckm_19 : iv_ckm 19 1 (some .int) := ⟨List.mem_of_getElem? (i := 564) (by decide +kernel), List.mem_of_getElem? (i := 30) (by decide +kernel), ⟨by decide +kernel, by decide +kernel⟩, by decide +kernel, by decide⟩
theorem ckv_19 : iv_ckv 19 := ⟨List.mem_of_getElem? (i := 562) (by decide +kernel), List.mem_of_getElem? (i := 563) (by decide +kernel), _, rfl, rfl⟩
theorem ckm_20 : iv_ckm 20 1 (some .int) := ⟨List.mem_of_getElem? (i := 568) (by decide +kernel), List.mem_of_getElem? (i := 30) (by decide +kernel), ⟨by decide +kernel, by decide +kernel⟩, by decide +kernel, by decide⟩
theorem ckv_20 : iv_ckv 20 := ⟨List.mem_of_getElem? (i := 566) (by decide +kernel), List.mem_of_getElem? (i := 567) (by decide +kernel), _, rfl, rfl⟩
theorem ckm_21 : iv_ckm 21 3 (some .int) := ⟨List.mem_of_getElem? (i := 572) (by decide +kernel), List.mem_of_getElem? (i := 30) (by decide +kernel), ⟨by decide +kernel, by decide +kernel⟩, by decide +kernel, by decide⟩
theorem ckv_21 : iv_ckv 21 := ⟨List.mem_of_getElem? (i := 570) (by decide +kernel), List.mem_of_getElem? (i := 571) (by decide +kernel), _, rfl, rfl⟩
theorem ckm_22 : iv_ckm 22 3 (some .int) := ⟨List.mem_of_getElem? (i := 580) (by decide +kernel), List.mem_of_getElem? (i := 30) (by decide +kernel), ⟨by decide +kernel, by decide +kernel⟩, by decide +kernel, by decide⟩
theorem ckv_22 : iv_ckv 22 := ⟨List.mem_of_getElem? (i := 578) (by decide +kernel), List.mem_of_getElem? (i := 579) (by decide +kernel), _, rfl, rfl⟩
theorem ckm_23 : iv_ckm 23 3 (some .boolean) := ⟨List.mem_of_getElem? (i := 449) (by decide +kernel), List.mem_of_getElem? (i := 30) (by decide +kernel), ⟨by decide +kernel, by decide +kernel⟩, by decide +kernel, by decide⟩
theorem ckv_23 : iv_ckv 23 := ⟨List.mem_of_getElem? (i := 448) (by decide +kernel), List.mem_of_getElem? (i := 0) (by decide +kernel), _, rfl, rfl⟩
theorem ckm_24 : iv_ckm 24 1 none := ⟨List.mem_of_getElem? (i := 597) (by decide +kernel), List.mem_of_getElem? (i := 39) (by decide +kernel), ⟨by decide +kernel, by decide +kernel⟩, by decide +kernel, by decide⟩
theorem cki_24 : iv_cki 24 := ⟨List.mem_of_getElem? (i := 596) (by decide +kernel), rfl, fun mL rt code h => by cases h; rfl⟩
theorem ckm_25 : iv_ckm 25 3 (some .boolean) := ⟨List.mem_of_getElem? (i := 750) (by decide +kernel), List.mem_of_getElem? (i := 39) (by decide +kernel), ⟨by decide +kernel, by decide +kernel⟩, by decide +kernel, by decide⟩
theorem ckm_26 : iv_ckm 26 2 (some .int) := ⟨List.mem_of_getElem? (i := 747) (by decide +kernel), List.mem_of_getElem? (i := 39) (by decide +kernel), ⟨by decide +kernel, by decide +kernel⟩, by decide +kernel, by decide⟩
theorem ckv_26 : iv_ckv 26 := ⟨List.mem_of_getElem? (i := 745) (by decide +kernel), List.mem_of_getElem? (i := 746) (by decide +kernel), _, rfl, rfl⟩
theorem ckm_27 : iv_ckm 27 3 (some .int) := ⟨List.mem_of_getElem? (i := 754) (by decide +kernel), List.mem_of_getElem? (i := 39) (by decide +kernel), ⟨by decide +kernel, by decide +kernel⟩, by decide +kernel, by decide⟩
theorem ckv_27 : iv_ckv 27 := ⟨List.mem_of_getElem? (i := 752) (by decide +kernel), List.mem_of_getElem? (i := 753) (by decide +kernel), _, rfl, rfl⟩
theorem ckm_28 : iv_ckm 28 7 (some .int) := ⟨List.mem_of_getElem? (i := 758) (by decide +kernel), List.mem_of_getElem? (i := 39) (by decide +kernel), ⟨by decide +kernel, by decide +kernel⟩, by decide +kernel, by decide⟩
theorem ckv_28 : iv_ckv 28 := ⟨List.mem_of_getElem? (i := 756) (by decide +kernel), List.mem_of_getElem? (i := 757) (by decide +kernel), _, rfl, rfl⟩
theorem ckm_29 : iv_ckm 29 6 (some .boolean) := ⟨List.mem_of_getElem? (i := 762) (by decide +kernel), List.mem_of_getElem? (i := 39) (by decide +kernel), ⟨by decide +kernel, by decide +kernel⟩, by decide +kernel, by decide⟩
theorem ckv_29 : iv_ckv 29 := ⟨List.mem_of_getElem? (i := 760) (by decide +kernel), List.mem_of_getElem? (i := 761) (by decide +kernel), _, rfl, rfl⟩
theorem ckm_30 : iv_ckm 30 3 (some .boolean) := ⟨List.mem_of_getElem? (i := 766) (by decide +kernel), List.mem_of_getElem? (i := 39) (by decide +kernel), ⟨by decide +kernel, by decide +kernel⟩, by decide +kernel, by decide⟩
theorem ckv_30 : iv_ckv 30 := ⟨List.mem_of_getElem? (i := 764) (by decide +kernel), List.mem_of_getElem? (i := 765) (by decide +kernel), _, rfl, rfl⟩
theorem ckm_31 : iv_ckm 31 5 (some .int) := ⟨List.mem_of_getElem? (i := 774) (by decide +kernel), List.mem_of_getElem? (i := 39) (by decide +kernel), ⟨by decide +kernel, by decide +kernel⟩, by decide +kernel, by decide⟩
theorem ckv_31 : iv_ckv 31 := ⟨List.mem_of_getElem? (i := 773) (by decide +kernel), List.mem_of_getElem? (i := 13) (by decide +kernel), _, rfl, rfl⟩
theorem ckm_32 : iv_ckm 32 3 (some .boolean) := ⟨List.mem_of_getElem? (i := 770) (by decide +kernel), List.mem_of_getElem? (i := 39) (by decide +kernel), ⟨by decide +kernel, by decide +kernel⟩, by decide +kernel, by decide⟩
theorem ckv_32 : iv_ckv 32 := ⟨List.mem_of_getElem? (i := 768) (by decide +kernel), List.mem_of_getElem? (i := 769) (by decide +kernel), _, rfl, rfl⟩
theorem ckm_33 : iv_ckm 33 3 (some .boolean) := ⟨List.mem_of_getElem? (i := 778) (by decide +kernel), List.mem_of_getElem? (i := 39) (by decide +kernel), ⟨by decide +kernel, by decide +kernel⟩, by decide +kernel, by decide⟩
theorem ckv_33 : iv_ckv 33 := ⟨List.mem_of_getElem? (i := 776) (by decide +kernel), List.mem_of_getElem? (i := 777) (by decide +kernel), _, rfl, rfl⟩
theorem ckm_34 : iv_ckm 34 3 (some .boolean) := ⟨List.mem_of_getElem? (i := 782) (by decide +kernel), List.mem_of_getElem? (i := 39) (by decide +kernel), ⟨by decide +kernel, by decide +kernel⟩, by decide +kernel, by decide⟩
theorem ckv_34 : iv_ckv 34 := ⟨List.mem_of_getElem? (i := 780) (by decide +kernel), List.mem_of_getElem? (i := 781) (by decide +kernel), _, rfl, rfl⟩
theorem ckm_35 : iv_ckm 35 2 (some .boolean) := ⟨List.mem_of_getElem? (i := 786) (by decide +kernel), List.mem_of_getElem? (i := 39) (by decide +kernel), ⟨by decide +kernel, by decide +kernel⟩, by decide +kernel, by decide⟩
theorem ckv_35 : iv_ckv 35 := ⟨List.mem_of_getElem? (i := 784) (by decide +kernel), List.mem_of_getElem? (i := 785) (by decide +kernel), _, rfl, rfl⟩
theorem ckm_36 : iv_ckm 36 4 (some .boolean) := ⟨List.mem_of_getElem? (i := 790) (by decide +kernel), List.mem_of_getElem? (i := 39) (by decide +kernel), ⟨by decide +kernel, by decide +kernel⟩, by decide +kernel, by decide⟩
theorem ckv_36 : iv_ckv 36 := ⟨List.mem_of_getElem? (i := 788) (by decide +kernel), List.mem_of_getElem? (i := 789) (by decide +kernel), _, rfl, rfl⟩
theorem ckm_37 : iv_ckm 37 2 (some .int) := ⟨List.mem_of_getElem? (i := 794) (by decide +kernel), List.mem_of_getElem? (i := 39) (by decide +kernel), ⟨by decide +kernel, by decide +kernel⟩, by decide +kernel, by decide⟩
theorem ckv_37 : iv_ckv 37 := ⟨List.mem_of_getElem? (i := 792) (by decide +kernel), List.mem_of_getElem? (i := 793) (by decide +kernel), _, rfl, rfl⟩
theorem ckm_38 : iv_ckm 38 5 (some .boolean) := ⟨List.mem_of_getElem? (i := 802) (by decide +kernel), List.mem_of_getElem? (i := 39) (by decide +kernel), ⟨by decide +kernel, by decide +kernel⟩, by decide +kernel, by decide⟩
theorem ckv_38 : iv_ckv 38 := ⟨List.mem_of_getElem? (i := 801) (by decide +kernel), List.mem_of_getElem? (i := 14) (by decide +kernel), _, rfl, rfl⟩
theorem ckm_39 : iv_ckm 39 4 (some .boolean) := ⟨List.mem_of_getElem? (i := 798) (by decide +kernel), List.mem_of_getElem? (i := 39) (by decide +kernel), ⟨by decide +kernel, by decide +kernel⟩, by decide +kernel, by decide⟩
theorem ckv_39 : iv_ckv 39 := ⟨List.mem_of_getElem? (i := 796) (by decide +kernel), List.mem_of_getElem? (i := 797) (by decide +kernel), _, rfl, rfl⟩
theorem ckm_40 : iv_ckm 40 6 (some .boolean) := ⟨List.mem_of_getElem? (i := 806) (by decide +kernel), List.mem_of_getElem? (i := 39) (by decide +kernel), ⟨by decide +kernel, by decide +kernel⟩, by decide +kernel, by decide⟩
theorem ckv_40 : iv_ckv 40 := ⟨List.mem_of_getElem? (i := 804) (by decide +kernel), List.mem_of_getElem? (i := 805) (by decide +kernel), _, rfl, rfl⟩
theorem ckm_41 : iv_ckm 41 4 (some .boolean) := ⟨List.mem_of_getElem? (i := 810) (by decide +kernel), List.mem_of_getElem? (i := 39) (by decide +kernel), ⟨by decide +kernel, by decide +kernel⟩, by decide +kernel, by decide⟩
theorem ckv_41 : iv_ckv 41 := ⟨List.mem_of_getElem? (i := 808) (by decide +kernel), List.mem_of_getElem? (i := 809) (by decide +kernel), _, rfl, rfl⟩
theorem ckm_42 : iv_ckm 42 3 (some .boolean) := ⟨List.mem_of_getElem? (i := 858) (by decide +kernel), List.mem_of_getElem? (i := 39) (by decide +kernel), ⟨by decide +kernel, by decide +kernel⟩, by decide +kernel, by decide⟩
theorem ckm_43 : iv_ckm 43 5 (some .boolean) := ⟨List.mem_of_getElem? (i := 855) (by decide +kernel), List.mem_of_getElem? (i := 39) (by decide +kernel), ⟨by decide +kernel, by decide +kernel⟩, by decide +kernel, by decide⟩
theorem ckv_43 : iv_ckv 43 := ⟨List.mem_of_getElem? (i := 854) (by decide +kernel), List.mem_of_getElem? (i := 24) (by decide +kernel), _, rfl, rfl⟩
theorem ckm_44 : iv_ckm 44 5 (some .boolean) := ⟨List.mem_of_getElem? (i := 865) (by decide +kernel), List.mem_of_getElem? (i := 39) (by decide +kernel), ⟨by decide +kernel, by decide +kernel⟩, by decide +kernel, by decide⟩
theorem ckm_45 : iv_ckm 45 8 (some .boolean) := ⟨List.mem_of_getElem? (i := 869) (by decide +kernel), List.mem_of_getElem? (i := 39) (by decide +kernel), ⟨by decide +kernel, by decide +kernel⟩, by decide +kernel, by decide⟩
theorem ckv_45 : iv_ckv 45 := ⟨List.mem_of_getElem? (i := 868) (by decide +kernel), List.mem_of_getElem? (i := 26) (by decide +kernel), _, rfl, rfl⟩
theorem ckm_46 : iv_ckm 46 11 (some .boolean) := ⟨List.mem_of_getElem? (i := 862) (by decide +kernel), List.mem_of_getElem? (i := 39) (by decide +kernel), ⟨by decide +kernel, by decide +kernel⟩, by decide +kernel, by decide⟩
theorem ckv_46 : iv_ckv 46 := ⟨List.mem_of_getElem? (i := 861) (by decide +kernel), List.mem_of_getElem? (i := 25) (by decide +kernel), _, rfl, rfl⟩
theorem ckm_47 : iv_ckm 47 10 (some .int) := ⟨List.mem_of_getElem? (i := 851) (by decide +kernel), List.mem_of_getElem? (i := 39) (by decide +kernel), ⟨by decide +kernel, by decide +kernel⟩, by decide +kernel, by decide⟩
theorem ckv_47 : iv_ckv 47 := ⟨List.mem_of_getElem? (i := 850) (by decide +kernel), List.mem_of_getElem? (i := 23) (by decide +kernel), _, rfl, rfl⟩
theorem ckm_48 : iv_ckm 48 5 (some .boolean) := ⟨List.mem_of_getElem? (i := 838) (by decide +kernel), List.mem_of_getElem? (i := 39) (by decide +kernel), ⟨by decide +kernel, by decide +kernel⟩, by decide +kernel, by decide⟩
theorem ckv_48 : iv_ckv 48 := ⟨List.mem_of_getElem? (i := 837) (by decide +kernel), List.mem_of_getElem? (i := 20) (by decide +kernel), _, rfl, rfl⟩
theorem ckm_49 : iv_ckm 49 4 (some .int) := ⟨List.mem_of_getElem? (i := 834) (by decide +kernel), List.mem_of_getElem? (i := 39) (by decide +kernel), ⟨by decide +kernel, by decide +kernel⟩, by decide +kernel, by decide⟩
theorem ckv_49 : iv_ckv 49 := ⟨List.mem_of_getElem? (i := 833) (by decide +kernel), List.mem_of_getElem? (i := 19) (by decide +kernel), _, rfl, rfl⟩
theorem ckm_50 : iv_ckm 50 5 (some .int) := ⟨List.mem_of_getElem? (i := 847) (by decide +kernel), List.mem_of_getElem? (i := 39) (by decide +kernel), ⟨by decide +kernel, by decide +kernel⟩, by decide +kernel, by decide⟩
theorem ckv_50 : iv_ckv 50 := ⟨List.mem_of_getElem? (i := 846) (by decide +kernel), List.mem_of_getElem? (i := 22) (by decide +kernel), _, rfl, rfl⟩
theorem ckm_51 : iv_ckm 51 8 (some .int) := ⟨List.mem_of_getElem? (i := 843) (by decide +kernel), List.mem_of_getElem? (i := 39) (by decide +kernel), ⟨by decide +kernel, by decide +kernel⟩, by decide +kernel, by decide⟩
theorem ckv_51 : iv_ckv 51 := ⟨List.mem_of_getElem? (i := 842) (by decide +kernel), List.mem_of_getElem? (i := 21) (by decide +kernel), _, rfl, rfl⟩
theorem ckm_52 : iv_ckm 52 5 (some .int) := ⟨List.mem_of_getElem? (i := 830) (by decide +kernel), List.mem_of_getElem? (i := 39) (by decide +kernel), ⟨by decide +kernel, by decide +kernel⟩, by decide +kernel, by decide⟩
theorem ckv_52 : iv_ckv 52 := ⟨List.mem_of_getElem? (i := 829) (by decide +kernel), List.mem_of_getElem? (i := 18) (by decide +kernel), _, rfl, rfl⟩
theorem ckm_53 : iv_ckm 53 5 (some .boolean) := ⟨List.mem_of_getElem? (i := 822) (by decide +kernel), List.mem_of_getElem? (i := 39) (by decide +kernel), ⟨by decide +kernel, by decide +kernel⟩, by decide +kernel, by decide⟩
theorem ckv_53 : iv_ckv 53 := ⟨List.mem_of_getElem? (i := 821) (by decide +kernel), List.mem_of_getElem? (i := 16) (by decide +kernel), _, rfl, rfl⟩
theorem ckm_54 : iv_ckm 54 3 (some .boolean) := ⟨List.mem_of_getElem? (i := 818) (by decide +kernel), List.mem_of_getElem? (i := 39) (by decide +kernel), ⟨by decide +kernel, by decide +kernel⟩, by decide +kernel, by decide⟩
theorem ckv_54 : iv_ckv 54 := ⟨List.mem_of_getElem? (i := 817) (by decide +kernel), List.mem_of_getElem? (i := 15) (by decide +kernel), _, rfl, rfl⟩
theorem ckm_55 : iv_ckm 55 7 (some .int) := ⟨List.mem_of_getElem? (i := 826) (by decide +kernel), List.mem_of_getElem? (i := 39) (by decide +kernel), ⟨by decide +kernel, by decide +kernel⟩, by decide +kernel, by decide⟩
theorem ckv_55 : iv_ckv 55 := ⟨List.mem_of_getElem? (i := 825) (by decide +kernel), List.mem_of_getElem? (i := 17) (by decide +kernel), _, rfl, rfl⟩
theorem ckm_56 : iv_ckm 56 6 (some .int) := ⟨List.mem_of_getElem? (i := 814) (by decide +kernel), List.mem_of_getElem? (i := 39) (by decide +kernel), ⟨by decide +kernel, by decide +kernel⟩, by decide +kernel, by decide⟩
theorem ckv_56 : iv_ckv 56 := ⟨List.mem_of_getElem? (i := 812) (by decide +kernel), List.mem_of_getElem? (i := 813) (by decide +kernel), _, rfl, rfl⟩
theorem ckm_57 : iv_ckm 57 5 (some .int) := ⟨List.mem_of_getElem? (i := 873) (by decide +kernel), List.mem_of_getElem? (i := 39) (by decide +kernel), ⟨by decide +kernel, by decide +kernel⟩, by decide +kernel, by decide⟩
theorem ckv_57 : iv_ckv 57 := ⟨List.mem_of_getElem? (i := 871) (by decide +kernel), List.mem_of_getElem? (i := 872) (by decide +kernel), _, rfl, rfl⟩
theorem ckm_58 : iv_ckm 58 1 (some .int) := ⟨List.mem_of_getElem? (i := 877) (by decide +kernel), List.mem_of_getElem? (i := 39) (by decide +kernel), ⟨by decide +kernel, by decide +kernel⟩, by decide +kernel, by decide⟩
theorem ckv_58 : iv_ckv 58 := ⟨List.mem_of_getElem? (i := 875) (by decide +kernel), List.mem_of_getElem? (i := 876) (by decide +kernel), _, rfl, rfl⟩
theorem ckm_59 : iv_ckm 59 1 (some .int) := ⟨List.mem_of_getElem? (i := 881) (by decide +kernel), List.mem_of_getElem? (i := 39) (by decide +kernel), ⟨by decide +kernel, by decide +kernel⟩, by decide +kernel, by decide⟩
theorem ckv_59 : iv_ckv 59 := ⟨List.mem_of_getElem? (i := 879) (by decide +kernel), List.mem_of_getElem? (i := 880) (by decide +kernel), _, rfl, rfl⟩
theorem ckm_60 : iv_ckm 60 3 (some .int) := ⟨List.mem_of_getElem? (i := 885) (by decide +kernel), List.mem_of_getElem? (i := 39) (by decide +kernel), ⟨by decide +kernel, by decide +kernel⟩, by decide +kernel, by decide⟩
theorem ckv_60 : iv_ckv 60 := ⟨List.mem_of_getElem? (i := 883) (by decide +kernel), List.mem_of_getElem? (i := 884) (by decide +kernel), _, rfl, rfl⟩
theorem ckm_61 : iv_ckm 61 2 none := ⟨List.mem_of_getElem? (i := 897) (by decide +kernel), List.mem_of_getElem? (i := 39) (by decide +kernel), ⟨by decide +kernel, by decide +kernel⟩, by decide +kernel, by decide⟩
theorem ckv_61 : iv_ckv 61 := ⟨List.mem_of_getElem? (i := 896) (by decide +kernel), List.mem_of_getElem? (i := 28) (by decide +kernel), _, rfl, rfl⟩
theorem ckm_62 : iv_ckm 62 3 none := ⟨List.mem_of_getElem? (i := 893) (by decide +kernel), List.mem_of_getElem? (i := 39) (by decide +kernel), ⟨by decide +kernel, by decide +kernel⟩, by decide +kernel, by decide⟩
theorem ckv_62 : iv_ckv 62 := ⟨List.mem_of_getElem? (i := 892) (by decide +kernel), List.mem_of_getElem? (i := 27) (by decide +kernel), _, rfl, rfl⟩
theorem ckm_63 : iv_ckm 63 4 (some .int) := ⟨List.mem_of_getElem? (i := 889) (by decide +kernel), List.mem_of_getElem? (i := 39) (by decide +kernel), ⟨by decide +kernel, by decide +kernel⟩, by decide +kernel, by decide⟩
theorem ckv_63 : iv_ckv 63 := ⟨List.mem_of_getElem? (i := 887) (by decide +kernel), List.mem_of_getElem? (i := 888) (by decide +kernel), _, rfl, rfl⟩
theorem ckm_64 : iv_ckm 64 6 none := ⟨List.mem_of_getElem? (i := 245) (by decide +kernel), List.mem_of_getElem? (i := 38) (by decide +kernel), ⟨by decide +kernel, by decide +kernel⟩, by decide +kernel, by decide⟩
theorem cki_64 : iv_cki 64 := ⟨List.mem_of_getElem? (i := 244) (by decide +kernel), rfl, fun mL rt code h => by cases h; rfl⟩
theorem ckm_65 : iv_ckm 65 4 (some .int) := ⟨List.mem_of_getElem? (i := 487) (by decide +kernel), List.mem_of_getElem? (i := 38) (by decide +kernel), ⟨by decide +kernel, by decide +kernel⟩, by decide +kernel, by decide⟩
theorem ckv_65 : iv_ckv 65 := ⟨List.mem_of_getElem? (i := 486) (by decide +kernel), List.mem_of_getElem? (i := 2) (by decide +kernel), _, rfl, rfl⟩
theorem ckm_66 : iv_ckm 66 4 (some .boolean) := ⟨List.mem_of_getElem? (i := 491) (by decide +kernel), List.mem_of_getElem? (i := 38) (by decide +kernel), ⟨by decide +kernel, by decide +kernel⟩, by decide +kernel, by decide⟩
theorem ckv_66 : iv_ckv 66 := ⟨List.mem_of_getElem? (i := 490) (by decide +kernel), List.mem_of_getElem? (i := 3) (by decide +kernel), _, rfl, rfl⟩
theorem ckm_67 : iv_ckm 67 8 (some .int) := ⟨List.mem_of_getElem? (i := 495) (by decide +kernel), List.mem_of_getElem? (i := 38) (by decide +kernel), ⟨by decide +kernel, by decide +kernel⟩, by decide +kernel, by decide⟩
theorem ckv_67 : iv_ckv 67 := ⟨List.mem_of_getElem? (i := 494) (by decide +kernel), List.mem_of_getElem? (i := 4) (by decide +kernel), _, rfl, rfl⟩
theorem ckm_68 : iv_ckm 68 4 (some .boolean) := ⟨List.mem_of_getElem? (i := 551) (by decide +kernel), List.mem_of_getElem? (i := 38) (by decide +kernel), ⟨by decide +kernel, by decide +kernel⟩, by decide +kernel, by decide⟩
theorem ckv_68 : iv_ckv 68 := ⟨List.mem_of_getElem? (i := 550) (by decide +kernel), List.mem_of_getElem? (i := 10) (by decide +kernel), _, rfl, rfl⟩
theorem ckm_69 : iv_ckm 69 6 (some .int) := ⟨List.mem_of_getElem? (i := 499) (by decide +kernel), List.mem_of_getElem? (i := 38) (by decide +kernel), ⟨by decide +kernel, by decide +kernel⟩, by decide +kernel, by decide⟩
theorem ckv_69 : iv_ckv 69 := ⟨List.mem_of_getElem? (i := 498) (by decide +kernel), List.mem_of_getElem? (i := 5) (by decide +kernel), _, rfl, rfl⟩
theorem ckm_70 : iv_ckm 70 7 (some .int) := ⟨List.mem_of_getElem? (i := 541) (by decide +kernel), List.mem_of_getElem? (i := 38) (by decide +kernel), ⟨by decide +kernel, by decide +kernel⟩, by decide +kernel, by decide⟩
theorem ckv_70 : iv_ckv 70 := ⟨List.mem_of_getElem? (i := 540) (by decide +kernel), List.mem_of_getElem? (i := 8) (by decide +kernel), _, rfl, rfl⟩
theorem ckm_71 : iv_ckm 71 7 (some .int) := ⟨List.mem_of_getElem? (i := 545) (by decide +kernel), List.mem_of_getElem? (i := 38) (by decide +kernel), ⟨by decide +kernel, by decide +kernel⟩, by decide +kernel, by decide⟩
theorem ckv_71 : iv_ckv 71 := ⟨List.mem_of_getElem? (i := 544) (by decide +kernel), List.mem_of_getElem? (i := 9) (by decide +kernel), _, rfl, rfl⟩
theorem ckm_72 : iv_ckm 72 7 (some .int) := ⟨List.mem_of_getElem? (i := 508) (by decide +kernel), List.mem_of_getElem? (i := 38) (by decide +kernel), ⟨by decide +kernel, by decide +kernel⟩, by decide +kernel, by decide⟩
theorem ckv_72 : iv_ckv 72 := ⟨List.mem_of_getElem? (i := 506) (by decide +kernel), List.mem_of_getElem? (i := 507) (by decide +kernel), _, rfl, rfl⟩
theorem ckm_73 : iv_ckm 73 9 (some .int) := ⟨List.mem_of_getElem? (i := 512) (by decide +kernel), List.mem_of_getElem? (i := 38) (by decide +kernel), ⟨by decide +kernel, by decide +kernel⟩, by decide +kernel, by decide⟩
theorem ckv_73 : iv_ckv 73 := ⟨List.mem_of_getElem? (i := 511) (by decide +kernel), List.mem_of_getElem? (i := 6) (by decide +kernel), _, rfl, rfl⟩
theorem ckm_74 : iv_ckm 74 9 (some .int) := ⟨List.mem_of_getElem? (i := 524) (by decide +kernel), List.mem_of_getElem? (i := 38) (by decide +kernel), ⟨by decide +kernel, by decide +kernel⟩, by decide +kernel, by decide⟩
theorem ckv_74 : iv_ckv 74 := ⟨List.mem_of_getElem? (i := 523) (by decide +kernel), List.mem_of_getElem? (i := 7) (by decide +kernel), _, rfl, rfl⟩
theorem ckm_75 : iv_ckm 75 2 none := ⟨List.mem_of_getElem? (i := 129) (by decide +kernel), List.mem_of_getElem? (i := 34) (by decide +kernel), ⟨by decide +kernel, by decide +kernel⟩, by decide +kernel, by decide⟩
theorem cki_75 : iv_cki 75 := ⟨List.mem_of_getElem? (i := 128) (by decide +kernel), rfl, fun mL rt code h => by cases h; rfl⟩
theorem ckm_76 : iv_ckm 76 4 (some .boolean) := ⟨List.mem_of_getElem? (i := 338) (by decide +kernel), List.mem_of_getElem? (i := 34) (by decide +kernel), ⟨by decide +kernel, by decide +kernel⟩, by decide +kernel, by decide⟩
theorem ckv_76 : iv_ckv 76 := ⟨List.mem_of_getElem? (i := 336) (by decide +kernel), List.mem_of_getElem? (i := 337) (by decide +kernel), _, rfl, rfl⟩
theorem ckm_77 : iv_ckm 77 4 (some .boolean) := ⟨List.mem_of_getElem? (i := 516) (by decide +kernel), List.mem_of_getElem? (i := 34) (by decide +kernel), ⟨by decide +kernel, by decide +kernel⟩, by decide +kernel, by decide⟩
theorem ckv_77 : iv_ckv 77 := ⟨List.mem_of_getElem? (i := 514) (by decide +kernel), List.mem_of_getElem? (i := 515) (by decide +kernel), _, rfl, rfl⟩
theorem ckm_78 : iv_ckm 78 4 none := ⟨List.mem_of_getElem? (i := 342) (by decide +kernel), List.mem_of_getElem? (i := 40) (by decide +kernel), ⟨by decide +kernel, by decide +kernel⟩, by decide +kernel, by decide⟩
theorem cki_78 : iv_cki 78 := ⟨List.mem_of_getElem? (i := 341) (by decide +kernel), rfl, fun mL rt code h => by cases h; rfl⟩
theorem ckm_79 : iv_ckm 79 3 (some .boolean) := ⟨List.mem_of_getElem? (i := 520) (by decide +kernel), List.mem_of_getElem? (i := 40) (by decide +kernel), ⟨by decide +kernel, by decide +kernel⟩, by decide +kernel, by decide⟩
theorem ckv_79 : iv_ckv 79 := ⟨List.mem_of_getElem? (i := 518) (by decide +kernel), List.mem_of_getElem? (i := 519) (by decide +kernel), _, rfl, rfl⟩
theorem ckm_80 : iv_ckm 80 2 (some .boolean) := ⟨List.mem_of_getElem? (i := 528) (by decide +kernel), List.mem_of_getElem? (i := 40) (by decide +kernel), ⟨by decide +kernel, by decide +kernel⟩, by decide +kernel, by decide⟩
theorem ckv_80 : iv_ckv 80 := ⟨List.mem_of_getElem? (i := 526) (by decide +kernel), List.mem_of_getElem? (i := 527) (by decide +kernel), _, rfl, rfl⟩
theorem ckm_81 : iv_ckm 81 2 none := ⟨List.mem_of_getElem? (i := 165) (by decide +kernel), List.mem_of_getElem? (i := 35) (by decide +kernel), ⟨by decide +kernel, by decide +kernel⟩, by decide +kernel, by decide⟩
theorem cki_81 : iv_cki 81 := ⟨List.mem_of_getElem? (i := 164) (by decide +kernel), rfl, fun mL rt code h => by cases h; rfl⟩
theorem ckm_82 : iv_ckm 82 2 (some .boolean) := ⟨List.mem_of_getElem? (i := 396) (by decide +kernel), List.mem_of_getElem? (i := 35) (by decide +kernel), ⟨by decide +kernel, by decide +kernel⟩, by decide +kernel, by decide⟩
theorem ckv_82 : iv_ckv 82 := ⟨List.mem_of_getElem? (i := 394) (by decide +kernel), List.mem_of_getElem? (i := 395) (by decide +kernel), _, rfl, rfl⟩
theorem ckm_83 : iv_ckm 83 2 (some .boolean) := ⟨List.mem_of_getElem? (i := 413) (by decide +kernel), List.mem_of_getElem? (i := 35) (by decide +kernel), ⟨by decide +kernel, by decide +kernel⟩, by decide +kernel, by decide⟩
theorem ckv_83 : iv_ckv 83 := ⟨List.mem_of_getElem? (i := 411) (by decide +kernel), List.mem_of_getElem? (i := 412) (by decide +kernel), _, rfl, rfl⟩
theorem ckm_84 : iv_ckm 84 3 (some .boolean) := ⟨List.mem_of_getElem? (i := 400) (by decide +kernel), List.mem_of_getElem? (i := 35) (by decide +kernel), ⟨by decide +kernel, by decide +kernel⟩, by decide +kernel, by decide⟩
theorem ckv_84 : iv_ckv 84 := ⟨List.mem_of_getElem? (i := 398) (by decide +kernel), List.mem_of_getElem? (i := 399) (by decide +kernel), _, rfl, rfl⟩
theorem ckm_85 : iv_ckm 85 4 none := ⟨List.mem_of_getElem? (i := 404) (by decide +kernel), List.mem_of_getElem? (i := 35) (by decide +kernel), ⟨by decide +kernel, by decide +kernel⟩, by decide +kernel, by decide⟩
theorem ckv_85 : iv_ckv 85 := ⟨List.mem_of_getElem? (i := 402) (by decide +kernel), List.mem_of_getElem? (i := 403) (by decide +kernel), _, rfl, rfl⟩
theorem ckm_86 : iv_ckm 86 5 (some .boolean) := ⟨List.mem_of_getElem? (i := 481) (by decide +kernel), List.mem_of_getElem? (i := 35) (by decide +kernel), ⟨by decide +kernel, by decide +kernel⟩, by decide +kernel, by decide⟩
theorem ckv_86 : iv_ckv 86 := ⟨List.mem_of_getElem? (i := 480) (by decide +kernel), List.mem_of_getElem? (i := 1) (by decide +kernel), _, rfl, rfl⟩
theorem ckm_87 : iv_ckm 87 2 none := ⟨List.mem_of_getElem? (i := 210) (by decide +kernel), List.mem_of_getElem? (i := 37) (by decide +kernel), ⟨by decide +kernel, by decide +kernel⟩, by decide +kernel, by decide⟩
theorem cki_87 : iv_cki 87 := ⟨List.mem_of_getElem? (i := 209) (by decide +kernel), rfl, fun mL rt code h => by cases h; rfl⟩
theorem ckm_88 : iv_ckm 88 2 (some .boolean) := ⟨List.mem_of_getElem? (i := 576) (by decide +kernel), List.mem_of_getElem? (i := 37) (by decide +kernel), ⟨by decide +kernel, by decide +kernel⟩, by decide +kernel, by decide⟩
theorem ckv_88 : iv_ckv 88 := ⟨List.mem_of_getElem? (i := 574) (by decide +kernel), List.mem_of_getElem? (i := 575) (by decide +kernel), _, rfl, rfl⟩
theorem ckm_89 : iv_ckm 89 10 (some .boolean) := ⟨List.mem_of_getElem? (i := 532) (by decide +kernel), List.mem_of_getElem? (i := 37) (by decide +kernel), ⟨by decide +kernel, by decide +kernel⟩, by decide +kernel, by decide⟩
theorem ckv_89 : iv_ckv 89 := ⟨List.mem_of_getElem? (i := 530) (by decide +kernel), List.mem_of_getElem? (i := 531) (by decide +kernel), _, rfl, rfl⟩
theorem ckm_90 : iv_ckm 90 2 (some .int) := ⟨List.mem_of_getElem? (i := 555) (by decide +kernel), List.mem_of_getElem? (i := 37) (by decide +kernel), ⟨by decide +kernel, by decide +kernel⟩, by decide +kernel, by decide⟩
theorem ckv_90 : iv_ckv 90 := ⟨List.mem_of_getElem? (i := 553) (by decide +kernel), List.mem_of_getElem? (i := 554) (by decide +kernel), _, rfl, rfl⟩
theorem ckm_91 : iv_ckm 91 4 none := ⟨List.mem_of_getElem? (i := 584) (by decide +kernel), List.mem_of_getElem? (i := 37) (by decide +kernel), ⟨by decide +kernel, by decide +kernel⟩, by decide +kernel, by decide⟩
theorem ckv_91 : iv_ckv 91 := ⟨List.mem_of_getElem? (i := 582) (by decide +kernel), List.mem_of_getElem? (i := 583) (by decide +kernel), _, rfl, rfl⟩
theorem ckm_92 : iv_ckm 92 3 none := ⟨List.mem_of_getElem? (i := 588) (by decide +kernel), List.mem_of_getElem? (i := 37) (by decide +kernel), ⟨by decide +kernel, by decide +kernel⟩, by decide +kernel, by decide⟩
theorem ckv_92 : iv_ckv 92 := ⟨List.mem_of_getElem? (i := 587) (by decide +kernel), List.mem_of_getElem? (i := 11) (by decide +kernel), _, rfl, rfl⟩
theorem ckm_93 : iv_ckm 93 2 none := ⟨List.mem_of_getElem? (i := 592) (by decide +kernel), List.mem_of_getElem? (i := 37) (by decide +kernel), ⟨by decide +kernel, by decide +kernel⟩, by decide +kernel, by decide⟩
theorem ckv_93 : iv_ckv 93 := ⟨List.mem_of_getElem? (i := 591) (by decide +kernel), List.mem_of_getElem? (i := 12) (by decide +kernel), _, rfl, rfl⟩
theorem ckm_94 : iv_ckm 94 2 none := ⟨List.mem_of_getElem? (i := 61) (by decide +kernel), List.mem_of_getElem? (i := 32) (by decide +kernel), ⟨by decide +kernel, by decide +kernel⟩, by decide +kernel, by decide⟩
theorem cki_94 : iv_cki 94 := ⟨List.mem_of_getElem? (i := 60) (by decide +kernel), rfl, fun mL rt code h => by cases h; rfl⟩
theorem ckm_95 : iv_ckm 95 2 (some .boolean) := ⟨List.mem_of_getElem? (i := 417) (by decide +kernel), List.mem_of_getElem? (i := 32) (by decide +kernel), ⟨by decide +kernel, by decide +kernel⟩, by decide +kernel, by decide⟩
theorem ckv_95 : iv_ckv 95 := ⟨List.mem_of_getElem? (i := 415) (by decide +kernel), List.mem_of_getElem? (i := 416) (by decide +kernel), _, rfl, rfl⟩
theorem ckm_96 : iv_ckm 96 5 none := ⟨List.mem_of_getElem? (i := 361) (by decide +kernel), List.mem_of_getElem? (i := 41) (by decide +kernel), ⟨by decide +kernel, by decide +kernel⟩, by decide +kernel, by decide⟩
theorem cki_96 : iv_cki 96 := ⟨List.mem_of_getElem? (i := 360) (by decide +kernel), rfl, fun mL rt code h => by cases h; rfl⟩
theorem ckm_97 : iv_ckm 97 2 none := ⟨List.mem_of_getElem? (i := 120) (by decide +kernel), List.mem_of_getElem? (i := 33) (by decide +kernel), ⟨by decide +kernel, by decide +kernel⟩, by decide +kernel, by decide⟩
theorem cki_97 : iv_cki 97 := ⟨List.mem_of_getElem? (i := 119) (by decide +kernel), rfl, fun mL rt code h => by cases h; rfl⟩
theorem ckm_98 : iv_ckm 98 2 (some .boolean) := ⟨List.mem_of_getElem? (i := 330) (by decide +kernel), List.mem_of_getElem? (i := 33) (by decide +kernel), ⟨by decide +kernel, by decide +kernel⟩, by decide +kernel, by decide⟩
theorem ckv_98 : iv_ckv 98 := ⟨List.mem_of_getElem? (i := 328) (by decide +kernel), List.mem_of_getElem? (i := 329) (by decide +kernel), _, rfl, rfl⟩
theorem ckm_99 : iv_ckm 99 5 (some (.object "RuleGraph$Composition")) := ⟨List.mem_of_getElem? (i := 334) (by decide +kernel), List.mem_of_getElem? (i := 33) (by decide +kernel), ⟨by decide +kernel, by decide +kernel⟩, by decide +kernel, by decide⟩
theorem ckv_99 : iv_ckv 99 := ⟨List.mem_of_getElem? (i := 332) (by decide +kernel), List.mem_of_getElem? (i := 333) (by decide +kernel), _, rfl, rfl⟩
theorem ckm_100 : iv_ckm 100 5 (some .int) := ⟨List.mem_of_getElem? (i := 357) (by decide +kernel), List.mem_of_getElem? (i := 33) (by decide +kernel), ⟨by decide +kernel, by decide +kernel⟩, by decide +kernel, by decide⟩
theorem ckv_100 : iv_ckv 100 := ⟨List.mem_of_getElem? (i := 355) (by decide +kernel), List.mem_of_getElem? (i := 356) (by decide +kernel), _, rfl, rfl⟩
theorem ckm_101 : iv_ckm 101 2 none := ⟨List.mem_of_getElem? (i := 54) (by decide +kernel), List.mem_of_getElem? (i := 31) (by decide +kernel), ⟨by decide +kernel, by decide +kernel⟩, by decide +kernel, by decide⟩
theorem cki_101 : iv_cki 101 := ⟨List.mem_of_getElem? (i := 53) (by decide +kernel), rfl, fun mL rt code h => by cases h; rfl⟩
theorem ckm_102 : iv_ckm 102 2 (some .boolean) := ⟨List.mem_of_getElem? (i := 302) (by decide +kernel), List.mem_of_getElem? (i := 31) (by decide +kernel), ⟨by decide +kernel, by decide +kernel⟩, by decide +kernel, by decide⟩
theorem ckv_102 : iv_ckv 102 := ⟨List.mem_of_getElem? (i := 300) (by decide +kernel), List.mem_of_getElem? (i := 301) (by decide +kernel), _, rfl, rfl⟩
theorem ckm_103 : iv_ckm 103 2 (some .boolean) := ⟨List.mem_of_getElem? (i := 326) (by decide +kernel), List.mem_of_getElem? (i := 31) (by decide +kernel), ⟨by decide +kernel, by decide +kernel⟩, by decide +kernel, by decide⟩
theorem ckv_103 : iv_ckv 103 := ⟨List.mem_of_getElem? (i := 324) (by decide +kernel), List.mem_of_getElem? (i := 325) (by decide +kernel), _, rfl, rfl⟩
theorem ckm_104 : iv_ckm 104 2 (some .boolean) := ⟨List.mem_of_getElem? (i := 461) (by decide +kernel), List.mem_of_getElem? (i := 31) (by decide +kernel), ⟨by decide +kernel, by decide +kernel⟩, by decide +kernel, by decide⟩
theorem ckv_104 : iv_ckv 104 := ⟨List.mem_of_getElem? (i := 459) (by decide +kernel), List.mem_of_getElem? (i := 460) (by decide +kernel), _, rfl, rfl⟩
theorem ckm_105 : iv_ckm 105 2 (some .boolean) := ⟨List.mem_of_getElem? (i := 429) (by decide +kernel), List.mem_of_getElem? (i := 31) (by decide +kernel), ⟨by decide +kernel, by decide +kernel⟩, by decide +kernel, by decide⟩
theorem ckv_105 : iv_ckv 105 := ⟨List.mem_of_getElem? (i := 427) (by decide +kernel), List.mem_of_getElem? (i := 428) (by decide +kernel), _, rfl, rfl⟩
theorem ckm_106 : iv_ckm 106 3 (some .boolean) := ⟨List.mem_of_getElem? (i := 457) (by decide +kernel), List.mem_of_getElem? (i := 31) (by decide +kernel), ⟨by decide +kernel, by decide +kernel⟩, by decide +kernel, by decide⟩
theorem ckv_106 : iv_ckv 106 := ⟨List.mem_of_getElem? (i := 455) (by decide +kernel), List.mem_of_getElem? (i := 456) (by decide +kernel), _, rfl, rfl⟩
theorem ckm_107 : iv_ckm 107 4 (some .int) := ⟨List.mem_of_getElem? (i := 503) (by decide +kernel), List.mem_of_getElem? (i := 31) (by decide +kernel), ⟨by decide +kernel, by decide +kernel⟩, by decide +kernel, by decide⟩
theorem ckv_107 : iv_ckv 107 := ⟨List.mem_of_getElem? (i := 501) (by decide +kernel), List.mem_of_getElem? (i := 502) (by decide +kernel), _, rfl, rfl⟩
theorem ckm_108 : iv_ckm 108 3 (some .int) := ⟨List.mem_of_getElem? (i := 306) (by decide +kernel), List.mem_of_getElem? (i := 31) (by decide +kernel), ⟨by decide +kernel, by decide +kernel⟩, by decide +kernel, by decide⟩
theorem ckv_108 : iv_ckv 108 := ⟨List.mem_of_getElem? (i := 304) (by decide +kernel), List.mem_of_getElem? (i := 305) (by decide +kernel), _, rfl, rfl⟩
theorem ckm_109 : iv_ckm 109 5 (some .int) := ⟨List.mem_of_getElem? (i := 314) (by decide +kernel), List.mem_of_getElem? (i := 31) (by decide +kernel), ⟨by decide +kernel, by decide +kernel⟩, by decide +kernel, by decide⟩
theorem ckv_109 : iv_ckv 109 := ⟨List.mem_of_getElem? (i := 312) (by decide +kernel), List.mem_of_getElem? (i := 313) (by decide +kernel), _, rfl, rfl⟩
theorem ckm_110 : iv_ckm 110 1 none := ⟨List.mem_of_getElem? (i := 186) (by decide +kernel), List.mem_of_getElem? (i := 36) (by decide +kernel), ⟨by decide +kernel, by decide +kernel⟩, by decide +kernel, by decide⟩
theorem cki_110 : iv_cki 110 := ⟨List.mem_of_getElem? (i := 185) (by decide +kernel), rfl, fun mL rt code h => by cases h; rfl⟩
theorem ckm_111 : iv_ckm 111 2 (some .boolean) := ⟨List.mem_of_getElem? (i := 453) (by decide +kernel), List.mem_of_getElem? (i := 36) (by decide +kernel), ⟨by decide +kernel, by decide +kernel⟩, by decide +kernel, by decide⟩
theorem ckv_111 : iv_ckv 111 := ⟨List.mem_of_getElem? (i := 451) (by decide +kernel), List.mem_of_getElem? (i := 452) (by decide +kernel), _, rfl, rfl⟩
theorem ckm_112 : iv_ckm 112 4 none := ⟨List.mem_of_getElem? (i := 318) (by decide +kernel), List.mem_of_getElem? (i := 36) (by decide +kernel), ⟨by decide +kernel, by decide +kernel⟩, by decide +kernel, by decide⟩
theorem ckv_112 : iv_ckv 112 := ⟨List.mem_of_getElem? (i := 316) (by decide +kernel), List.mem_of_getElem? (i := 317) (by decide +kernel), _, rfl, rfl⟩
theorem ckm_113 : iv_ckm 113 2 (some .int) := ⟨List.mem_of_getElem? (i := 441) (by decide +kernel), List.mem_of_getElem? (i := 36) (by decide +kernel), ⟨by decide +kernel, by decide +kernel⟩, by decide +kernel, by decide⟩
theorem ckv_113 : iv_ckv 113 := ⟨List.mem_of_getElem? (i := 439) (by decide +kernel), List.mem_of_getElem? (i := 440) (by decide +kernel), _, rfl, rfl⟩
theorem ckm_114 : iv_ckm 114 5 (some .boolean) := ⟨List.mem_of_getElem? (i := 469) (by decide +kernel), List.mem_of_getElem? (i := 36) (by decide +kernel), ⟨by decide +kernel, by decide +kernel⟩, by decide +kernel, by decide⟩
theorem ckv_114 : iv_ckv 114 := ⟨List.mem_of_getElem? (i := 467) (by decide +kernel), List.mem_of_getElem? (i := 468) (by decide +kernel), _, rfl, rfl⟩
theorem ckm_115 : iv_ckm 115 4 (some .int) := ⟨List.mem_of_getElem? (i := 537) (by decide +kernel), List.mem_of_getElem? (i := 36) (by decide +kernel), ⟨by decide +kernel, by decide +kernel⟩, by decide +kernel, by decide⟩
theorem ckv_115 : iv_ckv 115 := ⟨List.mem_of_getElem? (i := 535) (by decide +kernel), List.mem_of_getElem? (i := 536) (by decide +kernel), _, rfl, rfl⟩
theorem ck_m : ∀ (x mL : Nat) (rt : Option FieldType) (code : List iv_I), iv_M x = some (mL, rt, code) → iv_ckm x mL rt := by
  intro x mL rt code h
  unfold iv_M at h
  split at h
  · cases h
  · rename_i h2
    have hi : x < 116 := (List.getElem?_eq_some_iff.mp h).1
    match x, h2, hi, h with
    | 0, h2, _, _ => exact absurd (by decide) h2
    | 1, h2, _, _ => exact absurd (by decide) h2
    | 2, _, _, h => cases h; exact ckm_2
    | 3, _, _, h => cases h; exact ckm_3
    | 4, _, _, h => cases h; exact ckm_4
    | 5, _, _, h => cases h; exact ckm_5
    | 6, _, _, h => cases h; exact ckm_6
    | 7, _, _, h => cases h; exact ckm_7
    | 8, _, _, h => cases h; exact ckm_8
    | 9, _, _, h => cases h; exact ckm_9
    | 10, _, _, h => cases h; exact ckm_10
    | 11, _, _, h => cases h; exact ckm_11
    | 12, _, _, h => cases h; exact ckm_12
    | 13, _, _, h => cases h; exact ckm_13
    | 14, _, _, h => cases h; exact ckm_14
    | 15, _, _, h => cases h; exact ckm_15
    | 16, _, _, h => cases h; exact ckm_16
    | 17, _, _, h => cases h; exact ckm_17
    | 18, _, _, h => cases h; exact ckm_18
    | 19, _, _, h => cases h; exact ckm_19
    | 20, _, _, h => cases h; exact ckm_20
    | 21, _, _, h => cases h; exact ckm_21
    | 22, _, _, h => cases h; exact ckm_22
    | 23, _, _, h => cases h; exact ckm_23
    | 24, _, _, h => cases h; exact ckm_24
    | 25, _, _, h => cases h; exact ckm_25
    | 26, _, _, h => cases h; exact ckm_26
    | 27, _, _, h => cases h; exact ckm_27
    | 28, _, _, h => cases h; exact ckm_28
    | 29, _, _, h => cases h; exact ckm_29
    | 30, _, _, h => cases h; exact ckm_30
    | 31, _, _, h => cases h; exact ckm_31
    | 32, _, _, h => cases h; exact ckm_32
    | 33, _, _, h => cases h; exact ckm_33
    | 34, _, _, h => cases h; exact ckm_34
    | 35, _, _, h => cases h; exact ckm_35
    | 36, _, _, h => cases h; exact ckm_36
    | 37, _, _, h => cases h; exact ckm_37
    | 38, _, _, h => cases h; exact ckm_38
    | 39, _, _, h => cases h; exact ckm_39
    | 40, _, _, h => cases h; exact ckm_40
    | 41, _, _, h => cases h; exact ckm_41
    | 42, _, _, h => cases h; exact ckm_42
    | 43, _, _, h => cases h; exact ckm_43
    | 44, _, _, h => cases h; exact ckm_44
    | 45, _, _, h => cases h; exact ckm_45
    | 46, _, _, h => cases h; exact ckm_46
    | 47, _, _, h => cases h; exact ckm_47
    | 48, _, _, h => cases h; exact ckm_48
    | 49, _, _, h => cases h; exact ckm_49
    | 50, _, _, h => cases h; exact ckm_50
    | 51, _, _, h => cases h; exact ckm_51
    | 52, _, _, h => cases h; exact ckm_52
    | 53, _, _, h => cases h; exact ckm_53
    | 54, _, _, h => cases h; exact ckm_54
    | 55, _, _, h => cases h; exact ckm_55
    | 56, _, _, h => cases h; exact ckm_56
    | 57, _, _, h => cases h; exact ckm_57
    | 58, _, _, h => cases h; exact ckm_58
    | 59, _, _, h => cases h; exact ckm_59
    | 60, _, _, h => cases h; exact ckm_60
    | 61, _, _, h => cases h; exact ckm_61
    | 62, _, _, h => cases h; exact ckm_62
    | 63, _, _, h => cases h; exact ckm_63
    | 64, _, _, h => cases h; exact ckm_64
    | 65, _, _, h => cases h; exact ckm_65
    | 66, _, _, h => cases h; exact ckm_66
    | 67, _, _, h => cases h; exact ckm_67
    | 68, _, _, h => cases h; exact ckm_68
    | 69, _, _, h => cases h; exact ckm_69
    | 70, _, _, h => cases h; exact ckm_70
    | 71, _, _, h => cases h; exact ckm_71
    | 72, _, _, h => cases h; exact ckm_72
    | 73, _, _, h => cases h; exact ckm_73
    | 74, _, _, h => cases h; exact ckm_74
    | 75, _, _, h => cases h; exact ckm_75
    | 76, _, _, h => cases h; exact ckm_76
    | 77, _, _, h => cases h; exact ckm_77
    | 78, _, _, h => cases h; exact ckm_78
    | 79, _, _, h => cases h; exact ckm_79
    | 80, _, _, h => cases h; exact ckm_80
    | 81, _, _, h => cases h; exact ckm_81
    | 82, _, _, h => cases h; exact ckm_82
    | 83, _, _, h => cases h; exact ckm_83
    | 84, _, _, h => cases h; exact ckm_84
    | 85, _, _, h => cases h; exact ckm_85
    | 86, _, _, h => cases h; exact ckm_86
    | 87, _, _, h => cases h; exact ckm_87
    | 88, _, _, h => cases h; exact ckm_88
    | 89, _, _, h => cases h; exact ckm_89
    | 90, _, _, h => cases h; exact ckm_90
    | 91, _, _, h => cases h; exact ckm_91
    | 92, _, _, h => cases h; exact ckm_92
    | 93, _, _, h => cases h; exact ckm_93
    | 94, _, _, h => cases h; exact ckm_94
    | 95, _, _, h => cases h; exact ckm_95
    | 96, _, _, h => cases h; exact ckm_96
    | 97, _, _, h => cases h; exact ckm_97
    | 98, _, _, h => cases h; exact ckm_98
    | 99, _, _, h => cases h; exact ckm_99
    | 100, _, _, h => cases h; exact ckm_100
    | 101, _, _, h => cases h; exact ckm_101
    | 102, _, _, h => cases h; exact ckm_102
    | 103, _, _, h => cases h; exact ckm_103
    | 104, _, _, h => cases h; exact ckm_104
    | 105, _, _, h => cases h; exact ckm_105
    | 106, _, _, h => cases h; exact ckm_106
    | 107, _, _, h => cases h; exact ckm_107
    | 108, _, _, h => cases h; exact ckm_108
    | 109, _, _, h => cases h; exact ckm_109
    | 110, _, _, h => cases h; exact ckm_110
    | 111, _, _, h => cases h; exact ckm_111
    | 112, _, _, h => cases h; exact ckm_112
    | 113, _, _, h => cases h; exact ckm_113
    | 114, _, _, h => cases h; exact ckm_114
    | 115, _, _, h => cases h; exact ckm_115
    | n + 116, _, hi, _ => omega
end
section
/-! a run of the small machine is a walk of the method -/
def iv_T (p : Program) (l : Launch) (e : Env) (R : Room) (s : State) (m : MethodId) (args : Array Value) (below : List Frame) (meth : Method) (c : Code) (Q : State → Prop) (D : va_G) (b z n0 s0 nL : Nat) (pc : Nat) (L st : List Value) (w : iv_S) : Prop :=
  ∀ (H : Heap) (ls : Array Slot) (locs : List Loc) (cells slots : Nat), iv_rep D b z s w H → iv_fr (iv_r b z) nL L ls → (∀ q ∈ locs, z ≤ q.base) → n0 + cells = w.2.1 → s0 + slots = w.2.2 → W p l e R s m args below meth c H locs cells slots Q (F0 m pc ls (st.map (iv_mv (iv_r b z))))
def iv_le (w w' : iv_S) : Prop := w.2.1 ≤ w'.2.1 ∧ w.2.2 ≤ w'.2.2
section IVC
variable {p : Program} {l : Launch} {e : Env} {R : Room} {s : State} {m : MethodId} {args : Array Value} {below : List Frame} {meth : Method} {c : Code} {Q : State → Prop}
variable {D : va_G} {b z n0 s0 nL : Nat} {own : String} {cc : ByteArray} {code : List iv_I} {rt : Option FieldType} {call : Nat → List Value → iv_S → iv_R} {v : Option Value} {w' : iv_S} {K : iv_Q} {pc k : Nat} {L st : List Value} {w : iv_S}
theorem iv_c_iconst (hx : p.tables.exec = Jvm.exec) (hb : c.code = cc) (hK : ∀ (k : Nat) (L st : List Value) (w : iv_S), K k L st w = some (v, w') → (iv_le w w' ∧ ∃ J, code[k]? = some J ∧ iv_T p l e R s m args below meth c Q D b z n0 s0 nL J.1.1 L st w)) {n : Int} (hd : decode cc pc = .ok (.iconst n, 1)) (hn : ∀ J, code[k + 1]? = some J → J.1.1 = pc + 1) (h : K (k + 1) L (.int (Int32.ofInt n) :: st) w = some (v, w')) : iv_le w w' ∧ iv_T p l e R s m args below meth c Q D b z n0 s0 nL (pc) L st w := by
  obtain ⟨h1, J, h2, h3⟩ := hK _ _ _ _ h
  refine ⟨h1, fun H ls locs cells slots a1 a2 a3 a4 a5 => ?_⟩
  have h4 := h3 H ls locs cells slots a1 a2 a3 a4 a5
  rw [hn J h2] at h4
  exact lv_iconst hx hb hd rfl h4
theorem iv_c_bipush (hx : p.tables.exec = Jvm.exec) (hb : c.code = cc) (hK : ∀ (k : Nat) (L st : List Value) (w : iv_S), K k L st w = some (v, w') → (iv_le w w' ∧ ∃ J, code[k]? = some J ∧ iv_T p l e R s m args below meth c Q D b z n0 s0 nL J.1.1 L st w)) {n : Int} (hd : decode cc pc = .ok (.bipush n, 2)) (hn : ∀ J, code[k + 1]? = some J → J.1.1 = pc + 2) (h : K (k + 1) L (.int (Int8.ofInt n).toInt32 :: st) w = some (v, w')) : iv_le w w' ∧ iv_T p l e R s m args below meth c Q D b z n0 s0 nL (pc) L st w := by
  obtain ⟨h1, J, h2, h3⟩ := hK _ _ _ _ h
  refine ⟨h1, fun H ls locs cells slots a1 a2 a3 a4 a5 => ?_⟩
  have h4 := h3 H ls locs cells slots a1 a2 a3 a4 a5
  rw [hn J h2] at h4
  exact lv_bipush hx hb hd rfl h4
theorem iv_c_sipush (hx : p.tables.exec = Jvm.exec) (hb : c.code = cc) (hK : ∀ (k : Nat) (L st : List Value) (w : iv_S), K k L st w = some (v, w') → (iv_le w w' ∧ ∃ J, code[k]? = some J ∧ iv_T p l e R s m args below meth c Q D b z n0 s0 nL J.1.1 L st w)) {n : Int} (hd : decode cc pc = .ok (.sipush n, 3)) (hn : ∀ J, code[k + 1]? = some J → J.1.1 = pc + 3) (h : K (k + 1) L (.int (Int16.ofInt n).toInt32 :: st) w = some (v, w')) : iv_le w w' ∧ iv_T p l e R s m args below meth c Q D b z n0 s0 nL (pc) L st w := by
  obtain ⟨h1, J, h2, h3⟩ := hK _ _ _ _ h
  refine ⟨h1, fun H ls locs cells slots a1 a2 a3 a4 a5 => ?_⟩
  have h4 := h3 H ls locs cells slots a1 a2 a3 a4 a5
  rw [hn J h2] at h4
  exact lv_sipush hx hb hd rfl h4
theorem iv_c_null (hx : p.tables.exec = Jvm.exec) (hb : c.code = cc) (hK : ∀ (k : Nat) (L st : List Value) (w : iv_S), K k L st w = some (v, w') → (iv_le w w' ∧ ∃ J, code[k]? = some J ∧ iv_T p l e R s m args below meth c Q D b z n0 s0 nL J.1.1 L st w)) (hd : decode cc pc = .ok (.aconst_null, 1)) (hn : ∀ J, code[k + 1]? = some J → J.1.1 = pc + 1) (h : K (k + 1) L (.null :: st) w = some (v, w')) : iv_le w w' ∧ iv_T p l e R s m args below meth c Q D b z n0 s0 nL (pc) L st w := by
  obtain ⟨h1, J, h2, h3⟩ := hK _ _ _ _ h
  refine ⟨h1, fun H ls locs cells slots a1 a2 a3 a4 a5 => ?_⟩
  have h4 := h3 H ls locs cells slots a1 a2 a3 a4 a5
  rw [hn J h2] at h4
  exact lv_null hx hb hd h4
theorem iv_c_ldc (hx : p.tables.exec = Jvm.exec) (hb : c.code = cc) (hK : ∀ (k : Nat) (L st : List Value) (w : iv_S), K k L st w = some (v, w') → (iv_le w w' ∧ ∃ J, code[k]? = some J ∧ iv_T p l e R s m args below meth c Q D b z n0 s0 nL J.1.1 L st w)) (hown : s.vm.findClass own = some m.cls) (hW : iv_Kw D s) {index x u : Nat} (hlink : lw_tbl[u]? = some (.constant own index (Int32.ofNat x))) (hd : decode cc pc = .ok (.ldc index, 2)) (hn : ∀ J, code[k + 1]? = some J → J.1.1 = pc + 2) (h : K (k + 1) L (.int (Int32.ofNat x) :: st) w = some (v, w')) : iv_le w w' ∧ iv_T p l e R s m args below meth c Q D b z n0 s0 nL (pc) L st w := by
  obtain ⟨h1, J, h2, h3⟩ := hK _ _ _ _ h
  refine ⟨h1, fun H ls locs cells slots a1 a2 a3 a4 a5 => ?_⟩
  have h4 := h3 H ls locs cells slots a1 a2 a3 a4 a5
  rw [hn J h2] at h4
  exact lv_ldc hx hb hown (hW.at hlink rfl) hd h4
theorem iv_c_iload (hx : p.tables.exec = Jvm.exec) (hb : c.code = cc) (hK : ∀ (k : Nat) (L st : List Value) (w : iv_S), K k L st w = some (v, w') → (iv_le w w' ∧ ∃ J, code[k]? = some J ∧ iv_T p l e R s m args below meth c Q D b z n0 s0 nL J.1.1 L st w)) {i : Nat} (hd : decode cc pc = .ok (.iload i, 2)) (hn : ∀ J, code[k + 1]? = some J → J.1.1 = pc + 2) (h : iv_ldi L i (fun x => K (k + 1) L (.int x :: st) w) = some (v, w')) : iv_le w w' ∧ iv_T p l e R s m args below meth c Q D b z n0 s0 nL (pc) L st w := by
  unfold iv_ldi at h
  split at h
  · rename_i x hL
    obtain ⟨h1, J, h2, h3⟩ := hK _ _ _ _ h
    refine ⟨h1, fun H ls locs cells slots a1 a2 a3 a4 a5 => ?_⟩
    have h4 := h3 H ls locs cells slots a1 a2 a3 a4 a5
    rw [hn J h2] at h4
    exact lv_iload hx hb hd (a2.get hL rfl) h4
  · cases h
theorem iv_c_iload_n (hx : p.tables.exec = Jvm.exec) (hb : c.code = cc) (hK : ∀ (k : Nat) (L st : List Value) (w : iv_S), K k L st w = some (v, w') → (iv_le w w' ∧ ∃ J, code[k]? = some J ∧ iv_T p l e R s m args below meth c Q D b z n0 s0 nL J.1.1 L st w)) {i : Fin 4} (hd : decode cc pc = .ok (.iload_n i, 1)) (hn : ∀ J, code[k + 1]? = some J → J.1.1 = pc + 1) (h : iv_ldi L i.val (fun x => K (k + 1) L (.int x :: st) w) = some (v, w')) : iv_le w w' ∧ iv_T p l e R s m args below meth c Q D b z n0 s0 nL (pc) L st w := by
  unfold iv_ldi at h
  split at h
  · rename_i x hL
    obtain ⟨h1, J, h2, h3⟩ := hK _ _ _ _ h
    refine ⟨h1, fun H ls locs cells slots a1 a2 a3 a4 a5 => ?_⟩
    have h4 := h3 H ls locs cells slots a1 a2 a3 a4 a5
    rw [hn J h2] at h4
    exact lv_iload_n hx hb hd rfl (a2.get hL rfl) h4
  · cases h
theorem iv_c_aload (hx : p.tables.exec = Jvm.exec) (hb : c.code = cc) (hK : ∀ (k : Nat) (L st : List Value) (w : iv_S), K k L st w = some (v, w') → (iv_le w w' ∧ ∃ J, code[k]? = some J ∧ iv_T p l e R s m args below meth c Q D b z n0 s0 nL J.1.1 L st w)) {i : Nat} (hd : decode cc pc = .ok (.aload i, 2)) (hn : ∀ J, code[k + 1]? = some J → J.1.1 = pc + 2) (h : iv_lda L i (fun x => K (k + 1) L (x :: st) w) = some (v, w')) : iv_le w w' ∧ iv_T p l e R s m args below meth c Q D b z n0 s0 nL (pc) L st w := by
  unfold iv_lda at h
  split at h
  · rename_i x hL
    obtain ⟨h1, J, h2, h3⟩ := hK _ _ _ _ h
    refine ⟨h1, fun H ls locs cells slots a1 a2 a3 a4 a5 => ?_⟩
    have h4 := h3 H ls locs cells slots a1 a2 a3 a4 a5
    rw [hn J h2] at h4
    exact lv_aload hx hb hd (a2.get hL rfl) h4
  · rename_i hL
    obtain ⟨h1, J, h2, h3⟩ := hK _ _ _ _ h
    refine ⟨h1, fun H ls locs cells slots a1 a2 a3 a4 a5 => ?_⟩
    have h4 := h3 H ls locs cells slots a1 a2 a3 a4 a5
    rw [hn J h2] at h4
    exact lv_aloadN hx hb hd (a2.get hL rfl) h4
  · cases h
theorem iv_c_aload_n (hx : p.tables.exec = Jvm.exec) (hb : c.code = cc) (hK : ∀ (k : Nat) (L st : List Value) (w : iv_S), K k L st w = some (v, w') → (iv_le w w' ∧ ∃ J, code[k]? = some J ∧ iv_T p l e R s m args below meth c Q D b z n0 s0 nL J.1.1 L st w)) {i : Fin 4} (hd : decode cc pc = .ok (.aload_n i, 1)) (hn : ∀ J, code[k + 1]? = some J → J.1.1 = pc + 1) (h : iv_lda L i.val (fun x => K (k + 1) L (x :: st) w) = some (v, w')) : iv_le w w' ∧ iv_T p l e R s m args below meth c Q D b z n0 s0 nL (pc) L st w := by
  unfold iv_lda at h
  split at h
  · rename_i x hL
    obtain ⟨h1, J, h2, h3⟩ := hK _ _ _ _ h
    refine ⟨h1, fun H ls locs cells slots a1 a2 a3 a4 a5 => ?_⟩
    have h4 := h3 H ls locs cells slots a1 a2 a3 a4 a5
    rw [hn J h2] at h4
    exact lv_aload_n hx hb hd rfl (a2.get hL rfl) h4
  · rename_i hL
    obtain ⟨h1, J, h2, h3⟩ := hK _ _ _ _ h
    refine ⟨h1, fun H ls locs cells slots a1 a2 a3 a4 a5 => ?_⟩
    have h4 := h3 H ls locs cells slots a1 a2 a3 a4 a5
    rw [hn J h2] at h4
    exact lv_aload_nN hx hb hd rfl (a2.get hL rfl) h4
  · cases h
theorem iv_c_istore (hx : p.tables.exec = Jvm.exec) (hb : c.code = cc) (hK : ∀ (k : Nat) (L st : List Value) (w : iv_S), K k L st w = some (v, w') → (iv_le w w' ∧ ∃ J, code[k]? = some J ∧ iv_T p l e R s m args below meth c Q D b z n0 s0 nL J.1.1 L st w)) {i : Nat} (hd : decode cc pc = .ok (.istore i, 2)) (hn : ∀ J, code[k + 1]? = some J → J.1.1 = pc + 2) (h : iv_p1 st (fun x st' => iv_sto L i (.int x) (fun L' => K (k + 1) L' st' w)) = some (v, w')) : iv_le w w' ∧ iv_T p l e R s m args below meth c Q D b z n0 s0 nL (pc) L st w := by
  unfold iv_p1 at h
  split at h
  · unfold iv_sto at h
    split at h
    · rename_i hlt
      obtain ⟨h1, J, h2, h3⟩ := hK _ _ _ _ h
      refine ⟨h1, fun H ls locs cells slots a1 a2 a3 a4 a5 => ?_⟩
      obtain ⟨hl, lv, b1, b2⟩ := a2
      refine lv_istore hx hb hd b1 (by omega) rfl fun ls' b3 => ?_
      have h4 := h3 H ls' locs cells slots a1 (iv_fr.set hl b2 b3) a3 a4 a5
      rw [hn J h2] at h4
      exact h4
    · cases h
  · cases h
theorem iv_c_istore_n (hx : p.tables.exec = Jvm.exec) (hb : c.code = cc) (hK : ∀ (k : Nat) (L st : List Value) (w : iv_S), K k L st w = some (v, w') → (iv_le w w' ∧ ∃ J, code[k]? = some J ∧ iv_T p l e R s m args below meth c Q D b z n0 s0 nL J.1.1 L st w)) {i : Fin 4} (hd : decode cc pc = .ok (.istore_n i, 1)) (hn : ∀ J, code[k + 1]? = some J → J.1.1 = pc + 1) (h : iv_p1 st (fun x st' => iv_sto L i.val (.int x) (fun L' => K (k + 1) L' st' w)) = some (v, w')) : iv_le w w' ∧ iv_T p l e R s m args below meth c Q D b z n0 s0 nL (pc) L st w := by
  unfold iv_p1 at h
  split at h
  · unfold iv_sto at h
    split at h
    · rename_i hlt
      obtain ⟨h1, J, h2, h3⟩ := hK _ _ _ _ h
      refine ⟨h1, fun H ls locs cells slots a1 a2 a3 a4 a5 => ?_⟩
      obtain ⟨hl, lv, b1, b2⟩ := a2
      refine lv_istore_n hx hb hd rfl b1 (by omega) rfl fun ls' b3 => ?_
      have h4 := h3 H ls' locs cells slots a1 (iv_fr.set hl b2 b3) a3 a4 a5
      rw [hn J h2] at h4
      exact h4
    · cases h
  · cases h
theorem iv_c_astore (hx : p.tables.exec = Jvm.exec) (hb : c.code = cc) (hK : ∀ (k : Nat) (L st : List Value) (w : iv_S), K k L st w = some (v, w') → (iv_le w w' ∧ ∃ J, code[k]? = some J ∧ iv_T p l e R s m args below meth c Q D b z n0 s0 nL J.1.1 L st w)) {i : Nat} (hd : decode cc pc = .ok (.astore i, 2)) (hn : ∀ J, code[k + 1]? = some J → J.1.1 = pc + 2) (h : (match st with
    | .ref a :: st' => iv_sto L i (.ref a) (fun L' => K (k + 1) L' st' w)
    | _ => none) = some (v, w')) : iv_le w w' ∧ iv_T p l e R s m args below meth c Q D b z n0 s0 nL (pc) L st w := by
  split at h
  · unfold iv_sto at h
    split at h
    · rename_i hlt
      obtain ⟨h1, J, h2, h3⟩ := hK _ _ _ _ h
      refine ⟨h1, fun H ls locs cells slots a1 a2 a3 a4 a5 => ?_⟩
      obtain ⟨hl, lv, b1, b2⟩ := a2
      refine lv_astore hx hb hd b1 (by omega) rfl fun ls' b3 => ?_
      have h4 := h3 H ls' locs cells slots a1 (iv_fr.set hl b2 b3) a3 a4 a5
      rw [hn J h2] at h4
      exact h4
    · cases h
  · cases h
theorem iv_c_astore_n (hx : p.tables.exec = Jvm.exec) (hb : c.code = cc) (hK : ∀ (k : Nat) (L st : List Value) (w : iv_S), K k L st w = some (v, w') → (iv_le w w' ∧ ∃ J, code[k]? = some J ∧ iv_T p l e R s m args below meth c Q D b z n0 s0 nL J.1.1 L st w)) {i : Fin 4} (hd : decode cc pc = .ok (.astore_n i, 1)) (hn : ∀ J, code[k + 1]? = some J → J.1.1 = pc + 1) (h : (match st with
    | .ref a :: st' => iv_sto L i.val (.ref a) (fun L' => K (k + 1) L' st' w)
    | _ => none) = some (v, w')) : iv_le w w' ∧ iv_T p l e R s m args below meth c Q D b z n0 s0 nL (pc) L st w := by
  split at h
  · unfold iv_sto at h
    split at h
    · rename_i hlt
      obtain ⟨h1, J, h2, h3⟩ := hK _ _ _ _ h
      refine ⟨h1, fun H ls locs cells slots a1 a2 a3 a4 a5 => ?_⟩
      obtain ⟨hl, lv, b1, b2⟩ := a2
      refine lv_astore_n hx hb hd rfl b1 (by omega) rfl fun ls' b3 => ?_
      have h4 := h3 H ls' locs cells slots a1 (iv_fr.set hl b2 b3) a3 a4 a5
      rw [hn J h2] at h4
      exact h4
    · cases h
  · cases h
theorem iv_c_iinc (hx : p.tables.exec = Jvm.exec) (hb : c.code = cc) (hK : ∀ (k : Nat) (L st : List Value) (w : iv_S), K k L st w = some (v, w') → (iv_le w w' ∧ ∃ J, code[k]? = some J ∧ iv_T p l e R s m args below meth c Q D b z n0 s0 nL J.1.1 L st w)) {i : Nat} {n : Int} (hd : decode cc pc = .ok (.iinc i n, 3)) (hn : ∀ J, code[k + 1]? = some J → J.1.1 = pc + 3) (h : iv_ldi L i (fun x => iv_sto L i (.int (x + Int32.ofInt n)) (fun L' => K (k + 1) L' st w)) = some (v, w')) : iv_le w w' ∧ iv_T p l e R s m args below meth c Q D b z n0 s0 nL (pc) L st w := by
  unfold iv_ldi at h
  split at h
  · rename_i x hL
    unfold iv_sto at h
    split at h
    · rename_i hlt
      obtain ⟨h1, J, h2, h3⟩ := hK _ _ _ _ h
      refine ⟨h1, fun H ls locs cells slots a1 a2 a3 a4 a5 => ?_⟩
      obtain ⟨hl, lv, b1, b2⟩ := a2
      obtain ⟨kk, hkk⟩ := List.getElem?_of_mem (b2 i _ hL rfl)
      refine lv_iinc hx hb hd b1 hkk rfl (by omega) rfl fun ls' b3 => ?_
      have h4 := h3 H ls' locs cells slots a1 (iv_fr.set hl b2 b3) a3 a4 a5
      rw [hn J h2] at h4
      exact h4
    · cases h
  · cases h
theorem iv_c_iadd (hx : p.tables.exec = Jvm.exec) (hb : c.code = cc) (hK : ∀ (k : Nat) (L st : List Value) (w : iv_S), K k L st w = some (v, w') → (iv_le w w' ∧ ∃ J, code[k]? = some J ∧ iv_T p l e R s m args below meth c Q D b z n0 s0 nL J.1.1 L st w)) (hd : decode cc pc = .ok (.iadd, 1)) (hn : ∀ J, code[k + 1]? = some J → J.1.1 = pc + 1) (h : iv_p2 st (fun x y st' => K (k + 1) L (.int (x + y) :: st') w) = some (v, w')) : iv_le w w' ∧ iv_T p l e R s m args below meth c Q D b z n0 s0 nL (pc) L st w := by
  unfold iv_p2 at h
  split at h
  · obtain ⟨h1, J, h2, h3⟩ := hK _ _ _ _ h
    refine ⟨h1, fun H ls locs cells slots a1 a2 a3 a4 a5 => ?_⟩
    have h4 := h3 H ls locs cells slots a1 a2 a3 a4 a5
    rw [hn J h2] at h4
    exact lv_iadd hx hb hd h4
  · cases h
theorem iv_c_isub (hx : p.tables.exec = Jvm.exec) (hb : c.code = cc) (hK : ∀ (k : Nat) (L st : List Value) (w : iv_S), K k L st w = some (v, w') → (iv_le w w' ∧ ∃ J, code[k]? = some J ∧ iv_T p l e R s m args below meth c Q D b z n0 s0 nL J.1.1 L st w)) (hd : decode cc pc = .ok (.isub, 1)) (hn : ∀ J, code[k + 1]? = some J → J.1.1 = pc + 1) (h : iv_p2 st (fun x y st' => K (k + 1) L (.int (x - y) :: st') w) = some (v, w')) : iv_le w w' ∧ iv_T p l e R s m args below meth c Q D b z n0 s0 nL (pc) L st w := by
  unfold iv_p2 at h
  split at h
  · obtain ⟨h1, J, h2, h3⟩ := hK _ _ _ _ h
    refine ⟨h1, fun H ls locs cells slots a1 a2 a3 a4 a5 => ?_⟩
    have h4 := h3 H ls locs cells slots a1 a2 a3 a4 a5
    rw [hn J h2] at h4
    exact lv_isub hx hb hd h4
  · cases h
theorem iv_c_imul (hx : p.tables.exec = Jvm.exec) (hb : c.code = cc) (hK : ∀ (k : Nat) (L st : List Value) (w : iv_S), K k L st w = some (v, w') → (iv_le w w' ∧ ∃ J, code[k]? = some J ∧ iv_T p l e R s m args below meth c Q D b z n0 s0 nL J.1.1 L st w)) (hd : decode cc pc = .ok (.imul, 1)) (hn : ∀ J, code[k + 1]? = some J → J.1.1 = pc + 1) (h : iv_p2 st (fun x y st' => K (k + 1) L (.int (x * y) :: st') w) = some (v, w')) : iv_le w w' ∧ iv_T p l e R s m args below meth c Q D b z n0 s0 nL (pc) L st w := by
  unfold iv_p2 at h
  split at h
  · obtain ⟨h1, J, h2, h3⟩ := hK _ _ _ _ h
    refine ⟨h1, fun H ls locs cells slots a1 a2 a3 a4 a5 => ?_⟩
    have h4 := h3 H ls locs cells slots a1 a2 a3 a4 a5
    rw [hn J h2] at h4
    exact lv_imul hx hb hd h4
  · cases h
theorem iv_c_iand (hx : p.tables.exec = Jvm.exec) (hb : c.code = cc) (hK : ∀ (k : Nat) (L st : List Value) (w : iv_S), K k L st w = some (v, w') → (iv_le w w' ∧ ∃ J, code[k]? = some J ∧ iv_T p l e R s m args below meth c Q D b z n0 s0 nL J.1.1 L st w)) (hd : decode cc pc = .ok (.iand, 1)) (hn : ∀ J, code[k + 1]? = some J → J.1.1 = pc + 1) (h : iv_p2 st (fun x y st' => K (k + 1) L (.int (x &&& y) :: st') w) = some (v, w')) : iv_le w w' ∧ iv_T p l e R s m args below meth c Q D b z n0 s0 nL (pc) L st w := by
  unfold iv_p2 at h
  split at h
  · obtain ⟨h1, J, h2, h3⟩ := hK _ _ _ _ h
    refine ⟨h1, fun H ls locs cells slots a1 a2 a3 a4 a5 => ?_⟩
    have h4 := h3 H ls locs cells slots a1 a2 a3 a4 a5
    rw [hn J h2] at h4
    exact lv_iand hx hb hd h4
  · cases h
theorem iv_c_ior (hx : p.tables.exec = Jvm.exec) (hb : c.code = cc) (hK : ∀ (k : Nat) (L st : List Value) (w : iv_S), K k L st w = some (v, w') → (iv_le w w' ∧ ∃ J, code[k]? = some J ∧ iv_T p l e R s m args below meth c Q D b z n0 s0 nL J.1.1 L st w)) (hd : decode cc pc = .ok (.ior, 1)) (hn : ∀ J, code[k + 1]? = some J → J.1.1 = pc + 1) (h : iv_p2 st (fun x y st' => K (k + 1) L (.int (x ||| y) :: st') w) = some (v, w')) : iv_le w w' ∧ iv_T p l e R s m args below meth c Q D b z n0 s0 nL (pc) L st w := by
  unfold iv_p2 at h
  split at h
  · obtain ⟨h1, J, h2, h3⟩ := hK _ _ _ _ h
    refine ⟨h1, fun H ls locs cells slots a1 a2 a3 a4 a5 => ?_⟩
    have h4 := h3 H ls locs cells slots a1 a2 a3 a4 a5
    rw [hn J h2] at h4
    exact lv_ior hx hb hd h4
  · cases h
theorem iv_c_ixor (hx : p.tables.exec = Jvm.exec) (hb : c.code = cc) (hK : ∀ (k : Nat) (L st : List Value) (w : iv_S), K k L st w = some (v, w') → (iv_le w w' ∧ ∃ J, code[k]? = some J ∧ iv_T p l e R s m args below meth c Q D b z n0 s0 nL J.1.1 L st w)) (hd : decode cc pc = .ok (.ixor, 1)) (hn : ∀ J, code[k + 1]? = some J → J.1.1 = pc + 1) (h : iv_p2 st (fun x y st' => K (k + 1) L (.int (x ^^^ y) :: st') w) = some (v, w')) : iv_le w w' ∧ iv_T p l e R s m args below meth c Q D b z n0 s0 nL (pc) L st w := by
  unfold iv_p2 at h
  split at h
  · obtain ⟨h1, J, h2, h3⟩ := hK _ _ _ _ h
    refine ⟨h1, fun H ls locs cells slots a1 a2 a3 a4 a5 => ?_⟩
    have h4 := h3 H ls locs cells slots a1 a2 a3 a4 a5
    rw [hn J h2] at h4
    exact lv_ixor hx hb hd h4
  · cases h
theorem iv_c_ishl (hx : p.tables.exec = Jvm.exec) (hb : c.code = cc) (hK : ∀ (k : Nat) (L st : List Value) (w : iv_S), K k L st w = some (v, w') → (iv_le w w' ∧ ∃ J, code[k]? = some J ∧ iv_T p l e R s m args below meth c Q D b z n0 s0 nL J.1.1 L st w)) (hd : decode cc pc = .ok (.ishl, 1)) (hn : ∀ J, code[k + 1]? = some J → J.1.1 = pc + 1) (h : iv_p2 st (fun x y st' => K (k + 1) L (.int (x <<< (y &&& 31)) :: st') w) = some (v, w')) : iv_le w w' ∧ iv_T p l e R s m args below meth c Q D b z n0 s0 nL (pc) L st w := by
  unfold iv_p2 at h
  split at h
  · obtain ⟨h1, J, h2, h3⟩ := hK _ _ _ _ h
    refine ⟨h1, fun H ls locs cells slots a1 a2 a3 a4 a5 => ?_⟩
    have h4 := h3 H ls locs cells slots a1 a2 a3 a4 a5
    rw [hn J h2] at h4
    exact lv_ishl hx hb hd h4
  · cases h
theorem iv_c_ishr (hx : p.tables.exec = Jvm.exec) (hb : c.code = cc) (hK : ∀ (k : Nat) (L st : List Value) (w : iv_S), K k L st w = some (v, w') → (iv_le w w' ∧ ∃ J, code[k]? = some J ∧ iv_T p l e R s m args below meth c Q D b z n0 s0 nL J.1.1 L st w)) (hd : decode cc pc = .ok (.ishr, 1)) (hn : ∀ J, code[k + 1]? = some J → J.1.1 = pc + 1) (h : iv_p2 st (fun x y st' => K (k + 1) L (.int (x >>> (y &&& 31)) :: st') w) = some (v, w')) : iv_le w w' ∧ iv_T p l e R s m args below meth c Q D b z n0 s0 nL (pc) L st w := by
  unfold iv_p2 at h
  split at h
  · obtain ⟨h1, J, h2, h3⟩ := hK _ _ _ _ h
    refine ⟨h1, fun H ls locs cells slots a1 a2 a3 a4 a5 => ?_⟩
    have h4 := h3 H ls locs cells slots a1 a2 a3 a4 a5
    rw [hn J h2] at h4
    exact lv_ishr hx hb hd h4
  · cases h
theorem iv_c_idiv (hx : p.tables.exec = Jvm.exec) (hb : c.code = cc) (hK : ∀ (k : Nat) (L st : List Value) (w : iv_S), K k L st w = some (v, w') → (iv_le w w' ∧ ∃ J, code[k]? = some J ∧ iv_T p l e R s m args below meth c Q D b z n0 s0 nL J.1.1 L st w)) (hd : decode cc pc = .ok (.idiv, 1)) (hn : ∀ J, code[k + 1]? = some J → J.1.1 = pc + 1) (h : iv_p2 st (fun x y st' => if y = 0 then none else K (k + 1) L (.int (x / y) :: st') w) = some (v, w')) : iv_le w w' ∧ iv_T p l e R s m args below meth c Q D b z n0 s0 nL (pc) L st w := by
  unfold iv_p2 at h
  split at h
  · dsimp only at h
    split at h
    · cases h
    · rename_i hne
      obtain ⟨h1, J, h2, h3⟩ := hK _ _ _ _ h
      refine ⟨h1, fun H ls locs cells slots a1 a2 a3 a4 a5 => ?_⟩
      have h4 := h3 H ls locs cells slots a1 a2 a3 a4 a5
      rw [hn J h2] at h4
      exact lv_idiv hx hb hd hne h4
  · cases h
theorem iv_c_irem (hx : p.tables.exec = Jvm.exec) (hb : c.code = cc) (hK : ∀ (k : Nat) (L st : List Value) (w : iv_S), K k L st w = some (v, w') → (iv_le w w' ∧ ∃ J, code[k]? = some J ∧ iv_T p l e R s m args below meth c Q D b z n0 s0 nL J.1.1 L st w)) (hd : decode cc pc = .ok (.irem, 1)) (hn : ∀ J, code[k + 1]? = some J → J.1.1 = pc + 1) (h : iv_p2 st (fun x y st' => if y = 0 then none else K (k + 1) L (.int (x - x / y * y) :: st') w) = some (v, w')) : iv_le w w' ∧ iv_T p l e R s m args below meth c Q D b z n0 s0 nL (pc) L st w := by
  unfold iv_p2 at h
  split at h
  · dsimp only at h
    split at h
    · cases h
    · rename_i hne
      obtain ⟨h1, J, h2, h3⟩ := hK _ _ _ _ h
      refine ⟨h1, fun H ls locs cells slots a1 a2 a3 a4 a5 => ?_⟩
      have h4 := h3 H ls locs cells slots a1 a2 a3 a4 a5
      rw [hn J h2] at h4
      exact lv_irem hx hb hd hne h4
  · cases h
theorem iv_c_ineg (hx : p.tables.exec = Jvm.exec) (hb : c.code = cc) (hK : ∀ (k : Nat) (L st : List Value) (w : iv_S), K k L st w = some (v, w') → (iv_le w w' ∧ ∃ J, code[k]? = some J ∧ iv_T p l e R s m args below meth c Q D b z n0 s0 nL J.1.1 L st w)) (hd : decode cc pc = .ok (.ineg, 1)) (hn : ∀ J, code[k + 1]? = some J → J.1.1 = pc + 1) (h : iv_p1 st (fun x st' => K (k + 1) L (.int (-x) :: st') w) = some (v, w')) : iv_le w w' ∧ iv_T p l e R s m args below meth c Q D b z n0 s0 nL (pc) L st w := by
  unfold iv_p1 at h
  split at h
  · skip
    obtain ⟨h1, J, h2, h3⟩ := hK _ _ _ _ h
    refine ⟨h1, fun H ls locs cells slots a1 a2 a3 a4 a5 => ?_⟩
    have h4 := h3 H ls locs cells slots a1 a2 a3 a4 a5
    rw [hn J h2] at h4
    exact lv_ineg hx hb hd h4
  · cases h
theorem iv_c_i2c (hx : p.tables.exec = Jvm.exec) (hb : c.code = cc) (hK : ∀ (k : Nat) (L st : List Value) (w : iv_S), K k L st w = some (v, w') → (iv_le w w' ∧ ∃ J, code[k]? = some J ∧ iv_T p l e R s m args below meth c Q D b z n0 s0 nL J.1.1 L st w)) (hd : decode cc pc = .ok (.i2c, 1)) (hn : ∀ J, code[k + 1]? = some J → J.1.1 = pc + 1) (h : iv_p1 st (fun x st' => K (k + 1) L (.int (x.toUInt32 % 65536).toInt32 :: st') w) = some (v, w')) : iv_le w w' ∧ iv_T p l e R s m args below meth c Q D b z n0 s0 nL (pc) L st w := by
  unfold iv_p1 at h
  split at h
  · skip
    obtain ⟨h1, J, h2, h3⟩ := hK _ _ _ _ h
    refine ⟨h1, fun H ls locs cells slots a1 a2 a3 a4 a5 => ?_⟩
    have h4 := h3 H ls locs cells slots a1 a2 a3 a4 a5
    rw [hn J h2] at h4
    exact lv_i2c hx hb hd rfl h4
  · cases h
theorem iv_c_dup (hx : p.tables.exec = Jvm.exec) (hb : c.code = cc) (hK : ∀ (k : Nat) (L st : List Value) (w : iv_S), K k L st w = some (v, w') → (iv_le w w' ∧ ∃ J, code[k]? = some J ∧ iv_T p l e R s m args below meth c Q D b z n0 s0 nL J.1.1 L st w)) (hd : decode cc pc = .ok (.dup, 1)) (hn : ∀ J, code[k + 1]? = some J → J.1.1 = pc + 1) (h : (match st with
    | a :: st' => (if iv_isv a = true then K (k + 1) L (a :: a :: st') w else none)
    | _ => none) = some (v, w')) : iv_le w w' ∧ iv_T p l e R s m args below meth c Q D b z n0 s0 nL (pc) L st w := by
  split at h
  · split at h
    · rename_i ha
      obtain ⟨h1, J, h2, h3⟩ := hK _ _ _ _ h
      refine ⟨h1, fun H ls locs cells slots a1 a2 a3 a4 a5 => ?_⟩
      have h4 := h3 H ls locs cells slots a1 a2 a3 a4 a5
      rw [hn J h2] at h4
      exact lv_dup hx hb hd (iv_cat ha) h4
    · cases h
  · cases h
theorem iv_c_pop (hx : p.tables.exec = Jvm.exec) (hb : c.code = cc) (hK : ∀ (k : Nat) (L st : List Value) (w : iv_S), K k L st w = some (v, w') → (iv_le w w' ∧ ∃ J, code[k]? = some J ∧ iv_T p l e R s m args below meth c Q D b z n0 s0 nL J.1.1 L st w)) (hd : decode cc pc = .ok (.pop, 1)) (hn : ∀ J, code[k + 1]? = some J → J.1.1 = pc + 1) (h : (match st with
    | a :: st' => (if iv_isv a = true then K (k + 1) L (st') w else none)
    | _ => none) = some (v, w')) : iv_le w w' ∧ iv_T p l e R s m args below meth c Q D b z n0 s0 nL (pc) L st w := by
  split at h
  · split at h
    · rename_i ha
      obtain ⟨h1, J, h2, h3⟩ := hK _ _ _ _ h
      refine ⟨h1, fun H ls locs cells slots a1 a2 a3 a4 a5 => ?_⟩
      have h4 := h3 H ls locs cells slots a1 a2 a3 a4 a5
      rw [hn J h2] at h4
      exact lv_pop hx hb hd (iv_cat ha) h4
    · cases h
  · cases h
theorem iv_c_dup_x1 (hx : p.tables.exec = Jvm.exec) (hb : c.code = cc) (hK : ∀ (k : Nat) (L st : List Value) (w : iv_S), K k L st w = some (v, w') → (iv_le w w' ∧ ∃ J, code[k]? = some J ∧ iv_T p l e R s m args below meth c Q D b z n0 s0 nL J.1.1 L st w)) (hd : decode cc pc = .ok (.dup_x1, 1)) (hn : ∀ J, code[k + 1]? = some J → J.1.1 = pc + 1) (h : (match st with
    | a :: b :: st' => (if iv_isv a = true then (if iv_isv b = true then K (k + 1) L (a :: b :: a :: st') w else none) else none)
    | _ => none) = some (v, w')) : iv_le w w' ∧ iv_T p l e R s m args below meth c Q D b z n0 s0 nL (pc) L st w := by
  split at h
  · split at h
    · rename_i ha
      split at h
      · rename_i hc
        obtain ⟨h1, J, h2, h3⟩ := hK _ _ _ _ h
        refine ⟨h1, fun H ls locs cells slots a1 a2 a3 a4 a5 => ?_⟩
        have h4 := h3 H ls locs cells slots a1 a2 a3 a4 a5
        rw [hn J h2] at h4
        exact lv_dup_x1 hx hb hd (iv_cat ha) (iv_cat hc) h4
      · cases h
    · cases h
  · cases h
theorem iv_c_dup2 (hx : p.tables.exec = Jvm.exec) (hb : c.code = cc) (hK : ∀ (k : Nat) (L st : List Value) (w : iv_S), K k L st w = some (v, w') → (iv_le w w' ∧ ∃ J, code[k]? = some J ∧ iv_T p l e R s m args below meth c Q D b z n0 s0 nL J.1.1 L st w)) (hd : decode cc pc = .ok (.dup2, 1)) (hn : ∀ J, code[k + 1]? = some J → J.1.1 = pc + 1) (h : (match st with
    | a :: b :: st' => (if iv_isv a = true then (if iv_isv b = true then K (k + 1) L (a :: b :: a :: b :: st') w else none) else none)
    | _ => none) = some (v, w')) : iv_le w w' ∧ iv_T p l e R s m args below meth c Q D b z n0 s0 nL (pc) L st w := by
  split at h
  · split at h
    · rename_i ha
      split at h
      · rename_i hc
        obtain ⟨h1, J, h2, h3⟩ := hK _ _ _ _ h
        refine ⟨h1, fun H ls locs cells slots a1 a2 a3 a4 a5 => ?_⟩
        have h4 := h3 H ls locs cells slots a1 a2 a3 a4 a5
        rw [hn J h2] at h4
        exact lv_dup2_11 hx hb hd (iv_cat ha) (iv_cat hc) h4
      · cases h
    · cases h
  · cases h
theorem iv_c_ifCond (hx : p.tables.exec = Jvm.exec) (hb : c.code = cc) (hK : ∀ (k : Nat) (L st : List Value) (w : iv_S), K k L st w = some (v, w') → (iv_le w w' ∧ ∃ J, code[k]? = some J ∧ iv_T p l e R s m args below meth c Q D b z n0 s0 nL J.1.1 L st w)) {j t0 : Nat} {off : Int} {q : Jvm.ClassFile.Cond} (hd : decode cc pc = .ok (.ifCond q off, 3)) (hn : ∀ J, code[k + 1]? = some J → J.1.1 = pc + 3) (hj : ∀ J, code[j]? = some J → (J.1.1 : Int) = (pc : Int) + off) (hj0 : (pc : Int) + off = (t0 : Int)) (h : iv_p1 st (fun x st' => if iv_cnd q x 0 = true then K j L st' w else K (k + 1) L st' w) = some (v, w')) : iv_le w w' ∧ iv_T p l e R s m args below meth c Q D b z n0 s0 nL (pc) L st w := by
  unfold iv_p1 at h
  split at h
  · dsimp only at h
    split at h
    · rename_i hc
      obtain ⟨h1, J, h2, h3⟩ := hK _ _ _ _ h
      refine ⟨h1, fun H ls locs cells slots a1 a2 a3 a4 a5 => ?_⟩
      have h4 := h3 H ls locs cells slots a1 a2 a3 a4 a5
      have ht := (hj J h2).symm
      cases q
      · exact lv_if_eq hx hb hd ht (fun _ => h4) (fun hz => by simp [iv_cnd, hz] at hc)
      · exact lv_if_ne hx hb hd ht (fun _ => h4) (fun hz => by simp [iv_cnd, hz] at hc)
      · exact lv_if_lt hx hb hd ht (fun _ => h4) (fun hz => by simp [iv_cnd, hz] at hc)
      · exact lv_if_ge hx hb hd ht (fun _ => h4) (fun hz => by simp [iv_cnd, hz] at hc)
      · exact lv_if_gt hx hb hd ht (fun _ => h4) (fun hz => by simp [iv_cnd, hz] at hc)
      · exact lv_if_le hx hb hd ht (fun _ => h4) (fun hz => by simp [iv_cnd, hz] at hc)
    · rename_i hc
      obtain ⟨h1, J, h2, h3⟩ := hK _ _ _ _ h
      refine ⟨h1, fun H ls locs cells slots a1 a2 a3 a4 a5 => ?_⟩
      have h4 := h3 H ls locs cells slots a1 a2 a3 a4 a5
      rw [hn J h2] at h4
      have ht := hj0
      cases q
      · exact lv_if_eq hx hb hd ht (fun hz => by simp [iv_cnd, hz] at hc) (fun _ => h4)
      · exact lv_if_ne hx hb hd ht (fun hz => by simp [iv_cnd, hz] at hc) (fun _ => h4)
      · exact lv_if_lt hx hb hd ht (fun hz => by simp [iv_cnd, hz] at hc) (fun _ => h4)
      · exact lv_if_ge hx hb hd ht (fun hz => by simp [iv_cnd, hz] at hc) (fun _ => h4)
      · exact lv_if_gt hx hb hd ht (fun hz => by simp [iv_cnd, hz] at hc) (fun _ => h4)
      · exact lv_if_le hx hb hd ht (fun hz => by simp [iv_cnd, hz] at hc) (fun _ => h4)
  · cases h
theorem iv_c_icmp (hx : p.tables.exec = Jvm.exec) (hb : c.code = cc) (hK : ∀ (k : Nat) (L st : List Value) (w : iv_S), K k L st w = some (v, w') → (iv_le w w' ∧ ∃ J, code[k]? = some J ∧ iv_T p l e R s m args below meth c Q D b z n0 s0 nL J.1.1 L st w)) {j t0 : Nat} {off : Int} {q : Jvm.ClassFile.Cond} (hd : decode cc pc = .ok (.if_icmp q off, 3)) (hn : ∀ J, code[k + 1]? = some J → J.1.1 = pc + 3) (hj : ∀ J, code[j]? = some J → (J.1.1 : Int) = (pc : Int) + off) (hj0 : (pc : Int) + off = (t0 : Int)) (h : iv_p2 st (fun x y st' => if iv_cnd q x y = true then K j L st' w else K (k + 1) L st' w) = some (v, w')) : iv_le w w' ∧ iv_T p l e R s m args below meth c Q D b z n0 s0 nL (pc) L st w := by
  unfold iv_p2 at h
  split at h
  · dsimp only at h
    split at h
    · rename_i hc
      obtain ⟨h1, J, h2, h3⟩ := hK _ _ _ _ h
      refine ⟨h1, fun H ls locs cells slots a1 a2 a3 a4 a5 => ?_⟩
      have h4 := h3 H ls locs cells slots a1 a2 a3 a4 a5
      have ht := (hj J h2).symm
      cases q
      · exact lv_icmp_eq hx hb hd ht (fun _ => h4) (fun hz => by simp [iv_cnd, hz] at hc)
      · exact lv_icmp_ne hx hb hd ht (fun _ => h4) (fun hz => by simp [iv_cnd, hz] at hc)
      · exact lv_icmp_lt hx hb hd ht (fun _ => h4) (fun hz => by simp [iv_cnd, hz] at hc)
      · exact lv_icmp_ge hx hb hd ht (fun _ => h4) (fun hz => by simp [iv_cnd, hz] at hc)
      · exact lv_icmp_gt hx hb hd ht (fun _ => h4) (fun hz => by simp [iv_cnd, hz] at hc)
      · exact lv_icmp_le hx hb hd ht (fun _ => h4) (fun hz => by simp [iv_cnd, hz] at hc)
    · rename_i hc
      obtain ⟨h1, J, h2, h3⟩ := hK _ _ _ _ h
      refine ⟨h1, fun H ls locs cells slots a1 a2 a3 a4 a5 => ?_⟩
      have h4 := h3 H ls locs cells slots a1 a2 a3 a4 a5
      rw [hn J h2] at h4
      have ht := hj0
      cases q
      · exact lv_icmp_eq hx hb hd ht (fun hz => by simp [iv_cnd, hz] at hc) (fun _ => h4)
      · exact lv_icmp_ne hx hb hd ht (fun hz => by simp [iv_cnd, hz] at hc) (fun _ => h4)
      · exact lv_icmp_lt hx hb hd ht (fun hz => by simp [iv_cnd, hz] at hc) (fun _ => h4)
      · exact lv_icmp_ge hx hb hd ht (fun hz => by simp [iv_cnd, hz] at hc) (fun _ => h4)
      · exact lv_icmp_gt hx hb hd ht (fun hz => by simp [iv_cnd, hz] at hc) (fun _ => h4)
      · exact lv_icmp_le hx hb hd ht (fun hz => by simp [iv_cnd, hz] at hc) (fun _ => h4)
  · cases h
theorem iv_c_ifnull (hx : p.tables.exec = Jvm.exec) (hb : c.code = cc) (hK : ∀ (k : Nat) (L st : List Value) (w : iv_S), K k L st w = some (v, w') → (iv_le w w' ∧ ∃ J, code[k]? = some J ∧ iv_T p l e R s m args below meth c Q D b z n0 s0 nL J.1.1 L st w)) {j : Nat} {off : Int} (hd : decode cc pc = .ok (.ifnull off, 3)) (hn : ∀ J, code[k + 1]? = some J → J.1.1 = pc + 3) (hj : ∀ J, code[j]? = some J → (J.1.1 : Int) = (pc : Int) + off) (h : (match st with
    | .ref _ :: st' => K (k + 1) L st' w
    | .null :: st' => K j L st' w
    | _ => none) = some (v, w')) : iv_le w w' ∧ iv_T p l e R s m args below meth c Q D b z n0 s0 nL (pc) L st w := by
  split at h
  · skip
    obtain ⟨h1, J, h2, h3⟩ := hK _ _ _ _ h
    refine ⟨h1, fun H ls locs cells slots a1 a2 a3 a4 a5 => ?_⟩
    have h4 := h3 H ls locs cells slots a1 a2 a3 a4 a5
    rw [hn J h2] at h4
    exact lv_ifnull hx hb hd h4
  · skip
    obtain ⟨h1, J, h2, h3⟩ := hK _ _ _ _ h
    refine ⟨h1, fun H ls locs cells slots a1 a2 a3 a4 a5 => ?_⟩
    have h4 := h3 H ls locs cells slots a1 a2 a3 a4 a5
    exact lv_ifnullN hx hb hd (hj J h2).symm h4
  · cases h
theorem iv_c_ifnonnull (hx : p.tables.exec = Jvm.exec) (hb : c.code = cc) (hK : ∀ (k : Nat) (L st : List Value) (w : iv_S), K k L st w = some (v, w') → (iv_le w w' ∧ ∃ J, code[k]? = some J ∧ iv_T p l e R s m args below meth c Q D b z n0 s0 nL J.1.1 L st w)) {j : Nat} {off : Int} (hd : decode cc pc = .ok (.ifnonnull off, 3)) (hn : ∀ J, code[k + 1]? = some J → J.1.1 = pc + 3) (hj : ∀ J, code[j]? = some J → (J.1.1 : Int) = (pc : Int) + off) (h : (match st with
    | .ref _ :: st' => K j L st' w
    | .null :: st' => K (k + 1) L st' w
    | _ => none) = some (v, w')) : iv_le w w' ∧ iv_T p l e R s m args below meth c Q D b z n0 s0 nL (pc) L st w := by
  split at h
  · skip
    obtain ⟨h1, J, h2, h3⟩ := hK _ _ _ _ h
    refine ⟨h1, fun H ls locs cells slots a1 a2 a3 a4 a5 => ?_⟩
    have h4 := h3 H ls locs cells slots a1 a2 a3 a4 a5
    exact lv_ifnonnull hx hb hd (hj J h2).symm h4
  · skip
    obtain ⟨h1, J, h2, h3⟩ := hK _ _ _ _ h
    refine ⟨h1, fun H ls locs cells slots a1 a2 a3 a4 a5 => ?_⟩
    have h4 := h3 H ls locs cells slots a1 a2 a3 a4 a5
    rw [hn J h2] at h4
    exact lv_ifnonnullN hx hb hd h4
  · cases h
theorem iv_c_goto (hx : p.tables.exec = Jvm.exec) (hb : c.code = cc) (hK : ∀ (k : Nat) (L st : List Value) (w : iv_S), K k L st w = some (v, w') → (iv_le w w' ∧ ∃ J, code[k]? = some J ∧ iv_T p l e R s m args below meth c Q D b z n0 s0 nL J.1.1 L st w)) {j : Nat} {off : Int} (hd : decode cc pc = .ok (.goto off, 3)) (hj : ∀ J, code[j]? = some J → (J.1.1 : Int) = (pc : Int) + off) (h : K j L st w = some (v, w')) : iv_le w w' ∧ iv_T p l e R s m args below meth c Q D b z n0 s0 nL (pc) L st w := by
  obtain ⟨h1, J, h2, h3⟩ := hK _ _ _ _ h
  refine ⟨h1, fun H ls locs cells slots a1 a2 a3 a4 a5 => ?_⟩
  have h4 := h3 H ls locs cells slots a1 a2 a3 a4 a5
  exact lv_goto hx hb hd (hj J h2).symm h4
theorem iv_c_getfield (hx : p.tables.exec = Jvm.exec) (hb : c.code = cc) (hK : ∀ (k : Nat) (L st : List Value) (w : iv_S), K k L st w = some (v, w') → (iv_le w w' ∧ ∃ J, code[k]? = some J ∧ iv_T p l e R s m args below meth c Q D b z n0 s0 nL J.1.1 L st w)) (hown : s.vm.findClass own = some m.cls) (hW : iv_Kw D s) (hbz : b < z) {index x y u : Nat} {q : vw_C} (hc : iv_cl[x]? = some q) (hck : iv_ckc x q) (hy : y < q.2.2) (hlink : lw_tbl[u]? = some (.fieldLink own index (q.2.1 y).1 (q.2.1 y).2.1 (q.2.1 y).2.2.1) ∨ ∃ host, lw_tbl[u]? = some (.fieldLinkNest own index (q.2.1 y).1 (q.2.1 y).2.1 (q.2.1 y).2.2.1 host)) (hd : decode cc pc = .ok (.getfield index, 3)) (hn : ∀ J, code[k + 1]? = some J → J.1.1 = pc + 3) (h : iv_gf w st x y (fun a st' => K (k + 1) L (a :: st') w) = some (v, w')) : iv_le w w' ∧ iv_T p l e R s m args below meth c Q D b z n0 s0 nL (pc) L st w := by
  unfold iv_gf at h
  split at h
  · rename_i a st'
    split at h
    · rename_i t fs hw
      split at h
      · rename_i ht
        subst ht
        split at h
        · rename_i u1 hv
          obtain ⟨h1, J, h2, h3⟩ := hK _ _ _ _ h
          refine ⟨h1, fun H ls locs cells slots a1 a2 a3 a4 a5 => ?_⟩
          have h4 := h3 H ls locs cells slots a1 a2 a3 a4 a5
          rw [hn J h2] at h4
          rcases (a1.2 a _ hw).1 with ⟨q', g1, g2, g3⟩ | ⟨ty, cell, g1, -⟩
          · cases g1.symm.trans hc
            exact iv_getf hx hb hown hW hc hck hy hlink g3 (by rw [List.getElem?_map, hv]; rfl) hd h4
          · exact absurd (ck_ar _ _ g1) (Nat.not_le.mpr hck.1)
        · cases h
      · cases h
    · cases h
  · cases h
theorem iv_c_putfield (hx : p.tables.exec = Jvm.exec) (hb : c.code = cc) (hK : ∀ (k : Nat) (L st : List Value) (w : iv_S), K k L st w = some (v, w') → (iv_le w w' ∧ ∃ J, code[k]? = some J ∧ iv_T p l e R s m args below meth c Q D b z n0 s0 nL J.1.1 L st w)) (hown : s.vm.findClass own = some m.cls) (hW : iv_Kw D s) (hbz : b < z) {index x y u : Nat} {q : vw_C} (hc : iv_cl[x]? = some q) (hck : iv_ckc x q) (hlink : (lw_tbl[u]? = some (.fieldLink own index (q.2.1 y).1 (q.2.1 y).2.1 (q.2.1 y).2.2.1) ∧ ((q.2.1 y).2.2.2 = false ∨ ((q.2.1 y).2.2.2 = true ∧ (q.2.1 y).1 = own ∧ meth.name = "<init>"))) ∨ ∃ host, lw_tbl[u]? = some (.fieldLinkNest own index (q.2.1 y).1 (q.2.1 y).2.1 (q.2.1 y).2.2.1 host) ∧ (q.2.1 y).2.2.2 = false) (hd : decode cc pc = .ok (.putfield index, 3)) (hn : ∀ J, code[k + 1]? = some J → J.1.1 = pc + 3) (h : iv_pf w st x y (fun st' w1 => K (k + 1) L st' w1) = some (v, w')) : iv_le w w' ∧ iv_T p l e R s m args below meth c Q D b z n0 s0 nL (pc) L st w := by
  unfold iv_pf at h
  split at h
  · rename_i a0 a st'
    split at h
    · rename_i t fs hw
      split at h
      · rename_i ht
        subst ht
        split at h
        · rename_i hl
          split at h
          · rename_i hf
            obtain ⟨h1, J, h2, h3⟩ := hK _ _ _ _ h
            refine ⟨h1, fun H ls locs cells slots a1 a2 a3 a4 a5 => ?_⟩
            obtain ⟨g0, gz⟩ := a1.2 a _ hw
            have ht5 : t ≠ 150 := fun q5 => absurd hck.1 (by rw [q5]; decide)
            rcases g0 with ⟨q', g1, g2, g3⟩ | ⟨ty, cell, g1, -⟩
            · cases g1.symm.trans hc
              have hfo := iv_fit_ok (r := iv_r b z) hf
              refine iv_putf hx hb hown hW hc hck (by rw [← g2]; exact hl) hlink g3 (by rw [List.length_map]; exact hl) hfo.1 hfo.2 hd fun H1 x1 e1 e2 e3 => ?_
              have h4 := h3 H1 ls (locs ++ [⟨iv_r b z a, x1⟩]) cells slots (iv_rep.put hbz a1 hw ht5 (Or.inl ⟨_, hc, by simp only [List.length_set]; exact g2, by rw [List.map_set]; exact e1⟩) e2 e3) a2 (fun q5 h5 => by
                rcases List.mem_append.mp h5 with h6 | h6
                · exact a3 q5 h6
                · rw [List.mem_singleton.mp h6]; exact iv_r_lo (gz ht5)) a4 a5
              rw [hn J h2] at h4
              exact h4
            · exact absurd (ck_ar _ _ g1) (Nat.not_le.mpr hck.1)
          · cases h
        · cases h
      · cases h
    · cases h
  · cases h
theorem iv_c_iaload (hx : p.tables.exec = Jvm.exec) (hb : c.code = cc) (hK : ∀ (k : Nat) (L st : List Value) (w : iv_S), K k L st w = some (v, w') → (iv_le w w' ∧ ∃ J, code[k]? = some J ∧ iv_T p l e R s m args below meth c Q D b z n0 s0 nL J.1.1 L st w)) (hd : decode cc pc = .ok (.iaload, 1)) (hn : ∀ J, code[k + 1]? = some J → J.1.1 = pc + 1) (h : iv_ald w st iv_isI (fun a st' => K (k + 1) L (a :: st') w) = some (v, w')) : iv_le w w' ∧ iv_T p l e R s m args below meth c Q D b z n0 s0 nL (pc) L st w := by
  unfold iv_ald at h
  split at h
  · rename_i j a st'
    split at h
    · rename_i t vs hw
      split at h
      · rename_i ty hty
        split at h
        · rename_i hp
          split at h
          · cases h
          · rename_i hj
            split at h
            · rename_i u1 hv
              obtain ⟨h1, J, h2, h3⟩ := hK _ _ _ _ h
              refine ⟨h1, fun H ls locs cells slots a1 a2 a3 a4 a5 => ?_⟩
              have h4 := h3 H ls locs cells slots a1 a2 a3 a4 a5
              rw [hn J h2] at h4
              rcases (a1.2 a _ hw).1 with ⟨q', g1, -⟩ | ⟨ty', cell, g1, g2, g3, g4, g5, g6⟩
              · exact absurd (ck_ar _ _ hty) (Nat.not_le.mpr (ck_cl _ _ g1).1)
              · cases g1.symm.trans hty
                have hlt := (List.getElem?_eq_some_iff.mp hv).1
                have hin : ¬ (j < 0 ∨ cell.slots.size ≤ j.toNatClampNeg) := by rw [g5]; simp only [List.size_toArray, List.length_map]; exact fun h5 => h5.elim hj (fun h6 => absurd hlt (Nat.not_lt.mpr h6))
                have hrd : cell.slots[j.toNatClampNeg]? = some (iv_mv (iv_r b z) u1) := by rw [g5, List.getElem?_toArray, List.getElem?_map, hv]; rfl
                cases ty <;> first | (exact W.iald hx hb g2 g3 g4 hin hrd rfl rfl hd h4) | (cases hp)
            · cases h
        · cases h
      · cases h
    · cases h
  · cases h
theorem iv_c_baload (hx : p.tables.exec = Jvm.exec) (hb : c.code = cc) (hK : ∀ (k : Nat) (L st : List Value) (w : iv_S), K k L st w = some (v, w') → (iv_le w w' ∧ ∃ J, code[k]? = some J ∧ iv_T p l e R s m args below meth c Q D b z n0 s0 nL J.1.1 L st w)) (hd : decode cc pc = .ok (.baload, 1)) (hn : ∀ J, code[k + 1]? = some J → J.1.1 = pc + 1) (h : iv_ald w st iv_isZ (fun a st' => K (k + 1) L (a :: st') w) = some (v, w')) : iv_le w w' ∧ iv_T p l e R s m args below meth c Q D b z n0 s0 nL (pc) L st w := by
  unfold iv_ald at h
  split at h
  · rename_i j a st'
    split at h
    · rename_i t vs hw
      split at h
      · rename_i ty hty
        split at h
        · rename_i hp
          split at h
          · cases h
          · rename_i hj
            split at h
            · rename_i u1 hv
              obtain ⟨h1, J, h2, h3⟩ := hK _ _ _ _ h
              refine ⟨h1, fun H ls locs cells slots a1 a2 a3 a4 a5 => ?_⟩
              have h4 := h3 H ls locs cells slots a1 a2 a3 a4 a5
              rw [hn J h2] at h4
              rcases (a1.2 a _ hw).1 with ⟨q', g1, -⟩ | ⟨ty', cell, g1, g2, g3, g4, g5, g6⟩
              · exact absurd (ck_ar _ _ hty) (Nat.not_le.mpr (ck_cl _ _ g1).1)
              · cases g1.symm.trans hty
                have hlt := (List.getElem?_eq_some_iff.mp hv).1
                have hin : ¬ (j < 0 ∨ cell.slots.size ≤ j.toNatClampNeg) := by rw [g5]; simp only [List.size_toArray, List.length_map]; exact fun h5 => h5.elim hj (fun h6 => absurd hlt (Nat.not_lt.mpr h6))
                have hrd : cell.slots[j.toNatClampNeg]? = some (iv_mv (iv_r b z) u1) := by rw [g5, List.getElem?_toArray, List.getElem?_map, hv]; rfl
                cases ty <;> first | (exact W.zald hx hb g2 g3 g4 hin hrd rfl rfl hd h4) | (cases hp)
            · cases h
        · cases h
      · cases h
    · cases h
  · cases h
theorem iv_c_caload (hx : p.tables.exec = Jvm.exec) (hb : c.code = cc) (hK : ∀ (k : Nat) (L st : List Value) (w : iv_S), K k L st w = some (v, w') → (iv_le w w' ∧ ∃ J, code[k]? = some J ∧ iv_T p l e R s m args below meth c Q D b z n0 s0 nL J.1.1 L st w)) (hd : decode cc pc = .ok (.caload, 1)) (hn : ∀ J, code[k + 1]? = some J → J.1.1 = pc + 1) (h : iv_ald w st iv_isC (fun a st' => K (k + 1) L (a :: st') w) = some (v, w')) : iv_le w w' ∧ iv_T p l e R s m args below meth c Q D b z n0 s0 nL (pc) L st w := by
  unfold iv_ald at h
  split at h
  · rename_i j a st'
    split at h
    · rename_i t vs hw
      split at h
      · rename_i ty hty
        split at h
        · rename_i hp
          split at h
          · cases h
          · rename_i hj
            split at h
            · rename_i u1 hv
              obtain ⟨h1, J, h2, h3⟩ := hK _ _ _ _ h
              refine ⟨h1, fun H ls locs cells slots a1 a2 a3 a4 a5 => ?_⟩
              have h4 := h3 H ls locs cells slots a1 a2 a3 a4 a5
              rw [hn J h2] at h4
              rcases (a1.2 a _ hw).1 with ⟨q', g1, -⟩ | ⟨ty', cell, g1, g2, g3, g4, g5, g6⟩
              · exact absurd (ck_ar _ _ hty) (Nat.not_le.mpr (ck_cl _ _ g1).1)
              · cases g1.symm.trans hty
                have hlt := (List.getElem?_eq_some_iff.mp hv).1
                have hin : ¬ (j < 0 ∨ cell.slots.size ≤ j.toNatClampNeg) := by rw [g5]; simp only [List.size_toArray, List.length_map]; exact fun h5 => h5.elim hj (fun h6 => absurd hlt (Nat.not_lt.mpr h6))
                have hrd : cell.slots[j.toNatClampNeg]? = some (iv_mv (iv_r b z) u1) := by rw [g5, List.getElem?_toArray, List.getElem?_map, hv]; rfl
                cases ty <;> first | (exact W.cald hx hb g2 g3 g4 hin hrd rfl rfl hd h4) | (cases hp)
            · cases h
        · cases h
      · cases h
    · cases h
  · cases h
theorem iv_c_aaload (hx : p.tables.exec = Jvm.exec) (hb : c.code = cc) (hK : ∀ (k : Nat) (L st : List Value) (w : iv_S), K k L st w = some (v, w') → (iv_le w w' ∧ ∃ J, code[k]? = some J ∧ iv_T p l e R s m args below meth c Q D b z n0 s0 nL J.1.1 L st w)) (hd : decode cc pc = .ok (.aaload, 1)) (hn : ∀ J, code[k + 1]? = some J → J.1.1 = pc + 1) (h : iv_ald w st iv_isA (fun a st' => K (k + 1) L (a :: st') w) = some (v, w')) : iv_le w w' ∧ iv_T p l e R s m args below meth c Q D b z n0 s0 nL (pc) L st w := by
  unfold iv_ald at h
  split at h
  · rename_i j a st'
    split at h
    · rename_i t vs hw
      split at h
      · rename_i ty hty
        split at h
        · rename_i hp
          split at h
          · cases h
          · rename_i hj
            split at h
            · rename_i u1 hv
              obtain ⟨h1, J, h2, h3⟩ := hK _ _ _ _ h
              refine ⟨h1, fun H ls locs cells slots a1 a2 a3 a4 a5 => ?_⟩
              have h4 := h3 H ls locs cells slots a1 a2 a3 a4 a5
              rw [hn J h2] at h4
              rcases (a1.2 a _ hw).1 with ⟨q', g1, -⟩ | ⟨ty', cell, g1, g2, g3, g4, g5, g6⟩
              · exact absurd (ck_ar _ _ hty) (Nat.not_le.mpr (ck_cl _ _ g1).1)
              · cases g1.symm.trans hty
                have hlt := (List.getElem?_eq_some_iff.mp hv).1
                have hin : ¬ (j < 0 ∨ cell.slots.size ≤ j.toNatClampNeg) := by rw [g5]; simp only [List.size_toArray, List.length_map]; exact fun h5 => h5.elim hj (fun h6 => absurd hlt (Nat.not_lt.mpr h6))
                have hrd : cell.slots[j.toNatClampNeg]? = some (iv_mv (iv_r b z) u1) := by rw [g5, List.getElem?_toArray, List.getElem?_map, hv]; rfl
                cases ty <;> first | (exact W.aald hx hb g2 g3 rfl g4 hin hrd rfl rfl hd h4) | (cases hp)
            · cases h
        · cases h
      · cases h
    · cases h
  · cases h
theorem iv_c_iastore (hx : p.tables.exec = Jvm.exec) (hb : c.code = cc) (hK : ∀ (k : Nat) (L st : List Value) (w : iv_S), K k L st w = some (v, w') → (iv_le w w' ∧ ∃ J, code[k]? = some J ∧ iv_T p l e R s m args below meth c Q D b z n0 s0 nL J.1.1 L st w)) (hbz : b < z) (hd : decode cc pc = .ok (.iastore, 1)) (hn : ∀ J, code[k + 1]? = some J → J.1.1 = pc + 1) (h : iv_ast w st iv_isI (fun st' w1 => K (k + 1) L st' w1) = some (v, w')) : iv_le w w' ∧ iv_T p l e R s m args below meth c Q D b z n0 s0 nL (pc) L st w := by
  unfold iv_ast at h
  split at h
  · rename_i x j a st'
    split at h
    · rename_i t vs hw
      split at h
      · rename_i ty hty
        split at h
        · rename_i hp
          split at h
          · cases h
          · rename_i h150
            split at h
            · cases h
            · rename_i hj
              split at h
              · rename_i hlt
                obtain ⟨h1, J, h2, h3⟩ := hK _ _ _ _ h
                refine ⟨h1, fun H ls locs cells slots a1 a2 a3 a4 a5 => ?_⟩
                obtain ⟨g0, gz⟩ := a1.2 a _ hw
                rcases g0 with ⟨q', g1, -⟩ | ⟨ty', cell, g1, g2, g3, g4, g5, g6⟩
                · exact absurd (ck_ar _ _ hty) (Nat.not_le.mpr (ck_cl _ _ g1).1)
                · cases g1.symm.trans hty
                  have hty2 : ty = .int := by cases ty <;> first | rfl | cases hp
                  subst hty2
                  have hin : ¬ (j < 0 ∨ cell.slots.size ≤ j.toNatClampNeg) := by rw [g5]; simp only [List.size_toArray, List.length_map]; exact fun h5 => h5.elim hj (fun h6 => absurd hlt (Nat.not_lt.mpr h6))
                  refine W.iast hx hb g2 g3 g4 hin rfl rfl hd fun H1 e1 e2 e3 => ?_
                  have hs : (cell.setSlot j.toNatClampNeg (narrow .int (.int x))).slots = ((vs.set j.toNatClampNeg (narrow .int (.int x))).map (iv_mv (iv_r b z))).toArray := by
                    simp only [Cell.setSlot, g5, List.setIfInBounds_toArray, List.map_set]
                    rfl
                  have h4 := h3 H1 ls (locs ++ [⟨iv_r b z a, j.toNatClampNeg⟩]) cells slots (iv_rep.put hbz a1 hw h150 (Or.inr ⟨_, _, hty, e1, g3, g4, hs, g6⟩) e2 e3) a2 (fun q5 h5 => by
                    rcases List.mem_append.mp h5 with h6 | h6
                    · exact a3 q5 h6
                    · rw [List.mem_singleton.mp h6]; exact iv_r_lo (gz h150)) a4 a5
                  rw [hn J h2] at h4
                  exact h4
              · cases h
        · cases h
      · cases h
    · cases h
  · cases h
theorem iv_c_bastore (hx : p.tables.exec = Jvm.exec) (hb : c.code = cc) (hK : ∀ (k : Nat) (L st : List Value) (w : iv_S), K k L st w = some (v, w') → (iv_le w w' ∧ ∃ J, code[k]? = some J ∧ iv_T p l e R s m args below meth c Q D b z n0 s0 nL J.1.1 L st w)) (hbz : b < z) (hd : decode cc pc = .ok (.bastore, 1)) (hn : ∀ J, code[k + 1]? = some J → J.1.1 = pc + 1) (h : iv_ast w st iv_isZ (fun st' w1 => K (k + 1) L st' w1) = some (v, w')) : iv_le w w' ∧ iv_T p l e R s m args below meth c Q D b z n0 s0 nL (pc) L st w := by
  unfold iv_ast at h
  split at h
  · rename_i x j a st'
    split at h
    · rename_i t vs hw
      split at h
      · rename_i ty hty
        split at h
        · rename_i hp
          split at h
          · cases h
          · rename_i h150
            split at h
            · cases h
            · rename_i hj
              split at h
              · rename_i hlt
                obtain ⟨h1, J, h2, h3⟩ := hK _ _ _ _ h
                refine ⟨h1, fun H ls locs cells slots a1 a2 a3 a4 a5 => ?_⟩
                obtain ⟨g0, gz⟩ := a1.2 a _ hw
                rcases g0 with ⟨q', g1, -⟩ | ⟨ty', cell, g1, g2, g3, g4, g5, g6⟩
                · exact absurd (ck_ar _ _ hty) (Nat.not_le.mpr (ck_cl _ _ g1).1)
                · cases g1.symm.trans hty
                  have hty2 : ty = .boolean := by cases ty <;> first | rfl | cases hp
                  subst hty2
                  have hin : ¬ (j < 0 ∨ cell.slots.size ≤ j.toNatClampNeg) := by rw [g5]; simp only [List.size_toArray, List.length_map]; exact fun h5 => h5.elim hj (fun h6 => absurd hlt (Nat.not_lt.mpr h6))
                  refine W.zast hx hb g2 g3 g4 hin rfl rfl hd fun H1 e1 e2 e3 => ?_
                  have hs : (cell.setSlot j.toNatClampNeg (narrow .boolean (.int x))).slots = ((vs.set j.toNatClampNeg (narrow .boolean (.int x))).map (iv_mv (iv_r b z))).toArray := by
                    simp only [Cell.setSlot, g5, List.setIfInBounds_toArray, List.map_set]
                    rfl
                  have h4 := h3 H1 ls (locs ++ [⟨iv_r b z a, j.toNatClampNeg⟩]) cells slots (iv_rep.put hbz a1 hw h150 (Or.inr ⟨_, _, hty, e1, g3, g4, hs, g6⟩) e2 e3) a2 (fun q5 h5 => by
                    rcases List.mem_append.mp h5 with h6 | h6
                    · exact a3 q5 h6
                    · rw [List.mem_singleton.mp h6]; exact iv_r_lo (gz h150)) a4 a5
                  rw [hn J h2] at h4
                  exact h4
              · cases h
        · cases h
      · cases h
    · cases h
  · cases h
theorem iv_c_castore (hx : p.tables.exec = Jvm.exec) (hb : c.code = cc) (hK : ∀ (k : Nat) (L st : List Value) (w : iv_S), K k L st w = some (v, w') → (iv_le w w' ∧ ∃ J, code[k]? = some J ∧ iv_T p l e R s m args below meth c Q D b z n0 s0 nL J.1.1 L st w)) (hbz : b < z) (hd : decode cc pc = .ok (.castore, 1)) (hn : ∀ J, code[k + 1]? = some J → J.1.1 = pc + 1) (h : iv_ast w st iv_isC (fun st' w1 => K (k + 1) L st' w1) = some (v, w')) : iv_le w w' ∧ iv_T p l e R s m args below meth c Q D b z n0 s0 nL (pc) L st w := by
  unfold iv_ast at h
  split at h
  · rename_i x j a st'
    split at h
    · rename_i t vs hw
      split at h
      · rename_i ty hty
        split at h
        · rename_i hp
          split at h
          · cases h
          · rename_i h150
            split at h
            · cases h
            · rename_i hj
              split at h
              · rename_i hlt
                obtain ⟨h1, J, h2, h3⟩ := hK _ _ _ _ h
                refine ⟨h1, fun H ls locs cells slots a1 a2 a3 a4 a5 => ?_⟩
                obtain ⟨g0, gz⟩ := a1.2 a _ hw
                rcases g0 with ⟨q', g1, -⟩ | ⟨ty', cell, g1, g2, g3, g4, g5, g6⟩
                · exact absurd (ck_ar _ _ hty) (Nat.not_le.mpr (ck_cl _ _ g1).1)
                · cases g1.symm.trans hty
                  have hty2 : ty = .char := by cases ty <;> first | rfl | cases hp
                  subst hty2
                  have hin : ¬ (j < 0 ∨ cell.slots.size ≤ j.toNatClampNeg) := by rw [g5]; simp only [List.size_toArray, List.length_map]; exact fun h5 => h5.elim hj (fun h6 => absurd hlt (Nat.not_lt.mpr h6))
                  refine W.cast hx hb g2 g3 g4 hin rfl rfl hd fun H1 e1 e2 e3 => ?_
                  have hs : (cell.setSlot j.toNatClampNeg (narrow .char (.int x))).slots = ((vs.set j.toNatClampNeg (narrow .char (.int x))).map (iv_mv (iv_r b z))).toArray := by
                    simp only [Cell.setSlot, g5, List.setIfInBounds_toArray, List.map_set]
                    rfl
                  have h4 := h3 H1 ls (locs ++ [⟨iv_r b z a, j.toNatClampNeg⟩]) cells slots (iv_rep.put hbz a1 hw h150 (Or.inr ⟨_, _, hty, e1, g3, g4, hs, g6⟩) e2 e3) a2 (fun q5 h5 => by
                    rcases List.mem_append.mp h5 with h6 | h6
                    · exact a3 q5 h6
                    · rw [List.mem_singleton.mp h6]; exact iv_r_lo (gz h150)) a4 a5
                  rw [hn J h2] at h4
                  exact h4
              · cases h
        · cases h
      · cases h
    · cases h
  · cases h
theorem iv_c_aastore (hx : p.tables.exec = Jvm.exec) (hb : c.code = cc) (hK : ∀ (k : Nat) (L st : List Value) (w : iv_S), K k L st w = some (v, w') → (iv_le w w' ∧ ∃ J, code[k]? = some J ∧ iv_T p l e R s m args below meth c Q D b z n0 s0 nL J.1.1 L st w)) (hown : s.vm.findClass own = some m.cls) (hW : iv_Kw D s) (hbz : b < z) (hd : decode cc pc = .ok (.aastore, 1)) (hn : ∀ J, code[k + 1]? = some J → J.1.1 = pc + 1) (h : iv_ust w st (fun st' w1 => K (k + 1) L st' w1) = some (v, w')) : iv_le w w' ∧ iv_T p l e R s m args below meth c Q D b z n0 s0 nL (pc) L st w := by
  unfold iv_ust at h
  split at h
  · rename_i a0 j a st'
    split at h
    · rename_i t vs t' us hw hw0
      split at h
      · rename_i hac
        split at h
        · cases h
        · rename_i hj
          split at h
          · rename_i hlt
            obtain ⟨h1, J, h2, h3⟩ := hK _ _ _ _ h
            refine ⟨h1, fun H ls locs cells slots a1 a2 a3 a4 a5 => ?_⟩
            obtain ⟨q, hc, har⟩ := ck_ac _ _ hac
            obtain ⟨g0, gz⟩ := a1.2 a _ hw
            have ht5 : t ≠ 150 := fun q5 => by rw [q5] at hac; exact absurd hac (ck_150 _)
            rcases (a1.2 a0 _ hw0).1 with ⟨q', f1, f2, cellV, f3, f4, f5, -⟩ | ⟨ty', cell', f1, -⟩
            · rcases g0 with ⟨q', g1, -⟩ | ⟨ty', cell, g1, g2, g3, g4, g5, g6⟩
              · exact absurd (ck_ar _ _ har) (Nat.not_le.mpr (ck_cl _ _ g1).1)
              · cases g1.symm.trans har
                obtain ⟨kA, comp, k1, k2, k3, -⟩ := g6 rfl
                have hcls := (hW.1 t' q hc).2
                have hcomp : comp = D.1 t' := Option.some.inj (k3.symm.trans hcls.1)
                subst hcomp
                obtain ⟨kC, hkC, hkd⟩ := hcls.2
                have hin : ¬ j < 0 ∧ j.toNatClampNeg < cell.slots.size := ⟨hj, by rw [g5]; simp only [List.size_toArray, List.length_map]; exact hlt⟩
                refine W.aast hx hb g2 g3.1 g4 k1 k2 rfl hkC hin f3 (fun q5 h5 => by rw [f5] at h5; cases h5) (by rw [f4]; exact hkC) (by rw [f4]; exact va_assign (hW.1 t' q hc).2) rfl rfl hd fun H1 e1 e2 e3 => ?_
                have hs : (cell.setSlot j.toNatClampNeg (.ref (iv_r b z a0))).slots = ((vs.set j.toNatClampNeg (.ref a0)).map (iv_mv (iv_r b z))).toArray := by
                  simp only [Cell.setSlot, g5, List.setIfInBounds_toArray, List.map_set]
                  rfl
                have h4 := h3 H1 ls (locs ++ [⟨iv_r b z a, j.toNatClampNeg⟩]) cells slots (iv_rep.put hbz a1 hw ht5 (Or.inr ⟨_, _, har, e1, g3, g4, hs, g6⟩) e2 e3) a2 (fun q5 h5 => by
                  rcases List.mem_append.mp h5 with h6 | h6
                  · exact a3 q5 h6
                  · rw [List.mem_singleton.mp h6]; exact iv_r_lo (gz ht5)) a4 a5
                rw [hn J h2] at h4
                exact h4
            · exact absurd (ck_ar _ _ f1) (Nat.not_le.mpr (ck_cl _ _ hc).1)
          · cases h
      · cases h
    · cases h
  · cases h
theorem iv_c_alen (hx : p.tables.exec = Jvm.exec) (hb : c.code = cc) (hK : ∀ (k : Nat) (L st : List Value) (w : iv_S), K k L st w = some (v, w') → (iv_le w w' ∧ ∃ J, code[k]? = some J ∧ iv_T p l e R s m args below meth c Q D b z n0 s0 nL J.1.1 L st w)) (hd : decode cc pc = .ok (.arraylength, 1)) (hn : ∀ J, code[k + 1]? = some J → J.1.1 = pc + 1) (h : iv_len w st (fun x st' => K (k + 1) L (.int x :: st') w) = some (v, w')) : iv_le w w' ∧ iv_T p l e R s m args below meth c Q D b z n0 s0 nL (pc) L st w := by
  unfold iv_len at h
  split at h
  · rename_i a st'
    split at h
    · rename_i t vs hw
      split at h
      · rename_i ty hty
        obtain ⟨h1, J, h2, h3⟩ := hK _ _ _ _ h
        refine ⟨h1, fun H ls locs cells slots a1 a2 a3 a4 a5 => ?_⟩
        have h4 := h3 H ls locs cells slots a1 a2 a3 a4 a5
        rw [hn J h2] at h4
        rcases (a1.2 a _ hw).1 with ⟨q', g1, -⟩ | ⟨ty', cell, g1, g2, g3, g4, g5, g6⟩
        · exact absurd (ck_ar _ _ hty) (Nat.not_le.mpr (ck_cl _ _ g1).1)
        · exact W.alen (n := Int32.ofNat vs.length) hx hb g2 g3 (by rw [g5]; simp only [List.size_toArray, List.length_map]) rfl rfl hd h4
      · cases h
    · cases h
  · cases h
theorem iv_c_new (hx : p.tables.exec = Jvm.exec) (hb : c.code = cc) (hK : ∀ (k : Nat) (L st : List Value) (w : iv_S), K k L st w = some (v, w') → (iv_le w w' ∧ ∃ J, code[k]? = some J ∧ iv_T p l e R s m args below meth c Q D b z n0 s0 nL J.1.1 L st w)) (hown : s.vm.findClass own = some m.cls) (hW : iv_Kw D s) (hbz : b < z) (hR : w'.2.1 ≤ n0 + R.cells ∧ w'.2.2 ≤ s0 + R.slots) {index x u : Nat} {q : vw_C} (hc : iv_cl[x]? = some q) (hck : iv_ckc x q) (hlink : lw_tbl[u]? = some (.classLink own index q.1)) (hd : decode cc pc = .ok (.new index, 3)) (hn : ∀ J, code[k + 1]? = some J → J.1.1 = pc + 3) (h : iv_nw w x (fun a w1 => K (k + 1) L (a :: st) w1) = some (v, w')) : iv_le w w' ∧ iv_T p l e R s m args below meth c Q D b z n0 s0 nL (pc) L st w := by
  unfold iv_nw at h
  split at h
  · rename_i fs hdf
    obtain ⟨h1, J, h2, h3⟩ := hK _ _ _ _ h
    obtain ⟨l1, l2⟩ := h1
    have l1 : w.2.1 + 1 ≤ w'.2.1 := l1
    have l2 : w.2.2 + fs.length ≤ w'.2.2 := l2
    refine ⟨⟨by omega, by omega⟩, fun H ls locs cells slots a1 a2 a3 a4 a5 => ?_⟩
    obtain ⟨hlen, hdv, hmp⟩ := ck_df x fs q hdf hc
    refine iv_newc hx hb hown hW hc hck hlink hdv (by omega) (by omega) hd fun H1 e1 e2 e3 => ?_
    have h4 := h3 H1 ls locs (cells + 1) (slots + q.2.2) (iv_rep.push a1 (Or.inl ⟨q, hc, hlen, by rw [hmp, ← a1.1]; exact e1⟩) e2 e3) a2 a3 (by show n0 + (cells + 1) = w.2.1 + 1; omega) (by show s0 + (slots + q.2.2) = w.2.2 + fs.length; omega)
    rw [hn J h2] at h4
    rw [a1.1]
    exact h4
  · cases h
theorem iv_c_newarray (hx : p.tables.exec = Jvm.exec) (hb : c.code = cc) (hK : ∀ (k : Nat) (L st : List Value) (w : iv_S), K k L st w = some (v, w') → (iv_le w w' ∧ ∃ J, code[k]? = some J ∧ iv_T p l e R s m args below meth c Q D b z n0 s0 nL J.1.1 L st w)) (hown : s.vm.findClass own = some m.cls) (hW : iv_Kw D s) (hbz : b < z) (hR : w'.2.1 ≤ n0 + R.cells ∧ w'.2.2 ≤ s0 + R.slots) {x u : Nat} {ty : ArrayType} (har : iv_ar x = some (newarray.typeOf ty)) (hlink : lw_tbl[u]? = some (.arrayClass (newarray.typeOf ty))) (hd : decode cc pc = .ok (.newarray ty, 2)) (hn : ∀ J, code[k + 1]? = some J → J.1.1 = pc + 2) (h : iv_p1 st (fun n st' => iv_na w x (defaultValue (newarray.typeOf ty)) n (fun a w1 => K (k + 1) L (a :: st') w1)) = some (v, w')) : iv_le w w' ∧ iv_T p l e R s m args below meth c Q D b z n0 s0 nL (pc) L st w := by
  unfold iv_p1 at h
  split at h
  · rename_i n st'
    dsimp only at h
    unfold iv_na at h
    split at h
    · cases h
    · rename_i hneg
      split at h
      · rename_i hbig
        obtain ⟨h1, J, h2, h3⟩ := hK _ _ _ _ h
        obtain ⟨l1, l2⟩ := h1
        have l1 : w.2.1 + 1 ≤ w'.2.1 := l1
        have l2 : w.2.2 + n.toNatClampNeg ≤ w'.2.2 := l2
        refine ⟨⟨by omega, by omega⟩, fun H ls locs cells slots a1 a2 a3 a4 a5 => ?_⟩
        refine va_newaK (h := z + w.2.1) hx hb (hW.at hlink rfl) rfl hd rfl hneg rfl (by cases ty <;> simp only [newarray.typeOf, componentBytes] <;> omega) (by omega) (by omega) a1.1 fun H1 cA e1 e2 e3 e4 e5 => ?_
        have hs : (arrV cA n.toNatClampNeg (fun _ => defaultValue (newarray.typeOf ty))).slots = ((List.replicate n.toNatClampNeg (defaultValue (newarray.typeOf ty))).map (iv_mv (iv_r b z))).toArray := by
          rw [← arrV_new, List.map_replicate]
          cases ty <;> simp [newarray.typeOf, defaultValue, iv_mv]
        have h4 := h3 H1 ls locs (cells + 1) (slots + n.toNatClampNeg) (iv_rep.push a1 (Or.inr ⟨_, _, har, e1, e4 _ _, (fun h5 => by cases h5), hs, (fun h5 => by cases ty <;> cases h5)⟩) (by rw [e2, a1.1]) (fun q5 h5 => e3 q5 (by rw [← a1.1]; exact h5))) a2 a3 (by show n0 + (cells + 1) = w.2.1 + 1; omega) (by show s0 + (slots + n.toNatClampNeg) = w.2.2 + n.toNatClampNeg; omega)
        rw [hn J h2] at h4
        exact h4
      · cases h
  · cases h
theorem iv_c_anewarray (hx : p.tables.exec = Jvm.exec) (hb : c.code = cc) (hK : ∀ (k : Nat) (L st : List Value) (w : iv_S), K k L st w = some (v, w') → (iv_le w w' ∧ ∃ J, code[k]? = some J ∧ iv_T p l e R s m args below meth c Q D b z n0 s0 nL J.1.1 L st w)) (hown : s.vm.findClass own = some m.cls) (hW : iv_Kw D s) (hbz : b < z) (hR : w'.2.1 ≤ n0 + R.cells ∧ w'.2.2 ≤ s0 + R.slots) {index x u : Nat} {C : String} (har : iv_ar x = some (.object C)) (hov : Cond.arrayOver (.object C) ∈ lw_tbl) (hlink : lw_tbl[u]? = some (.classLink own index C)) (hd : decode cc pc = .ok (.anewarray index, 3)) (hn : ∀ J, code[k + 1]? = some J → J.1.1 = pc + 3) (h : iv_p1 st (fun n st' => iv_na w x .null n (fun a w1 => K (k + 1) L (a :: st') w1)) = some (v, w')) : iv_le w w' ∧ iv_T p l e R s m args below meth c Q D b z n0 s0 nL (pc) L st w := by
  unfold iv_p1 at h
  split at h
  · rename_i n st'
    dsimp only at h
    unfold iv_na at h
    split at h
    · cases h
    · rename_i hneg
      split at h
      · rename_i hbig
        obtain ⟨h1, J, h2, h3⟩ := hK _ _ _ _ h
        obtain ⟨l1, l2⟩ := h1
        have l1 : w.2.1 + 1 ≤ w'.2.1 := l1
        have l2 : w.2.2 + n.toNatClampNeg ≤ w'.2.2 := l2
        refine ⟨⟨by omega, by omega⟩, fun H ls locs cells slots a1 a2 a3 a4 a5 => ?_⟩
        refine W.anew hx hb hown (hW.at hlink rfl) (hW.use hov rfl) rfl hd rfl hneg (by omega) (by omega) (by omega) fun cA kA comp f1 f2 f3 f4 => ?_
        have hs : (({ cls := cA, slots := Array.replicate n.toNatClampNeg .null, vm := .none } : Cell)).slots = ((List.replicate n.toNatClampNeg Value.null).map (iv_mv (iv_r b z))).toArray := by
          rw [List.map_replicate]
          simp [iv_mv]
        have h4 := h3 _ ls locs (cells + 1) (slots + n.toNatClampNeg) (iv_rep.push (H1 := H.push ({ cls := cA, slots := Array.replicate n.toNatClampNeg .null, vm := .none } : Cell)) a1 (Or.inr ⟨_, _, har, by rw [← a1.1, Array.getElem?_push_size], ⟨(fun q5 h5 => by cases h5), kA, f2, comp, f3⟩, (fun h5 => by cases h5), hs, fun _ => ⟨kA, comp, f2, f3, f4, f1⟩⟩) (by rw [Array.size_push]) (fun q5 h5 => by rw [Array.getElem?_push, if_neg (Nat.ne_of_lt h5)])) a2 a3 (by show n0 + (cells + 1) = w.2.1 + 1; omega) (by show s0 + (slots + n.toNatClampNeg) = w.2.2 + n.toNatClampNeg; omega)
        rw [hn J h2] at h4
        rw [a1.1]
        exact h4
      · cases h
  · cases h
end IVC
end
section
/-! grids: 'new int[n][k]', one instruction: the outer array, then its rows -/
section IVM
variable {p : Program} {l : Launch} {e : Env} {R : Room} {s : State} {m : MethodId} {args : Array Value} {below : List Frame} {meth : Method} {c : Code} {locs : List Loc} {cells slots : Nat} {Q : State → Prop}
theorem iv_wgrid {H : Heap} {cc : ByteArray} {pc : Nat} {ls : Array Slot} {rest : List Value} (hexec : p.tables.exec = Jvm.exec) (hb : c.code = cc) {own : String} {index : Nat} (hown : s.vm.findClass own = some m.cls) (hclink : (Cond.classLink own index ("[" ++ (FieldType.array .int).toString)).before args s = true)
    (hover : (Cond.arrayOver (.array .int)).before args s = true) (harr : (Cond.arrayClass .int).before args s = true) (hdg : decode cc pc = .ok (.multianewarray index 2, 4)) {n k : Int32} (hn : ¬ n < 0) (hk : ¬ k < 0) (hb1 : n.toNatClampNeg ≤ 10000) (hb2 : k.toNatClampNeg ≤ 10000)
    (hcells : cells + (1 + n.toNatClampNeg) ≤ R.cells) (hslots : slots + (n.toNatClampNeg + n.toNatClampNeg * k.toNatClampNeg) ≤ R.slots)
    (kk : ∀ (H1 : Heap) (oc ic : Cell), va_RA s oc.cls (.array .int) → s.isArrayOf oc (.array .int) → oc.vm ≠ .unknown → oc.slots = ((List.range n.toNatClampNeg).map fun j => Value.ref (H.size + 1 + j)).toArray → s.isArrayOf ic .int → ic.vm ≠ .unknown → ic.slots = Array.replicate k.toNatClampNeg (.int 0) → H1.size = H.size + 1 + n.toNatClampNeg → (∀ q : Nat, q < H.size → H1[q]? = H[q]?) →
      H1[H.size]? = some oc → (∀ j : Nat, j < n.toNatClampNeg → H1[H.size + 1 + j]? = some ic) →
      W p l e R s m args below meth c H1 locs (cells + 1 + n.toNatClampNeg) (slots + n.toNatClampNeg + n.toNatClampNeg * k.toNatClampNeg) Q (F0 m (pc + 4) ls (.ref H.size :: rest))) : W p l e R s m args below meth c H locs cells slots Q (F0 m pc ls (.int k :: .int n :: rest)) := by
  intro T hT X
  subst hT
  obtain ⟨vm₁, cA, comp, -, fA, fC, hO, hI, X', step⟩ := X.multianewarray2F hexec hown hclink hover harr (g := F0 m pc ls (.int k :: .int n :: rest)) rfl (by rw [hb]; exact hdg) rfl hn hk (by omega) (by show k.toNatClampNeg * 4 ≤ _; omega) (by omega) rfl rfl hcells hslots
  obtain ⟨f1, f2, -, -⟩ := Jvm.Free.Multi.fill_facts (T.setVm vm₁) cA comp n.toNatClampNeg k.toNatClampNeg (defaultValue .int) n.toNatClampNeg
  obtain ⟨o1, o2, o3⟩ := Jvm.Free.Multi.outerC_facts cA n.toNatClampNeg T.heap.size n.toNatClampNeg
  obtain ⟨t', a1, b1⟩ := kk _ (Jvm.Free.Multi.outerC cA n.toNatClampNeg T.heap.size n.toNatClampNeg) (Jvm.Free.Multi.innerC comp k.toNatClampNeg (defaultValue .int)) (by rw [o1]; exact fA) (hO _ _ _).1 (hO _ _ _).2 (by
      apply Array.ext_getElem?
      intro j
      conv => rhs; rw [List.getElem?_toArray, List.getElem?_map]
      by_cases hj : j < n.toNatClampNeg
      · rw [Jvm.Free.Multi.outerC_slot _ _ _ _ _ hj, List.getElem?_range hj, if_pos hj]; rfl
      · rw [Array.getElem?_eq_none (by rw [o3]; omega), List.getElem?_eq_none (by simp; omega)]; rfl) (hI _ _).1 (hI _ _).2 rfl f1 (fun q hq => Jvm.Free.Multi.fill_old (T.setVm vm₁) cA comp _ _ _ hq _) f2 (fun j hj => Jvm.Free.Multi.fill_inner (T.setVm vm₁) cA comp _ _ _ _ j hj) _ rfl X'
  exact ⟨t', step t' a1, b1⟩
end IVM
section IVN
variable {p : Program} {l : Launch} {e : Env} {R : Room} {s : State} {m : MethodId} {args : Array Value} {below : List Frame} {meth : Method} {c : Code} {Q : State → Prop}
variable {D : va_G} {b z n0 s0 nL : Nat} {own : String} {cc : ByteArray} {code : List iv_I} {v : Option Value} {w' : iv_S} {K : iv_Q} {pc k : Nat} {L st : List Value} {w : iv_S}
theorem iv_c_multi (hx : p.tables.exec = Jvm.exec) (hb : c.code = cc) (hK : ∀ (k : Nat) (L st : List Value) (w : iv_S), K k L st w = some (v, w') → (iv_le w w' ∧ ∃ J, code[k]? = some J ∧ iv_T p l e R s m args below meth c Q D b z n0 s0 nL J.1.1 L st w)) (hown : s.vm.findClass own = some m.cls) (hW : iv_Kw D s) (hbz : b < z) (hR : w'.2.1 ≤ n0 + R.cells ∧ w'.2.2 ≤ s0 + R.slots) {index x y u : Nat}
    (hax : iv_ar x = some (.array .int)) (hay : iv_ar y = some .int) (hov : Cond.arrayOver (.array .int) ∈ lw_tbl) (hac : Cond.arrayClass .int ∈ lw_tbl) (hlink : lw_tbl[u]? = some (.classLink own index ("[" ++ (FieldType.array .int).toString))) (hd : decode cc pc = .ok (.multianewarray index 2, 4)) (hn : ∀ J, code[k + 1]? = some J → J.1.1 = pc + 4)
    (h : iv_p2 st (fun n m st' => iv_nm w x y (.int 0) n m (fun a w1 => K (k + 1) L (a :: st') w1)) = some (v, w')) : iv_le w w' ∧ iv_T p l e R s m args below meth c Q D b z n0 s0 nL pc L st w := by
  unfold iv_p2 at h
  split at h
  · rename_i k2 n2 st'
    dsimp only at h
    unfold iv_nm at h
    split at h
    · cases h
    · rename_i hn0
      split at h
      · cases h
      · rename_i hk0
        split at h
        · rename_i hn1
          split at h
          · rename_i hk1
            obtain ⟨h1, J, h2, h3⟩ := hK _ _ _ _ h
            obtain ⟨l1, l2⟩ := h1
            have l1 : w.2.1 + 1 + n2.toNatClampNeg ≤ w'.2.1 := l1
            have l2 : w.2.2 + (n2.toNatClampNeg + n2.toNatClampNeg * k2.toNatClampNeg) ≤ w'.2.2 := l2
            refine ⟨⟨by omega, by omega⟩, fun H ls locs cells slots a1 a2 a3 a4 a5 => ?_⟩
            refine iv_wgrid hx hb hown (hW.at hlink rfl) (hW.use hov rfl) (hW.use hac rfl) hd hn0 hk0 hn1 hk1 (by omega) (by omega) fun H1 oc ic c1 c2 c3 c4 c5 c6 c7 e4 e5 e6 e7 => ?_
            have hrep : iv_rep D b z s (fun j => if j = w.2.1 + 1 then some (x, (List.range n2.toNatClampNeg).map fun i => .ref (w.2.1 + 2 + i)) else if w.2.1 + 1 < j ∧ j ≤ w.2.1 + 1 + n2.toNatClampNeg then some (y, List.replicate k2.toNatClampNeg (.int 0)) else w.1 j, w.2.1 + 1 + n2.toNatClampNeg, w.2.2 + (n2.toNatClampNeg + n2.toNatClampNeg * k2.toNatClampNeg)) H1 := by
              have hsz := a1.1
              refine ⟨by rw [e4, hsz]; show z + w.2.1 + 1 + _ = z + (w.2.1 + 1 + _); omega, fun j xx hj => ?_⟩
              dsimp only at hj
              split at hj
              · rename_i hj0
                subst hj0
                cases hj
                refine ⟨Or.inr ⟨_, _, hax, by show H1[z + w.2.1]? = _; rw [← hsz]; exact e6, c2, c3, ?_, fun _ => c1⟩, fun _ => by omega⟩
                rw [c4, List.map_map]
                congr 1
                apply List.map_congr_left
                intro i hi
                rw [hsz]
                show Value.ref (z + w.2.1 + 1 + i) = Value.ref (iv_r b z (w.2.1 + 2 + i))
                rw [show w.2.1 + 2 + i = (w.2.1 + 1 + i) + 1 by omega]
                show Value.ref (z + w.2.1 + 1 + i) = Value.ref (z + (w.2.1 + 1 + i))
                rw [show z + w.2.1 + 1 + i = z + (w.2.1 + 1 + i) by omega]
              · split at hj
                · rename_i hj0 hj1
                  cases hj
                  obtain ⟨i, rfl⟩ : ∃ i, j = w.2.1 + 1 + i + 1 := ⟨j - (w.2.1 + 2), by omega⟩
                  refine ⟨Or.inr ⟨_, _, hay, by show H1[z + (w.2.1 + 1 + i)]? = _; rw [show z + (w.2.1 + 1 + i) = H.size + 1 + i by omega]; exact e7 i (by omega), c5, c6, by rw [c7, List.map_replicate]; simp [iv_mv], fun h5 => by cases h5⟩, fun _ => by omega⟩
                · obtain ⟨g1, g2⟩ := a1.2 j xx hj
                  exact ⟨g1.kept (e5 _ g1.lt), g2⟩
            have h4 := h3 H1 ls locs (cells + 1 + n2.toNatClampNeg) (slots + n2.toNatClampNeg + n2.toNatClampNeg * k2.toNatClampNeg) hrep a2 a3 (by show n0 + (cells + 1 + _) = w.2.1 + 1 + _; omega) (by show s0 + (slots + _ + _) = w.2.2 + (_ + _); omega)
            rw [hn J h2] at h4
            rw [a1.1]
            exact h4
          · cases h
        · cases h
  · cases h
end IVN
end
section
/-! switches, calls, ends; then whole runs -/
def iv_rm (d mc ms : Nat) : Room := { frames := d, cells := mc, slots := ms, locals := 64 * d }
def iv_Pc (D : va_G) (b z : Nat) (w : iv_S) (as : List Value) : Array Value → State → Prop := fun x U => x = (as.map (iv_mv (iv_r b z))).toArray ∧ iv_rep D b z U w U.heap ∧ iv_Kw D U
def iv_Qc (D : va_G) (b z : Nat) (w' : iv_S) (v : Option Value) : Array Value → State → Outcome → State → Prop := fun _ _ o t => o = .returned (v.map (iv_mv (iv_r b z))) ∧ iv_rep D b z t w' t.heap
def iv_Met (l : Launch) (D : va_G) (b z d x : Nat) (as : List Value) (w : iv_S) (v : Option Value) (w' : iv_S) : Prop := iv_le w w' ∧ ∃ (mL : Nat) (rt : Option FieldType) (code : List iv_I), iv_M x = some (mL, rt, code) ∧ Met l (iv_N x).1 [.code (iv_N x).1 (iv_N x).2 mL rt] (iv_rm d (w'.2.1 - w.2.1) (w'.2.2 - w.2.2)) (iv_Pc D b z w as) (iv_Qc D b z w' v) (w'.2.1 - w.2.1) (w'.2.2 - w.2.2) (fun q => z ≤ q)
theorem iv_blind {D : va_G} {b z : Nat} {w : iv_S} {as : List Value} : FrameBlind (iv_Pc D b z w as) := fun a U g mk h => ⟨h.1, iv_rep.moved (s := U) (U := U.calling g mk a) (Vm.Alike.refl U.vm) h.2.1, iv_Kw.moved (s := U) (U := U.calling g mk a) (State.WarmedH.refl U) h.2.2⟩
theorem iv_le.trans {w w1 w2 : iv_S} (h : iv_le w w1) (h' : iv_le w1 w2) : iv_le w w2 := ⟨Nat.le_trans h.1 h'.1, Nat.le_trans h.2 h'.2⟩
theorem iv_sum {r : Nat → Nat} : ∀ (st : List Value), st.all iv_isv = true → ((st.map (iv_mv r)).map fun v => v.category).sum = st.length
  | [], _ => rfl
  | a :: st, h => by
    simp only [List.all_cons, Bool.and_eq_true] at h
    simp only [List.map_cons, List.sum_cons, List.length_cons, iv_cat h.1, iv_sum st h.2]
    omega
theorem iv_split (st : List Value) (y : Nat) (f : Value → Value) : st.map f = (((st.take y).reverse).map f).reverse ++ (st.drop y).map f := by
  rw [← List.map_reverse, List.reverse_reverse, ← List.map_append, List.take_append_drop]
theorem iv_rc_ok {w : iv_S} {as : List Value} {t : Nat} (h : iv_rc w as t = true) : ∃ (b0 : Nat) (As fs : List Value), as = .ref b0 :: As ∧ w.1 b0 = some (t, fs) := by
  unfold iv_rc at h
  split at h
  · rename_i b0 As
    split at h
    · rename_i t' fs hw
      have ht := of_decide_eq_true h
      subst ht
      exact ⟨b0, As, fs, rfl, hw⟩
    · cases h
  · cases h
theorem iv_isr_ok {as : List Value} (h : iv_isr as = true) : ∃ (b0 : Nat) (As : List Value), as = .ref b0 :: As := by
  unfold iv_isr at h
  split at h
  · exact ⟨_, _, rfl⟩
  · cases h
theorem iv_sw_ok {code : List iv_I} {t : Int} {j : Nat} {J : iv_I} (h : code.findIdx? (fun J => decide ((J.1.1 : Int) = t)) = some j) (hJ : code[j]? = some J) : (J.1.1 : Int) = t := by
  obtain ⟨hlt, hp, -⟩ := List.findIdx?_eq_some_iff_getElem.mp h
  rw [(List.getElem?_eq_some_iff.mp hJ).2] at hp
  exact of_decide_eq_true hp
section IVD
variable {p : Program} {l : Launch} {e : Env} {R : Room} {s : State} {m : MethodId} {args : Array Value} {below : List Frame} {meth : Method} {c : Code} {Q : State → Prop}
variable {D : va_G} {b z n0 s0 nL d : Nat} {own : String} {cc : ByteArray} {code : List iv_I} {rt : Option FieldType} {call : Nat → List Value → iv_S → iv_R} {v : Option Value} {w' : iv_S} {K : iv_Q} {pc k : Nat} {L st : List Value} {w : iv_S}
theorem iv_callB {index x mL n : Nat} {rt' : Option FieldType} {mc ms : Nat} (hW : iv_Kw D s) (hRd : d + 1 ≤ R.frames ∧ 64 * d + 64 ≤ R.locals) (ck : iv_ckm x mL rt') (hn : (parseMethodDescriptor (iv_N x).1.desc).map (fun t => t.parameters.length) = some n) (hl : (Cond.methodLink own index (iv_N x).1).before args s = true) : CallB R s args own index (iv_N x).1 (iv_N x).2 mL rt' [.code (iv_N x).1 (iv_N x).2 mL rt'] (iv_rm d mc ms) mc ms n := by
  obtain ⟨c1, c2, c3, c4, c5⟩ := ck
  refine ⟨rfl, rfl, hRd.1, by show 8 + (mL + 11) + 64 * d ≤ R.locals; omega, fun w hw a' U hU => ?_, List.mem_cons_self, hW.use c1 rfl, hW.use c2 rfl, c3, fun sig h => ?_, hl⟩
  · rw [List.mem_singleton.mp hw]
    exact iv_stay rfl hU (hW.2 _ c1 rfl)
  · rw [h] at hn
    exact (Option.some.inj hn).symm
theorem iv_callN {index x mL n : Nat} {host : String} {rt' : Option FieldType} {mc ms : Nat} (hW : iv_Kw D s) (hRd : d + 1 ≤ R.frames ∧ 64 * d + 64 ≤ R.locals) (ck : iv_ckm x mL rt') (hn : (parseMethodDescriptor (iv_N x).1.desc).map (fun t => t.parameters.length) = some n) (hl : (Cond.methodLinkNest own index (iv_N x).1 host).before args s = true) : va_CN R s args own index (iv_N x).1 host (iv_N x).2 mL rt' [.code (iv_N x).1 (iv_N x).2 mL rt'] (iv_rm d mc ms) mc ms n := by
  obtain ⟨c1, c2, c3, c4, c5⟩ := ck
  refine ⟨⟨rfl, rfl, hRd.1, by show 8 + (mL + 11) + 64 * d ≤ R.locals; omega, fun w hw a' U hU => ?_, List.mem_cons_self⟩, hW.use c1 rfl, hW.use c2 rfl, c3, fun sig h => ?_, hl⟩
  · rw [List.mem_singleton.mp hw]
    exact iv_stay rfl hU (hW.2 _ c1 rfl)
  · rw [h] at hn
    exact (Option.some.inj hn).symm
/-- what stands behind every call -/
theorem iv_back {y : Nat} {w1 : iv_S} {u1 : Option Value} {mc ms : Nat} {H : Heap} {ls : Array Slot} {locs : List Loc} {cells slots : Nat} {st0 : List Value} {J : iv_I} {aa : Array Value} {Qa : State → Outcome → State → Prop} {free : Addr → Prop} (hQa : Qa = iv_Qc D b z w1 u1 aa) (hfree : free = fun q => z ≤ q) (hmc : mc = w1.2.1 - w.2.1) (hms : ms = w1.2.2 - w.2.2)
    (hr : va_Run p l e R s m args below meth c H locs cells slots mc ms (F0 m pc ls st0) ((st.drop y).map (iv_mv (iv_r b z))) Qa free) (g1 : iv_le w w1) (hJ : J.1.1 = pc + 3) (h3 : iv_T p l e R s m args below meth c Q D b z n0 s0 nL J.1.1 L (u1.toList ++ st.drop y) w1)
    (a2 : iv_fr (iv_r b z) nL L ls) (a3 : ∀ q ∈ locs, z ≤ q.base) (a4 : n0 + cells = w.2.1) (a5 : s0 + slots = w.2.2) : W p l e R s m args below meth c H locs cells slots Q (F0 m pc ls st0) := by
  subst hQa; subst hfree; subst hmc; subst hms
  refine iv_after hr fun v2 st₀ t H1 Lc hq ht hal hL => ?_
  obtain ⟨hv2, hrep⟩ := hq
  have hv3 : v2 = u1.map (iv_mv (iv_r b z)) := Outcome.returned.inj hv2
  subst hv3
  obtain ⟨g1a, g1b⟩ := g1
  have h4 := h3 H1 ls (locs ++ Lc) (cells + (w1.2.1 - w.2.1)) (slots + (w1.2.2 - w.2.2)) (by rw [← ht]; exact hrep.moved hal.symm) a2 (fun q5 h5 => by
    rcases List.mem_append.mp h5 with h6 | h6
    · exact a3 q5 h6
    · exact hL q5 h6) (by omega) (by omega)
  rw [hJ, List.map_append] at h4
  cases u1 with
  | none => exact h4
  | some u => exact h4
theorem iv_c_tableswitch (hx : p.tables.exec = Jvm.exec) (hb : c.code = cc) (hK : ∀ (k : Nat) (L st : List Value) (w : iv_S), K k L st w = some (v, w') → (iv_le w w' ∧ ∃ J, code[k]? = some J ∧ iv_T p l e R s m args below meth c Q D b z n0 s0 nL J.1.1 L st w)) {dflt lo hi : Int} {offs : Array Int} {len : Nat} (hd : decode cc pc = .ok (.tableswitch dflt lo hi offs, len)) (h : iv_p1 st (fun x st' => if x.toInt < lo ∨ hi < x.toInt then iv_sw code ((pc : Int) + dflt) (fun j => K j L st' w) else
      match offs[(x.toInt - lo).toNat]? with
      | some o => iv_sw code ((pc : Int) + o) (fun j => K j L st' w)
      | none => none) = some (v, w')) : iv_le w w' ∧ iv_T p l e R s m args below meth c Q D b z n0 s0 nL (pc) L st w := by
  unfold iv_p1 at h
  split at h
  · rename_i x st'
    dsimp only at h
    split at h
    · rename_i hout
      unfold iv_sw at h
      split at h
      · rename_i j hj
        obtain ⟨h1, J, h2, h3⟩ := hK _ _ _ _ h
        refine ⟨h1, fun H ls locs cells slots a1 a2 a3 a4 a5 => ?_⟩
        have h4 := h3 H ls locs cells slots a1 a2 a3 a4 a5
        exact lv_tableOut hx hb hd hout (iv_sw_ok hj h2).symm h4
      · cases h
    · rename_i hin
      split at h
      · rename_i o ho
        unfold iv_sw at h
        split at h
        · rename_i j hj
          obtain ⟨h1, J, h2, h3⟩ := hK _ _ _ _ h
          refine ⟨h1, fun H ls locs cells slots a1 a2 a3 a4 a5 => ?_⟩
          have h4 := h3 H ls locs cells slots a1 a2 a3 a4 a5
          exact lv_tableIn hx hb hd (fun h5 => hin (Or.inl h5)) (fun h5 => hin (Or.inr h5)) ho (iv_sw_ok hj h2).symm h4
        · cases h
      · cases h
  · cases h
theorem iv_c_lookupswitch (hx : p.tables.exec = Jvm.exec) (hb : c.code = cc) (hK : ∀ (k : Nat) (L st : List Value) (w : iv_S), K k L st w = some (v, w') → (iv_le w w' ∧ ∃ J, code[k]? = some J ∧ iv_T p l e R s m args below meth c Q D b z n0 s0 nL J.1.1 L st w)) {dflt : Int} {ps : Array (Int × Int)} {len : Nat} (hd : decode cc pc = .ok (.lookupswitch dflt ps, len)) (hp : (ps.toList.zip (ps.toList.drop 1)).all (fun (a, next) => a.1 < next.1) = true) (h : iv_p1 st (fun x st' => iv_sw code ((pc : Int) + Op.lookupswitch.offset ps.toList dflt x.toInt) (fun j => K j L st' w)) = some (v, w')) : iv_le w w' ∧ iv_T p l e R s m args below meth c Q D b z n0 s0 nL (pc) L st w := by
  unfold iv_p1 at h
  split at h
  · rename_i x st'
    dsimp only at h
    unfold iv_sw at h
    split at h
    · rename_i j hj
      obtain ⟨h1, J, h2, h3⟩ := hK _ _ _ _ h
      refine ⟨h1, fun H ls locs cells slots a1 a2 a3 a4 a5 => ?_⟩
      have h4 := h3 H ls locs cells slots a1 a2 a3 a4 a5
      exact lv_lookup hx hb hd hp rfl (iv_sw_ok hj h2).symm h4
    · cases h
  · cases h
theorem iv_c_virtual (hx : p.tables.exec = Jvm.exec) (hb : c.code = cc) (hK : ∀ (k : Nat) (L st : List Value) (w : iv_S), K k L st w = some (v, w') → (iv_le w w' ∧ ∃ J, code[k]? = some J ∧ iv_T p l e R s m args below meth c Q D b z n0 s0 nL J.1.1 L st w)) (hown : s.vm.findClass own = some m.cls) (hW : iv_Kw D s) (hbz : b < z) (hR : w'.2.1 ≤ n0 + R.cells ∧ w'.2.2 ≤ s0 + R.slots) (hml : c.maxLocals = nL) (hRd : d + 1 ≤ R.frames ∧ 64 * d + 64 ≤ R.locals) (hcall : ∀ x as w u w1, call x as w = some (u, w1) → iv_Met l D b z d x as w u w1) {index x y u : Nat} (hvi : iv_ckv x) (hnp : (parseMethodDescriptor (iv_N x).1.desc).map (fun t => t.parameters.length) = some (y - 1)) (hlink : lw_tbl[u]? = some (.methodLink own index (iv_N x).1) ∨ ∃ host, lw_tbl[u]? = some (.methodLinkNest own index (iv_N x).1 host)) (hd : decode cc pc = .ok (.invokevirtual index, 3)) (hn : ∀ J, code[k + 1]? = some J → J.1.1 = pc + 3) (h : iv_inv call x y (fun as => iv_rc w as (iv_mc x)) st w (fun st' w1 => K (k + 1) L st' w1) = some (v, w')) : iv_le w w' ∧ iv_T p l e R s m args below meth c Q D b z n0 s0 nL (pc) L st w := by
  unfold iv_inv at h
  split at h
  · rename_i h0
    split at h
    · rename_i h8
      split at h
      · rename_i hall
        split at h
        · rename_i hok
          split at h
          · rename_i u1 w1 hc
            obtain ⟨g1, mL, rt', code', gM, gMet⟩ := hcall _ _ _ _ _ hc
            obtain ⟨h1, J, h2, h3⟩ := hK _ _ _ _ h
            refine ⟨iv_le.trans g1 h1, fun H ls locs cells slots a1 a2 a3 a4 a5 => ?_⟩
            have ck := ck_m _ _ _ _ gM
            have hR8 : (((st.drop y).map (iv_mv (iv_r b z))).map fun v => v.category).sum ≤ 8 := by rw [iv_sum _ hall]; exact h8
            have hlsz : ls.size = nL := by obtain ⟨-, lv, q1, -⟩ := a2; exact q1.1
            have hroom : cells + (w1.2.1 - w.2.1) ≤ R.cells ∧ slots + (w1.2.2 - w.2.2) ≤ R.slots := by obtain ⟨p1, p2⟩ := g1; obtain ⟨p3, p4⟩ := h1; exact ⟨by omega, by omega⟩
            obtain ⟨b0, As, fs, hrev, hw⟩ := iv_rc_ok hok
            have hAs : As.length = y - 1 := by have h5 := congrArg List.length hrev; simp only [List.length_reverse, List.length_take, List.length_cons] at h5; omega
            obtain ⟨v1, v2, q, hq1, hq2⟩ := hvi
            rcases (a1.2 b0 _ hw).1 with ⟨q', f1, f2, cellV, f3, f4, f5, -⟩ | ⟨ty', cell', f1, -⟩
            · cases f1.symm.trans hq1
              have hst : st.map (iv_mv (iv_r b z)) = (As.map (iv_mv (iv_r b z))).reverse ++ .ref (iv_r b z b0) :: (st.drop y).map (iv_mv (iv_r b z)) := by
                rw [iv_split st y, hrev, List.map_cons, List.reverse_cons, List.append_assoc]; rfl
              have hp : PreV s H (iv_N x).1.cls (iv_r b z b0) (iv_Pc D b z w (st.take y).reverse) (As.map (iv_mv (iv_r b z))) := ⟨iv_blind, ⟨cellV, f3, by rw [f5]; rfl, by rw [f4, ← hq2]; exact (hW.1 _ _ hq1).2.1⟩, fun U hU hwU => ⟨by rw [hrev]; rfl, by rw [hU]; exact a1.moved hwU.alike, hW.moved hwU⟩⟩
              rw [hst]
              rcases hlink with hl | ⟨host, hl⟩
              · exact iv_back (y := y) (J := J) rfl rfl rfl rfl (va_runV (Ts := []) (As := As.map (iv_mv (iv_r b z))) ⟨hx, hb, hml, hown, fun _ h5 => absurd h5 List.not_mem_nil⟩ gMet ⟨iv_callB hW hRd ck hnp (hW.at hl rfl), hW.use v1 rfl, hW.use v2 rfl⟩ hp rfl (by rw [List.length_map]; exact hAs) hlsz rfl (lv_room hR8) hd hroom) g1 (hn J h2) h3 a2 a3 a4 a5
              · exact iv_back (y := y) (J := J) rfl rfl rfl rfl (va_runVN (Ts := []) (As := As.map (iv_mv (iv_r b z))) ⟨hx, hb, hml, hown, fun _ h5 => absurd h5 List.not_mem_nil⟩ gMet ⟨iv_callN hW hRd ck hnp (hW.at hl rfl), hW.use v1 rfl, hW.use v2 rfl⟩ hp rfl (by rw [List.length_map]; exact hAs) hlsz rfl (lv_room hR8) hd hroom) g1 (hn J h2) h3 a2 a3 a4 a5
            · exact absurd (ck_ar _ _ f1) (Nat.not_le.mpr (ck_cl _ _ hq1).1)
          · cases h
        · cases h
      · cases h
    · cases h
  · cases h
theorem iv_c_special (hx : p.tables.exec = Jvm.exec) (hb : c.code = cc) (hK : ∀ (k : Nat) (L st : List Value) (w : iv_S), K k L st w = some (v, w') → (iv_le w w' ∧ ∃ J, code[k]? = some J ∧ iv_T p l e R s m args below meth c Q D b z n0 s0 nL J.1.1 L st w)) (hown : s.vm.findClass own = some m.cls) (hW : iv_Kw D s) (hbz : b < z) (hR : w'.2.1 ≤ n0 + R.cells ∧ w'.2.2 ≤ s0 + R.slots) (hml : c.maxLocals = nL) (hRd : d + 1 ≤ R.frames ∧ 64 * d + 64 ≤ R.locals) (hcall : ∀ x as w u w1, call x as w = some (u, w1) → iv_Met l D b z d x as w u w1) {index x y u : Nat} (hvi : iv_cki x) (hnp : (parseMethodDescriptor (iv_N x).1.desc).map (fun t => t.parameters.length) = some (y - 1)) (hlink : lw_tbl[u]? = some (.methodLink own index (iv_N x).1)) (hd : decode cc pc = .ok (.invokespecial index, 3)) (hn : ∀ J, code[k + 1]? = some J → J.1.1 = pc + 3) (h : iv_inv call x y iv_isr st w (fun st' w1 => K (k + 1) L st' w1) = some (v, w')) : iv_le w w' ∧ iv_T p l e R s m args below meth c Q D b z n0 s0 nL (pc) L st w := by
  unfold iv_inv at h
  split at h
  · rename_i h0
    split at h
    · rename_i h8
      split at h
      · rename_i hall
        split at h
        · rename_i hok
          split at h
          · rename_i u1 w1 hc
            obtain ⟨g1, mL, rt', code', gM, gMet⟩ := hcall _ _ _ _ _ hc
            obtain ⟨h1, J, h2, h3⟩ := hK _ _ _ _ h
            refine ⟨iv_le.trans g1 h1, fun H ls locs cells slots a1 a2 a3 a4 a5 => ?_⟩
            have ck := ck_m _ _ _ _ gM
            have hR8 : (((st.drop y).map (iv_mv (iv_r b z))).map fun v => v.category).sum ≤ 8 := by rw [iv_sum _ hall]; exact h8
            have hlsz : ls.size = nL := by obtain ⟨-, lv, q1, -⟩ := a2; exact q1.1
            have hroom : cells + (w1.2.1 - w.2.1) ≤ R.cells ∧ slots + (w1.2.2 - w.2.2) ≤ R.slots := by obtain ⟨p1, p2⟩ := g1; obtain ⟨p3, p4⟩ := h1; exact ⟨by omega, by omega⟩
            obtain ⟨b0, As, hrev⟩ := iv_isr_ok hok
            have hAs : As.length = y - 1 := by have h5 := congrArg List.length hrev; simp only [List.length_reverse, List.length_take, List.length_cons] at h5; omega
            obtain ⟨v1, v2, v3⟩ := hvi
            have v4 := v3 _ _ _ gM
            subst v4
            have hst : st.map (iv_mv (iv_r b z)) = (As.map (iv_mv (iv_r b z))).reverse ++ .ref (iv_r b z b0) :: (st.drop y).map (iv_mv (iv_r b z)) := by
              rw [iv_split st y, hrev, List.map_cons, List.reverse_cons, List.append_assoc]; rfl
            have hp : PreS s H (iv_Pc D b z w (st.take y).reverse) (.ref (iv_r b z b0) :: As.map (iv_mv (iv_r b z))) := ⟨iv_blind, fun U hU hwU => ⟨by rw [hrev]; rfl, by rw [hU]; exact a1.moved hwU.alike, hW.moved hwU⟩⟩
            rw [hst]
            exact iv_back (y := y) (J := J) rfl rfl rfl rfl (va_runI (Ts := []) (As := As.map (iv_mv (iv_r b z))) ⟨hx, hb, hml, hown, fun _ h5 => absurd h5 List.not_mem_nil⟩ gMet ⟨iv_callB hW hRd ck hnp (hW.at hlink rfl), v2, hW.use v1 rfl⟩ hp rfl (by rw [List.length_map]; exact hAs) hlsz rfl (lv_room hR8) hd hroom) g1 (hn J h2) h3 a2 a3 a4 a5
          · cases h
        · cases h
      · cases h
    · cases h
  · cases h
theorem iv_c_static (hx : p.tables.exec = Jvm.exec) (hb : c.code = cc) (hK : ∀ (k : Nat) (L st : List Value) (w : iv_S), K k L st w = some (v, w') → (iv_le w w' ∧ ∃ J, code[k]? = some J ∧ iv_T p l e R s m args below meth c Q D b z n0 s0 nL J.1.1 L st w)) (hown : s.vm.findClass own = some m.cls) (hW : iv_Kw D s) (hbz : b < z) (hR : w'.2.1 ≤ n0 + R.cells ∧ w'.2.2 ≤ s0 + R.slots) (hml : c.maxLocals = nL) (hRd : d + 1 ≤ R.frames ∧ 64 * d + 64 ≤ R.locals) (hcall : ∀ x as w u w1, call x as w = some (u, w1) → iv_Met l D b z d x as w u w1) {index x y u : Nat} (hvi : Cond.static (iv_N x).1 ∈ lw_tbl) (hnp : (parseMethodDescriptor (iv_N x).1.desc).map (fun t => t.parameters.length) = some y) (hlink : lw_tbl[u]? = some (.methodLink own index (iv_N x).1)) (hd : decode cc pc = .ok (.invokestatic index, 3)) (hn : ∀ J, code[k + 1]? = some J → J.1.1 = pc + 3) (h : iv_inv call x y (fun _ => true) st w (fun st' w1 => K (k + 1) L st' w1) = some (v, w')) : iv_le w w' ∧ iv_T p l e R s m args below meth c Q D b z n0 s0 nL (pc) L st w := by
  unfold iv_inv at h
  split at h
  · rename_i h0
    split at h
    · rename_i h8
      split at h
      · rename_i hall
        split at h
        · rename_i hok
          split at h
          · rename_i u1 w1 hc
            obtain ⟨g1, mL, rt', code', gM, gMet⟩ := hcall _ _ _ _ _ hc
            obtain ⟨h1, J, h2, h3⟩ := hK _ _ _ _ h
            refine ⟨iv_le.trans g1 h1, fun H ls locs cells slots a1 a2 a3 a4 a5 => ?_⟩
            have ck := ck_m _ _ _ _ gM
            have hR8 : (((st.drop y).map (iv_mv (iv_r b z))).map fun v => v.category).sum ≤ 8 := by rw [iv_sum _ hall]; exact h8
            have hlsz : ls.size = nL := by obtain ⟨-, lv, q1, -⟩ := a2; exact q1.1
            have hroom : cells + (w1.2.1 - w.2.1) ≤ R.cells ∧ slots + (w1.2.2 - w.2.2) ≤ R.slots := by obtain ⟨p1, p2⟩ := g1; obtain ⟨p3, p4⟩ := h1; exact ⟨by omega, by omega⟩
            have hst : st.map (iv_mv (iv_r b z)) = ((st.take y).reverse.map (iv_mv (iv_r b z))).reverse ++ (st.drop y).map (iv_mv (iv_r b z)) := iv_split st y _
            have hp : PreS s H (iv_Pc D b z w (st.take y).reverse) ((st.take y).reverse.map (iv_mv (iv_r b z))) := ⟨iv_blind, fun U hU hwU => ⟨rfl, by rw [hU]; exact a1.moved hwU.alike, hW.moved hwU⟩⟩
            rw [hst]
            exact iv_back (y := y) (J := J) rfl rfl rfl rfl (va_runS (Ts := []) (As := (st.take y).reverse.map (iv_mv (iv_r b z))) ⟨hx, hb, hml, hown, fun _ h5 => absurd h5 List.not_mem_nil⟩ gMet ⟨iv_callB hW hRd ck hnp (hW.at hlink rfl), hW.use hvi rfl⟩ hp rfl (by rw [List.length_map, List.length_reverse, List.length_take]; omega) hlsz rfl (lv_room hR8) hd hroom) g1 (hn J h2) h3 a2 a3 a4 a5
          · cases h
        · cases h
      · cases h
    · cases h
  · cases h
theorem iv_c_objinit (hx : p.tables.exec = Jvm.exec) (hb : c.code = cc) (hK : ∀ (k : Nat) (L st : List Value) (w : iv_S), K k L st w = some (v, w') → (iv_le w w' ∧ ∃ J, code[k]? = some J ∧ iv_T p l e R s m args below meth c Q D b z n0 s0 nL J.1.1 L st w)) (hown : s.vm.findClass own = some m.cls) (hW : iv_Kw D s) (hbz : b < z) (hml : c.maxLocals = nL) (hRd : d + 1 ≤ R.frames ∧ 64 * d + 64 ≤ R.locals) (hcall : ∀ x as w u w1, call x as w = some (u, w1) → iv_Met l D b z d x as w u w1) {index u : Nat} (ck : Cond.instanceMethod Lib.objectInit ∈ lw_tbl ∧ Cond.code Lib.objectInit ⟨#[0xb1]⟩ 1 none ∈ lw_tbl) (hlink : lw_tbl[u]? = some (.methodLink own index Lib.objectInit)) (hd : decode cc pc = .ok (.invokespecial index, 3)) (hn : ∀ J, code[k + 1]? = some J → J.1.1 = pc + 3) (h : iv_oi st (fun st' => K (k + 1) L st' w) = some (v, w')) : iv_le w w' ∧ iv_T p l e R s m args below meth c Q D b z n0 s0 nL (pc) L st w := by
  unfold iv_oi at h
  split at h
  · rename_i a st'
    split at h
    · rename_i h8
      split at h
      · rename_i hall
        obtain ⟨h1, J, h2, h3⟩ := hK _ _ _ _ h
        refine ⟨h1, fun H ls locs cells slots a1 a2 a3 a4 a5 => ?_⟩
        have h4 := h3 H ls locs cells slots a1 a2 a3 a4 a5
        rw [hn J h2] at h4
        have hlsz : ls.size = nL := by obtain ⟨-, lv, q1, -⟩ := a2; exact q1.1
        have hR8 : ((st'.map (iv_mv (iv_r b z))).map fun v => v.category).sum ≤ 8 := by rw [iv_sum _ hall]; exact h8
        have hR9 := lv_room (m := m) (pc := pc) (ls := ls) (rest := .ref (iv_r b z a) :: st'.map (iv_mv (iv_r b z))) hR8
        exact W.objInit hx hb hown (hW.at hlink rfl) (hW.use ck.1 rfl) (hW.use ck.2 rfl) rfl (hlsz.trans hml.symm) rfl hd (by omega) (Nat.le_trans (Nat.add_le_add_right hR9 12) (by omega)) h4
      · cases h
    · cases h
  · cases h
end IVD
end
section
/-! what must hold of a method's rows: lengths and places (by counting), and the tables' words behind a row -/
def iv_jmp (code : List iv_I) (j : Nat) (t : Int) : Bool := match code[j]? with
  | some J => decide ((J.1.1 : Int) = t)
  | none => false
theorem iv_jmp_of {code : List iv_I} {j : Nat} {t : Int} (h : iv_jmp code j t = true) : ∃ J, code[j]? = some J ∧ (J.1.1 : Int) = t := by
  unfold iv_jmp at h
  split at h
  · rename_i J hJ
    exact ⟨J, hJ, of_decide_eq_true h⟩
  · cases h
def iv_nxt (code : List iv_I) (k pc len : Nat) : Bool := match code[k + 1]? with
  | some J => decide (J.1.1 = pc + len)
  | none => true
theorem iv_nxt_of {code : List iv_I} {k pc len : Nat} (h : iv_nxt code k pc len = true) : ∀ J, code[k + 1]? = some J → J.1.1 = pc + len := by
  intro J hJ
  unfold iv_nxt at h
  rw [hJ] at h
  exact of_decide_eq_true h
def iv_okb (code : List iv_I) (k : Nat) (I : iv_I) : Bool := iv_nxt code k I.1.1 I.1.2 && (match I.2.1 with
  | .iconst _ => decide (I.1.2 = 1)
  | .aconst_null => decide (I.1.2 = 1)
  | .iload_n _ => decide (I.1.2 = 1)
  | .aload_n _ => decide (I.1.2 = 1)
  | .istore_n _ => decide (I.1.2 = 1)
  | .astore_n _ => decide (I.1.2 = 1)
  | .iadd => decide (I.1.2 = 1)
  | .isub => decide (I.1.2 = 1)
  | .imul => decide (I.1.2 = 1)
  | .iand => decide (I.1.2 = 1)
  | .ior => decide (I.1.2 = 1)
  | .ixor => decide (I.1.2 = 1)
  | .ishl => decide (I.1.2 = 1)
  | .ishr => decide (I.1.2 = 1)
  | .idiv => decide (I.1.2 = 1)
  | .irem => decide (I.1.2 = 1)
  | .ineg => decide (I.1.2 = 1)
  | .i2c => decide (I.1.2 = 1)
  | .dup => decide (I.1.2 = 1)
  | .pop => decide (I.1.2 = 1)
  | .dup_x1 => decide (I.1.2 = 1)
  | .dup2 => decide (I.1.2 = 1)
  | .iaload => decide (I.1.2 = 1)
  | .baload => decide (I.1.2 = 1)
  | .caload => decide (I.1.2 = 1)
  | .aaload => decide (I.1.2 = 1)
  | .iastore => decide (I.1.2 = 1)
  | .bastore => decide (I.1.2 = 1)
  | .castore => decide (I.1.2 = 1)
  | .aastore => decide (I.1.2 = 1)
  | .arraylength => decide (I.1.2 = 1)
  | .ireturn => decide (I.1.2 = 1)
  | .areturn => decide (I.1.2 = 1)
  | .return_ => decide (I.1.2 = 1)
  | .bipush _ => decide (I.1.2 = 2)
  | .iload _ => decide (I.1.2 = 2)
  | .aload _ => decide (I.1.2 = 2)
  | .istore _ => decide (I.1.2 = 2)
  | .astore _ => decide (I.1.2 = 2)
  | .newarray _ => decide (I.1.2 = 2)
  | .ldc _ => decide (I.1.2 = 2)
  | .sipush _ => decide (I.1.2 = 3)
  | .iinc _ _ => decide (I.1.2 = 3)
  | .getfield _ => decide (I.1.2 = 3)
  | .putfield _ => decide (I.1.2 = 3)
  | .new _ => decide (I.1.2 = 3)
  | .anewarray _ => decide (I.1.2 = 3)
  | .invokevirtual _ => decide (I.1.2 = 3)
  | .invokespecial _ => decide (I.1.2 = 3)
  | .invokestatic _ => decide (I.1.2 = 3)
  | .ifCond _ off => decide (I.1.2 = 3) && iv_jmp code I.2.2.1 ((I.1.1 : Int) + off)
  | .if_icmp _ off => decide (I.1.2 = 3) && iv_jmp code I.2.2.1 ((I.1.1 : Int) + off)
  | .ifnull off => decide (I.1.2 = 3) && iv_jmp code I.2.2.1 ((I.1.1 : Int) + off)
  | .ifnonnull off => decide (I.1.2 = 3) && iv_jmp code I.2.2.1 ((I.1.1 : Int) + off)
  | .goto off => decide (I.1.2 = 3) && iv_jmp code I.2.2.1 ((I.1.1 : Int) + off)
  | .multianewarray _ n => decide (I.1.2 = 4) && decide (n = 2)
  | .tableswitch _ _ _ _ => true
  | .lookupswitch _ ps => (ps.toList.zip (ps.toList.drop 1)).all (fun (a, next) => a.1 < next.1)
  | _ => true)
def iv_okw (own : String) (ini : Bool) (I : iv_I) : Prop := match I.2.1 with
  | .getfield index => ∃ q, iv_cl[I.2.2.1]? = some q ∧ I.2.2.2.1 < q.2.2 ∧ (lw_tbl[I.2.2.2.2]? = some (.fieldLink own index (q.2.1 I.2.2.2.1).1 (q.2.1 I.2.2.2.1).2.1 (q.2.1 I.2.2.2.1).2.2.1) ∨ ∃ host, lw_tbl[I.2.2.2.2]? = some (.fieldLinkNest own index (q.2.1 I.2.2.2.1).1 (q.2.1 I.2.2.2.1).2.1 (q.2.1 I.2.2.2.1).2.2.1 host))
  | .putfield index => ∃ q, iv_cl[I.2.2.1]? = some q ∧ ((lw_tbl[I.2.2.2.2]? = some (.fieldLink own index (q.2.1 I.2.2.2.1).1 (q.2.1 I.2.2.2.1).2.1 (q.2.1 I.2.2.2.1).2.2.1) ∧ ((q.2.1 I.2.2.2.1).2.2.2 = false ∨ ((q.2.1 I.2.2.2.1).2.2.2 = true ∧ (q.2.1 I.2.2.2.1).1 = own ∧ ini = true))) ∨ ∃ host, lw_tbl[I.2.2.2.2]? = some (.fieldLinkNest own index (q.2.1 I.2.2.2.1).1 (q.2.1 I.2.2.2.1).2.1 (q.2.1 I.2.2.2.1).2.2.1 host) ∧ (q.2.1 I.2.2.2.1).2.2.2 = false)
  | .ldc index => lw_tbl[I.2.2.2.2]? = some (.constant own index (Int32.ofNat I.2.2.1))
  | .new index => ∃ q, iv_cl[I.2.2.1]? = some q ∧ lw_tbl[I.2.2.2.2]? = some (.classLink own index q.1)
  | .newarray ty => iv_ar I.2.2.1 = some (newarray.typeOf ty) ∧ lw_tbl[I.2.2.2.2]? = some (.arrayClass (newarray.typeOf ty))
  | .anewarray index => ∃ C, iv_ar I.2.2.1 = some (.object C) ∧ Cond.arrayOver (.object C) ∈ lw_tbl ∧ lw_tbl[I.2.2.2.2]? = some (.classLink own index C)
  | .multianewarray index _ => iv_ar I.2.2.1 = some (.array .int) ∧ iv_ar I.2.2.2.1 = some .int ∧ Cond.arrayOver (.array .int) ∈ lw_tbl ∧ Cond.arrayClass .int ∈ lw_tbl ∧ lw_tbl[I.2.2.2.2]? = some (.classLink own index ("[" ++ (FieldType.array .int).toString))
  | .invokevirtual index => iv_ckv I.2.2.1 ∧ (parseMethodDescriptor (iv_N I.2.2.1).1.desc).map (fun t => t.parameters.length) = some (I.2.2.2.1 - 1) ∧ (lw_tbl[I.2.2.2.2]? = some (.methodLink own index (iv_N I.2.2.1).1) ∨ ∃ host, lw_tbl[I.2.2.2.2]? = some (.methodLinkNest own index (iv_N I.2.2.1).1 host))
  | .invokespecial index => (I.2.2.1 = 0 ∧ lw_tbl[I.2.2.2.2]? = some (.methodLink own index Lib.objectInit)) ∨ (I.2.2.1 ≠ 0 ∧ iv_cki I.2.2.1 ∧ (parseMethodDescriptor (iv_N I.2.2.1).1.desc).map (fun t => t.parameters.length) = some (I.2.2.2.1 - 1) ∧ lw_tbl[I.2.2.2.2]? = some (.methodLink own index (iv_N I.2.2.1).1))
  | .invokestatic index => Cond.static (iv_N I.2.2.1).1 ∈ lw_tbl ∧ (parseMethodDescriptor (iv_N I.2.2.1).1.desc).map (fun t => t.parameters.length) = some I.2.2.2.1 ∧ lw_tbl[I.2.2.2.2]? = some (.methodLink own index (iv_N I.2.2.1).1)
  | _ => True
def iv_fin (rt : Option FieldType) (op : Instr) (st : List Value) (w : iv_S) : iv_R := match op with
  | .ireturn => iv_ret rt st w
  | .areturn => iv_rea rt st w
  | .return_ => iv_rev rt st w
  | _ => none
section IVE
variable {p : Program} {l : Launch} {e : Env} {R : Room} {s : State} {m : MethodId} {args : Array Value} {below : List Frame} {meth : Method} {c : Code} {Q : State → Prop}
variable {D : va_G} {b z n0 s0 nL d : Nat} {own : String} {ini : Bool} {cc : ByteArray} {code : List iv_I} {rt : Option FieldType} {call : Nat → List Value → iv_S → iv_R} {v : Option Value} {w' : iv_S} {K : iv_Q} {k : Nat} {L st : List Value} {w : iv_S}
set_option maxHeartbeats 4000000 in
theorem iv_step (hx : p.tables.exec = Jvm.exec) (hb : c.code = cc) (hK : ∀ (k : Nat) (L st : List Value) (w : iv_S), K k L st w = some (v, w') → (iv_le w w' ∧ ∃ J, code[k]? = some J ∧ iv_T p l e R s m args below meth c Q D b z n0 s0 nL J.1.1 L st w)) (hown : s.vm.findClass own = some m.cls) (hW : iv_Kw D s) (hbz : b < z) (hR : w'.2.1 ≤ n0 + R.cells ∧ w'.2.2 ≤ s0 + R.slots) (hml : c.maxLocals = nL) (hRd : d + 1 ≤ R.frames ∧ 64 * d + 64 ≤ R.locals) (hcall : ∀ x as w u w1, call x as w = some (u, w1) → iv_Met l D b z d x as w u w1) (hini : ini = true → meth.name = "<init>") (hret : ∀ (op : Instr) (pc : Nat) (L st : List Value) (w : iv_S), decode cc pc = .ok (op, 1) → iv_fin rt op st w = some (v, w') → iv_le w w' ∧ iv_T p l e R s m args below meth c Q D b z n0 s0 nL (pc) L st w)
    {I : iv_I} (hd : decode cc I.1.1 = .ok (I.2.1, I.1.2)) (hob : iv_okb code k I = true) (how : iv_okw own ini I) (h : iv_go call code rt K I k L st w = some (v, w')) : iv_le w w' ∧ iv_T p l e R s m args below meth c Q D b z n0 s0 nL (I.1.1) L st w := by
  obtain ⟨⟨pc, len⟩, op, x, y, u⟩ := I
  unfold iv_okb at hob
  rw [Bool.and_eq_true] at hob
  obtain ⟨hnb, hob⟩ := hob
  have hn := iv_nxt_of hnb
  cases op
  case iconst n =>
    have hlen : len = 1 := of_decide_eq_true hob
    subst hlen
    exact iv_c_iconst hx hb hK hd hn h
  case aconst_null =>
    have hlen : len = 1 := of_decide_eq_true hob
    subst hlen
    exact iv_c_null hx hb hK hd hn h
  case iload_n i =>
    have hlen : len = 1 := of_decide_eq_true hob
    subst hlen
    exact iv_c_iload_n hx hb hK hd hn h
  case aload_n i =>
    have hlen : len = 1 := of_decide_eq_true hob
    subst hlen
    exact iv_c_aload_n hx hb hK hd hn h
  case istore_n i =>
    have hlen : len = 1 := of_decide_eq_true hob
    subst hlen
    exact iv_c_istore_n hx hb hK hd hn h
  case astore_n i =>
    have hlen : len = 1 := of_decide_eq_true hob
    subst hlen
    exact iv_c_astore_n hx hb hK hd hn h
  case iadd =>
    have hlen : len = 1 := of_decide_eq_true hob
    subst hlen
    exact iv_c_iadd hx hb hK hd hn h
  case isub =>
    have hlen : len = 1 := of_decide_eq_true hob
    subst hlen
    exact iv_c_isub hx hb hK hd hn h
  case imul =>
    have hlen : len = 1 := of_decide_eq_true hob
    subst hlen
    exact iv_c_imul hx hb hK hd hn h
  case iand =>
    have hlen : len = 1 := of_decide_eq_true hob
    subst hlen
    exact iv_c_iand hx hb hK hd hn h
  case ior =>
    have hlen : len = 1 := of_decide_eq_true hob
    subst hlen
    exact iv_c_ior hx hb hK hd hn h
  case ixor =>
    have hlen : len = 1 := of_decide_eq_true hob
    subst hlen
    exact iv_c_ixor hx hb hK hd hn h
  case ishl =>
    have hlen : len = 1 := of_decide_eq_true hob
    subst hlen
    exact iv_c_ishl hx hb hK hd hn h
  case ishr =>
    have hlen : len = 1 := of_decide_eq_true hob
    subst hlen
    exact iv_c_ishr hx hb hK hd hn h
  case idiv =>
    have hlen : len = 1 := of_decide_eq_true hob
    subst hlen
    exact iv_c_idiv hx hb hK hd hn h
  case irem =>
    have hlen : len = 1 := of_decide_eq_true hob
    subst hlen
    exact iv_c_irem hx hb hK hd hn h
  case ineg =>
    have hlen : len = 1 := of_decide_eq_true hob
    subst hlen
    exact iv_c_ineg hx hb hK hd hn h
  case i2c =>
    have hlen : len = 1 := of_decide_eq_true hob
    subst hlen
    exact iv_c_i2c hx hb hK hd hn h
  case dup =>
    have hlen : len = 1 := of_decide_eq_true hob
    subst hlen
    exact iv_c_dup hx hb hK hd hn h
  case pop =>
    have hlen : len = 1 := of_decide_eq_true hob
    subst hlen
    exact iv_c_pop hx hb hK hd hn h
  case dup_x1 =>
    have hlen : len = 1 := of_decide_eq_true hob
    subst hlen
    exact iv_c_dup_x1 hx hb hK hd hn h
  case dup2 =>
    have hlen : len = 1 := of_decide_eq_true hob
    subst hlen
    exact iv_c_dup2 hx hb hK hd hn h
  case bipush n =>
    have hlen : len = 2 := of_decide_eq_true hob
    subst hlen
    exact iv_c_bipush hx hb hK hd hn h
  case iload i =>
    have hlen : len = 2 := of_decide_eq_true hob
    subst hlen
    exact iv_c_iload hx hb hK hd hn h
  case aload i =>
    have hlen : len = 2 := of_decide_eq_true hob
    subst hlen
    exact iv_c_aload hx hb hK hd hn h
  case istore i =>
    have hlen : len = 2 := of_decide_eq_true hob
    subst hlen
    exact iv_c_istore hx hb hK hd hn h
  case astore i =>
    have hlen : len = 2 := of_decide_eq_true hob
    subst hlen
    exact iv_c_astore hx hb hK hd hn h
  case sipush n =>
    have hlen : len = 3 := of_decide_eq_true hob
    subst hlen
    exact iv_c_sipush hx hb hK hd hn h
  case iinc i n =>
    have hlen : len = 3 := of_decide_eq_true hob
    subst hlen
    exact iv_c_iinc hx hb hK hd hn h
  case iaload =>
    have hlen : len = 1 := of_decide_eq_true hob
    subst hlen
    exact iv_c_iaload hx hb hK hd hn h
  case baload =>
    have hlen : len = 1 := of_decide_eq_true hob
    subst hlen
    exact iv_c_baload hx hb hK hd hn h
  case caload =>
    have hlen : len = 1 := of_decide_eq_true hob
    subst hlen
    exact iv_c_caload hx hb hK hd hn h
  case aaload =>
    have hlen : len = 1 := of_decide_eq_true hob
    subst hlen
    exact iv_c_aaload hx hb hK hd hn h
  case iastore =>
    have hlen : len = 1 := of_decide_eq_true hob
    subst hlen
    exact iv_c_iastore hx hb hK hbz hd hn h
  case bastore =>
    have hlen : len = 1 := of_decide_eq_true hob
    subst hlen
    exact iv_c_bastore hx hb hK hbz hd hn h
  case castore =>
    have hlen : len = 1 := of_decide_eq_true hob
    subst hlen
    exact iv_c_castore hx hb hK hbz hd hn h
  case aastore =>
    have hlen : len = 1 := of_decide_eq_true hob
    subst hlen
    exact iv_c_aastore hx hb hK hown hW hbz hd hn h
  case arraylength =>
    have hlen : len = 1 := of_decide_eq_true hob
    subst hlen
    exact iv_c_alen hx hb hK hd hn h
  case ireturn =>
    have hlen : len = 1 := of_decide_eq_true hob
    subst hlen
    exact hret _ pc L st w hd h
  case areturn =>
    have hlen : len = 1 := of_decide_eq_true hob
    subst hlen
    exact hret _ pc L st w hd h
  case return_ =>
    have hlen : len = 1 := of_decide_eq_true hob
    subst hlen
    exact hret _ pc L st w hd h
  case ifCond q off =>
    obtain ⟨h5, h6⟩ := Bool.and_eq_true_iff.mp hob
    have hlen : len = 3 := of_decide_eq_true h5
    subst hlen
    obtain ⟨J0, hJ0, hJ1⟩ := iv_jmp_of h6
    have hj : ∀ J, code[x]? = some J → (J.1.1 : Int) = (pc : Int) + off := fun J hJ => by cases hJ0.symm.trans hJ; exact hJ1
    exact iv_c_ifCond hx hb hK hd hn hj hJ1.symm h
  case if_icmp q off =>
    obtain ⟨h5, h6⟩ := Bool.and_eq_true_iff.mp hob
    have hlen : len = 3 := of_decide_eq_true h5
    subst hlen
    obtain ⟨J0, hJ0, hJ1⟩ := iv_jmp_of h6
    have hj : ∀ J, code[x]? = some J → (J.1.1 : Int) = (pc : Int) + off := fun J hJ => by cases hJ0.symm.trans hJ; exact hJ1
    exact iv_c_icmp hx hb hK hd hn hj hJ1.symm h
  case ifnull off =>
    obtain ⟨h5, h6⟩ := Bool.and_eq_true_iff.mp hob
    have hlen : len = 3 := of_decide_eq_true h5
    subst hlen
    obtain ⟨J0, hJ0, hJ1⟩ := iv_jmp_of h6
    have hj : ∀ J, code[x]? = some J → (J.1.1 : Int) = (pc : Int) + off := fun J hJ => by cases hJ0.symm.trans hJ; exact hJ1
    exact iv_c_ifnull hx hb hK hd hn hj h
  case ifnonnull off =>
    obtain ⟨h5, h6⟩ := Bool.and_eq_true_iff.mp hob
    have hlen : len = 3 := of_decide_eq_true h5
    subst hlen
    obtain ⟨J0, hJ0, hJ1⟩ := iv_jmp_of h6
    have hj : ∀ J, code[x]? = some J → (J.1.1 : Int) = (pc : Int) + off := fun J hJ => by cases hJ0.symm.trans hJ; exact hJ1
    exact iv_c_ifnonnull hx hb hK hd hn hj h
  case goto off =>
    obtain ⟨h5, h6⟩ := Bool.and_eq_true_iff.mp hob
    have hlen : len = 3 := of_decide_eq_true h5
    subst hlen
    obtain ⟨J0, hJ0, hJ1⟩ := iv_jmp_of h6
    have hj : ∀ J, code[x]? = some J → (J.1.1 : Int) = (pc : Int) + off := fun J hJ => by cases hJ0.symm.trans hJ; exact hJ1
    exact iv_c_goto hx hb hK hd hj h
  case getfield index =>
    have hlen : len = 3 := of_decide_eq_true hob
    subst hlen
    obtain ⟨q, h5, h6, h7⟩ := how
    exact iv_c_getfield hx hb hK hown hW hbz h5 (ck_cl _ _ h5) h6 h7 hd hn h
  case putfield index =>
    have hlen : len = 3 := of_decide_eq_true hob
    subst hlen
    obtain ⟨q, h5, h7⟩ := how
    refine iv_c_putfield (u := u) hx hb hK hown hW hbz h5 (ck_cl _ _ h5) ?_ hd hn h
    rcases h7 with ⟨g1, g2 | ⟨g2, g3, g4⟩⟩ | g1
    · exact Or.inl ⟨g1, Or.inl g2⟩
    · exact Or.inl ⟨g1, Or.inr ⟨g2, g3, hini g4⟩⟩
    · exact Or.inr g1
  case new index =>
    have hlen : len = 3 := of_decide_eq_true hob
    subst hlen
    obtain ⟨q, h5, h6⟩ := how
    exact iv_c_new hx hb hK hown hW hbz hR h5 (ck_cl _ _ h5) h6 hd hn h
  case ldc index =>
    have hlen : len = 2 := of_decide_eq_true hob
    subst hlen
    exact iv_c_ldc hx hb hK hown hW how hd hn h
  case newarray ty =>
    have hlen : len = 2 := of_decide_eq_true hob
    subst hlen
    exact iv_c_newarray hx hb hK hown hW hbz hR how.1 how.2 hd hn h
  case anewarray index =>
    have hlen : len = 3 := of_decide_eq_true hob
    subst hlen
    obtain ⟨C, h5, h6, h7⟩ := how
    exact iv_c_anewarray hx hb hK hown hW hbz hR h5 h6 h7 hd hn h
  case multianewarray index n =>
    obtain ⟨h5, h6⟩ := Bool.and_eq_true_iff.mp hob
    have hlen : len = 4 := of_decide_eq_true h5
    subst hlen
    have hnn : n = 2 := of_decide_eq_true h6
    subst hnn
    exact iv_c_multi hx hb hK hown hW hbz hR how.1 how.2.1 how.2.2.1 how.2.2.2.1 how.2.2.2.2 hd hn h
  case tableswitch d0 lo hi offs =>
    exact iv_c_tableswitch hx hb hK hd h
  case lookupswitch d0 ps =>
    exact iv_c_lookupswitch hx hb hK hd hob h
  case invokevirtual index =>
    have hlen : len = 3 := of_decide_eq_true hob
    subst hlen
    exact iv_c_virtual hx hb hK hown hW hbz hR hml hRd hcall how.1 how.2.1 how.2.2 hd hn h
  case invokespecial index =>
    have hlen : len = 3 := of_decide_eq_true hob
    subst hlen
    rcases how with ⟨h5, h6⟩ | ⟨h5, h6, h7, h8⟩
    · have h5 : x = 0 := h5
      subst h5
      exact iv_c_objinit hx hb hK hown hW hbz hml hRd hcall ck_oi h6 hd hn h
    · have h5 : ¬ x = 0 := h5
      have h9 : (if x = 0 then iv_oi st (fun st' => K (k + 1) L st' w) else iv_inv call x y iv_isr st w fun st' w' => K (k + 1) L st' w') = some (v, w') := h
      rw [if_neg h5] at h9
      exact iv_c_special hx hb hK hown hW hbz hR hml hRd hcall h6 h7 h8 hd hn h9
  case invokestatic index =>
    have hlen : len = 3 := of_decide_eq_true hob
    subst hlen
    exact iv_c_static hx hb hK hown hW hbz hR hml hRd hcall how.1 how.2.1 how.2.2 hd hn h
  all_goals exact absurd h (by simp [iv_go])
theorem iv_walk (hx : p.tables.exec = Jvm.exec) (hb : c.code = cc) (hown : s.vm.findClass own = some m.cls) (hW : iv_Kw D s) (hbz : b < z) (hR : w'.2.1 ≤ n0 + R.cells ∧ w'.2.2 ≤ s0 + R.slots) (hml : c.maxLocals = nL) (hRd : d + 1 ≤ R.frames ∧ 64 * d + 64 ≤ R.locals) (hcall : ∀ x as w u w1, call x as w = some (u, w1) → iv_Met l D b z d x as w u w1) (hini : ini = true → meth.name = "<init>") (hret : ∀ (op : Instr) (pc : Nat) (L st : List Value) (w : iv_S), decode cc pc = .ok (op, 1) → iv_fin rt op st w = some (v, w') → iv_le w w' ∧ iv_T p l e R s m args below meth c Q D b z n0 s0 nL (pc) L st w)
    (hcd : ∀ (k : Nat) (I : iv_I), code[k]? = some I → decode cc I.1.1 = .ok (I.2.1, I.1.2) ∧ iv_okb code k I = true ∧ iv_okw own ini I) : ∀ (n k : Nat) (L st : List Value) (w : iv_S), iv_run call code rt n k L st w = some (v, w') → (iv_le w w' ∧ ∃ J, code[k]? = some J ∧ iv_T p l e R s m args below meth c Q D b z n0 s0 nL J.1.1 L st w)
  | 0, k, L, st, w, h => by rw [iv_run_0] at h; cases h
  | n + 1, k, L, st, w, h => by
    rw [iv_run_s] at h
    split at h
    · rename_i I hI
      obtain ⟨h1, h2, h3⟩ := hcd k I hI
      obtain ⟨h4, h5⟩ := iv_step hx hb (iv_walk hx hb hown hW hbz hR hml hRd hcall hini hret hcd n) hown hW hbz hR hml hRd hcall hini hret h1 h2 h3 h
      exact ⟨h4, I, hI, h5⟩
    · cases h
end IVE
end
section
/-! one row: an end, one place to go on from, or one call and a place behind it; whatever goes on. So runs are the same with more fuel, and have a limit. -/
theorem iv_le.rf {w : iv_S} : iv_le w w := ⟨Nat.le_refl _, Nat.le_refl _⟩
def iv_Fac (w : iv_S) (f : (Nat → List Value → iv_S → iv_R) → iv_Q → iv_R) : Prop :=
  (∃ r, (∀ c K, f c K = r) ∧ ∀ v w', r = some (v, w') → iv_le w w') ∨ (∃ k L st w1, iv_le w w1 ∧ ∀ c K, f c K = K k L st w1) ∨
  (∃ x as k L st, ∀ c K, f c K = match c x as w with
    | some (u, w1) => K k L (u.toList ++ st) w1
    | none => none)
section IVL
variable {code : List iv_I} {rt : Option FieldType} {k : Nat} {L st : List Value} {w : iv_S}
theorem iv_f_n : iv_Fac w (fun _ _ => none) := Or.inl ⟨none, fun _ _ => rfl, fun _ _ h => by cases h⟩
theorem iv_f_k {w1 : iv_S} (h : iv_le w w1) : iv_Fac w (fun _ K => K k L st w1) := Or.inr (Or.inl ⟨k, L, st, w1, h, fun _ _ => rfl⟩)
theorem iv_f_0 : iv_Fac w (fun _ K => K k L st w) := iv_f_k iv_le.rf
theorem iv_f_p1 {q : (Nat → List Value → iv_S → iv_R) → iv_Q → Int32 → List Value → iv_R} (h : ∀ x st', iv_Fac w (fun c K => q c K x st')) : iv_Fac w (fun c K => iv_p1 st (q c K)) := by
  unfold iv_p1
  split
  · exact h _ _
  · exact iv_f_n
theorem iv_f_p2 {q : (Nat → List Value → iv_S → iv_R) → iv_Q → Int32 → Int32 → List Value → iv_R} (h : ∀ x y st', iv_Fac w (fun c K => q c K x y st')) : iv_Fac w (fun c K => iv_p2 st (q c K)) := by
  unfold iv_p2
  split
  · exact h _ _ _
  · exact iv_f_n
theorem iv_f_ldi {i : Nat} {q : (Nat → List Value → iv_S → iv_R) → iv_Q → Int32 → iv_R} (h : ∀ x, iv_Fac w (fun c K => q c K x)) : iv_Fac w (fun c K => iv_ldi L i (q c K)) := by
  unfold iv_ldi
  split
  · exact h _
  · exact iv_f_n
theorem iv_f_lda {i : Nat} {q : (Nat → List Value → iv_S → iv_R) → iv_Q → Value → iv_R} (h : ∀ x, iv_Fac w (fun c K => q c K x)) : iv_Fac w (fun c K => iv_lda L i (q c K)) := by
  unfold iv_lda
  split
  · exact h _
  · exact h _
  · exact iv_f_n
theorem iv_f_sto {i : Nat} {a : Value} {q : (Nat → List Value → iv_S → iv_R) → iv_Q → List Value → iv_R} (h : ∀ x, iv_Fac w (fun c K => q c K x)) : iv_Fac w (fun c K => iv_sto L i a (q c K)) := by
  unfold iv_sto
  split
  · exact h _
  · exact iv_f_n
theorem iv_f_gf {x y : Nat} {q : (Nat → List Value → iv_S → iv_R) → iv_Q → Value → List Value → iv_R} (h : ∀ a st', iv_Fac w (fun c K => q c K a st')) : iv_Fac w (fun c K => iv_gf w st x y (q c K)) := by
  unfold iv_gf
  repeat' split
  all_goals first | exact h _ _ | exact iv_f_n
theorem iv_f_pf {x y : Nat} {q : (Nat → List Value → iv_S → iv_R) → iv_Q → List Value → iv_S → iv_R} (h : ∀ st' w1, iv_le w w1 → iv_Fac w (fun c K => q c K st' w1)) : iv_Fac w (fun c K => iv_pf w st x y (q c K)) := by
  unfold iv_pf
  repeat' split
  all_goals first | exact h _ _ iv_le.rf | exact iv_f_n
theorem iv_f_ald {f : FieldType → Bool} {q : (Nat → List Value → iv_S → iv_R) → iv_Q → Value → List Value → iv_R} (h : ∀ a st', iv_Fac w (fun c K => q c K a st')) : iv_Fac w (fun c K => iv_ald w st f (q c K)) := by
  unfold iv_ald
  repeat' split
  all_goals first | exact h _ _ | exact iv_f_n
theorem iv_f_ast {f : FieldType → Bool} {q : (Nat → List Value → iv_S → iv_R) → iv_Q → List Value → iv_S → iv_R} (h : ∀ st' w1, iv_le w w1 → iv_Fac w (fun c K => q c K st' w1)) : iv_Fac w (fun c K => iv_ast w st f (q c K)) := by
  unfold iv_ast
  repeat' split
  all_goals first | exact h _ _ iv_le.rf | exact iv_f_n
theorem iv_f_ust {q : (Nat → List Value → iv_S → iv_R) → iv_Q → List Value → iv_S → iv_R} (h : ∀ st' w1, iv_le w w1 → iv_Fac w (fun c K => q c K st' w1)) : iv_Fac w (fun c K => iv_ust w st (q c K)) := by
  unfold iv_ust
  repeat' split
  all_goals first | exact h _ _ iv_le.rf | exact iv_f_n
theorem iv_f_len {q : (Nat → List Value → iv_S → iv_R) → iv_Q → Int32 → List Value → iv_R} (h : ∀ a st', iv_Fac w (fun c K => q c K a st')) : iv_Fac w (fun c K => iv_len w st (q c K)) := by
  unfold iv_len
  repeat' split
  all_goals first | exact h _ _ | exact iv_f_n
theorem iv_f_nw {x : Nat} {q : (Nat → List Value → iv_S → iv_R) → iv_Q → Value → iv_S → iv_R} (h : ∀ a w1, iv_le w w1 → iv_Fac w (fun c K => q c K a w1)) : iv_Fac w (fun c K => iv_nw w x (q c K)) := by
  unfold iv_nw
  split
  · exact h _ _ ⟨Nat.le_add_right _ _, Nat.le_add_right _ _⟩
  · exact iv_f_n
theorem iv_f_na {x : Nat} {a : Value} {n : Int32} {q : (Nat → List Value → iv_S → iv_R) → iv_Q → Value → iv_S → iv_R} (h : ∀ a w1, iv_le w w1 → iv_Fac w (fun c K => q c K a w1)) : iv_Fac w (fun c K => iv_na w x a n (q c K)) := by
  unfold iv_na
  repeat' split
  all_goals first | exact h _ _ ⟨Nat.le_add_right _ _, Nat.le_add_right _ _⟩ | exact iv_f_n
theorem iv_f_nm {x y : Nat} {a : Value} {n m : Int32} {q : (Nat → List Value → iv_S → iv_R) → iv_Q → Value → iv_S → iv_R} (h : ∀ a w1, iv_le w w1 → iv_Fac w (fun c K => q c K a w1)) : iv_Fac w (fun c K => iv_nm w x y a n m (q c K)) := by
  unfold iv_nm
  repeat' split
  all_goals first | exact h _ _ ⟨by show w.2.1 ≤ w.2.1 + 1 + _; omega, Nat.le_add_right _ _⟩ | exact iv_f_n
theorem iv_f_sw {t : Int} {q : (Nat → List Value → iv_S → iv_R) → iv_Q → Nat → iv_R} (h : ∀ j, iv_Fac w (fun c K => q c K j)) : iv_Fac w (fun c K => iv_sw code t (q c K)) := by
  unfold iv_sw
  split
  · exact h _
  · exact iv_f_n
theorem iv_f_inv {x y : Nat} {f : List Value → Bool} : iv_Fac w (fun c K => iv_inv c x y f st w (fun st' w' => K k L st' w')) := by
  unfold iv_inv
  repeat' split
  all_goals first | exact iv_f_n | exact Or.inr (Or.inr ⟨_, _, _, _, _, fun _ _ => rfl⟩)
theorem iv_f_oi {q : (Nat → List Value → iv_S → iv_R) → iv_Q → List Value → iv_R} (h : ∀ st', iv_Fac w (fun c K => q c K st')) : iv_Fac w (fun c K => iv_oi st (q c K)) := by
  unfold iv_oi
  repeat' split
  all_goals first | exact h _ | exact iv_f_n
theorem iv_fin_ok {v : Option Value} {w' : iv_S} {op : Instr} (h : iv_fin rt op st w = some (v, w')) : w = w' ∧ ((op = .ireturn ∧ ∃ ty x, rt = some ty ∧ st = [.int x] ∧ v = some (.int x) ∧ iv_fit ty (.int x) = true) ∨ (op = .areturn ∧ ∃ ty a, rt = some ty ∧ st = [a] ∧ v = some a ∧ iv_isA ty = true ∧ iv_fit ty a = true) ∨ (op = .return_ ∧ rt = none ∧ st = [] ∧ v = none)) := by
  unfold iv_fin at h
  split at h
  · unfold iv_ret at h
    split at h
    · split at h
      · rename_i hf
        cases h
        exact ⟨rfl, Or.inl ⟨rfl, _, _, rfl, rfl, rfl, hf⟩⟩
      · cases h
    · cases h
  · unfold iv_rea at h
    split at h
    · split at h
      · rename_i ha
        split at h
        · rename_i hf
          cases h
          exact ⟨rfl, Or.inr (Or.inl ⟨rfl, _, _, rfl, rfl, rfl, ha, hf⟩)⟩
        · cases h
      · cases h
    · cases h
  · unfold iv_rev at h
    split at h
    · cases h
      exact ⟨rfl, Or.inr (Or.inr ⟨rfl, rfl, rfl, rfl⟩)⟩
    · cases h
  · cases h
theorem iv_f_fin {op : Instr} : iv_Fac w (fun _ _ => iv_fin rt op st w) := Or.inl ⟨_, fun _ _ => rfl, fun v w' h => (iv_fin_ok h).1 ▸ iv_le.rf⟩
set_option maxHeartbeats 4000000 in
theorem iv_fac (I : iv_I) : iv_Fac w (fun c K => iv_go c code rt K I k L st w) := by
  obtain ⟨⟨pc, len⟩, op, x, y, u⟩ := I
  cases op
  case iconst n => exact iv_f_0
  case bipush n => exact iv_f_0
  case sipush n => exact iv_f_0
  case aconst_null => exact iv_f_0
  case goto off => exact iv_f_0
  case ldc i => exact iv_f_0
  case iload i => exact iv_f_ldi (fun _ => iv_f_0)
  case iload_n i => exact iv_f_ldi (fun _ => iv_f_0)
  case aload i => 
    show iv_Fac w (fun c K => iv_lda L i fun v => K (k + 1) L (v :: st) w)
    exact iv_f_lda (q := fun c K v => K (k + 1) L (v :: st) w) (fun _ => iv_f_0)
  case aload_n i => 
    show iv_Fac w (fun c K => iv_lda L i.val fun v => K (k + 1) L (v :: st) w)
    exact iv_f_lda (q := fun c K v => K (k + 1) L (v :: st) w) (fun _ => iv_f_0)
  case istore i => exact iv_f_p1 (fun _ _ => iv_f_sto (fun _ => iv_f_0))
  case istore_n i => exact iv_f_p1 (fun _ _ => iv_f_sto (fun _ => iv_f_0))
  case astore i => 
    unfold iv_go
    dsimp only
    split
    · exact iv_f_sto (fun _ => iv_f_0)
    · exact iv_f_n
  case astore_n i => 
    unfold iv_go
    dsimp only
    split
    · exact iv_f_sto (fun _ => iv_f_0)
    · exact iv_f_n
  case iinc i n => exact iv_f_ldi (fun _ => iv_f_sto (fun _ => iv_f_0))
  case iadd => exact iv_f_p2 (fun _ _ _ => iv_f_0)
  case isub => exact iv_f_p2 (fun _ _ _ => iv_f_0)
  case imul => exact iv_f_p2 (fun _ _ _ => iv_f_0)
  case iand => exact iv_f_p2 (fun _ _ _ => iv_f_0)
  case ior => exact iv_f_p2 (fun _ _ _ => iv_f_0)
  case ixor => exact iv_f_p2 (fun _ _ _ => iv_f_0)
  case ishl => exact iv_f_p2 (fun _ _ _ => iv_f_0)
  case ishr => exact iv_f_p2 (fun _ _ _ => iv_f_0)
  case idiv => 
    refine iv_f_p2 (fun _ _ _ => ?_)
    split
    · exact iv_f_n
    · exact iv_f_0
  case irem => 
    refine iv_f_p2 (fun _ _ _ => ?_)
    split
    · exact iv_f_n
    · exact iv_f_0
  case ineg => exact iv_f_p1 (fun _ _ => iv_f_0)
  case i2c => exact iv_f_p1 (fun _ _ => iv_f_0)
  case dup => 
    unfold iv_go
    dsimp only
    repeat' split
    all_goals first | exact iv_f_0 | exact iv_f_n
  case dup_x1 => 
    unfold iv_go
    dsimp only
    repeat' split
    all_goals first | exact iv_f_0 | exact iv_f_n
  case dup2 => 
    unfold iv_go
    dsimp only
    repeat' split
    all_goals first | exact iv_f_0 | exact iv_f_n
  case pop => 
    unfold iv_go
    dsimp only
    repeat' split
    all_goals first | exact iv_f_0 | exact iv_f_n
  case ifnull off => 
    unfold iv_go
    dsimp only
    repeat' split
    all_goals first | exact iv_f_0 | exact iv_f_n
  case ifnonnull off => 
    unfold iv_go
    dsimp only
    repeat' split
    all_goals first | exact iv_f_0 | exact iv_f_n
  case ifCond q off => 
    refine iv_f_p1 (fun _ _ => ?_)
    split <;> exact iv_f_0
  case if_icmp q off => 
    refine iv_f_p2 (fun _ _ _ => ?_)
    split <;> exact iv_f_0
  case getfield i => exact iv_f_gf (fun _ _ => iv_f_0)
  case putfield i => exact iv_f_pf (fun _ _ h => iv_f_k h)
  case iaload => exact iv_f_ald (fun _ _ => iv_f_0)
  case baload => exact iv_f_ald (fun _ _ => iv_f_0)
  case caload => exact iv_f_ald (fun _ _ => iv_f_0)
  case aaload => exact iv_f_ald (fun _ _ => iv_f_0)
  case iastore => exact iv_f_ast (fun _ _ h => iv_f_k h)
  case bastore => exact iv_f_ast (fun _ _ h => iv_f_k h)
  case castore => exact iv_f_ast (fun _ _ h => iv_f_k h)
  case aastore => exact iv_f_ust (fun _ _ h => iv_f_k h)
  case arraylength => 
    show iv_Fac w (fun c K => iv_len w st fun x st' => K (k + 1) L (.int x :: st') w)
    exact iv_f_len (q := fun c K x st' => K (k + 1) L (.int x :: st') w) (fun _ _ => iv_f_0)
  case new i => exact iv_f_nw (fun _ _ h => iv_f_k h)
  case newarray i => exact iv_f_p1 (fun _ _ => iv_f_na (fun _ _ h => iv_f_k h))
  case anewarray i => exact iv_f_p1 (fun _ _ => iv_f_na (fun _ _ h => iv_f_k h))
  case multianewarray i n => exact iv_f_p2 (fun _ _ _ => iv_f_nm (fun _ _ h => iv_f_k h))
  case tableswitch d0 lo hi offs => 
    refine iv_f_p1 (fun _ _ => ?_)
    split
    · exact iv_f_sw (fun _ => iv_f_0)
    · split
      · exact iv_f_sw (fun _ => iv_f_0)
      · exact iv_f_n
  case lookupswitch d0 ps => exact iv_f_p1 (fun _ _ => iv_f_sw (fun _ => iv_f_0))
  case invokevirtual i => 
    show iv_Fac w (fun c K => iv_inv c x y (fun as => iv_rc w as (iv_mc x)) st w fun st' w' => K (k + 1) L st' w')
    exact iv_f_inv
  case invokespecial i => 
    unfold iv_go
    dsimp only
    split
    · exact iv_f_oi (fun _ => iv_f_0)
    · exact iv_f_inv
  case invokestatic i => 
    show iv_Fac w (fun c K => iv_inv c x y (fun _ => true) st w fun st' w' => K (k + 1) L st' w')
    exact iv_f_inv
  case ireturn => exact iv_f_fin (op := .ireturn)
  case areturn => exact iv_f_fin (op := .areturn)
  case return_ => exact iv_f_fin (op := .return_)
  all_goals exact iv_f_n
theorem iv_fac1 (I : iv_I) : (∃ r, (∀ c K, iv_go c code rt K I k L st w = r) ∧ ∀ v w', r = some (v, w') → iv_le w w') ∨ (∃ k1 L1 st1 w1, iv_le w w1 ∧ ∀ c K, iv_go c code rt K I k L st w = K k1 L1 st1 w1) ∨
  (∃ x as k1 L1 st1, ∀ c K, iv_go c code rt K I k L st w = match c x as w with
    | some (u, w1) => K k1 L1 (u.toList ++ st1) w1
    | none => none) := iv_fac I
end IVL
section IVR
variable {code : List iv_I} {rt : Option FieldType} {call call' : Nat → List Value → iv_S → iv_R}
theorem iv_run_le {v : Option Value} {w' : iv_S} (hc : ∀ x as w u w1, call x as w = some (u, w1) → iv_le w w1) : ∀ (n k : Nat) (L st : List Value) (w : iv_S), iv_run call code rt n k L st w = some (v, w') → iv_le w w'
  | 0, k, L, st, w, h => by rw [iv_run_0] at h; cases h
  | n + 1, k, L, st, w, h => by
    rw [iv_run_s] at h
    split at h
    · rename_i I hI
      rcases iv_fac1 (code := code) (rt := rt) (k := k) (L := L) (st := st) (w := w) I with ⟨r, h1, h2⟩ | ⟨k', L', st', w1, h1, h2⟩ | ⟨x, as, k', L', st', h1⟩
      · rw [h1] at h
        exact h2 _ _ h
      · rw [h2] at h
        exact iv_le.trans h1 (iv_run_le hc n _ _ _ _ h)
      · rw [h1] at h
        split at h
        · rename_i u w1 hc1
          exact iv_le.trans (hc _ _ _ _ _ hc1) (iv_run_le hc n _ _ _ _ h)
        · cases h
    · cases h
theorem iv_run_mono {r : Option Value × iv_S} (hc : ∀ x as w r, call x as w = some r → call' x as w = some r) : ∀ (n n' k : Nat) (L st : List Value) (w : iv_S), n ≤ n' → iv_run call code rt n k L st w = some r → iv_run call' code rt n' k L st w = some r
  | 0, n', k, L, st, w, _, h => by rw [iv_run_0] at h; cases h
  | n + 1, 0, k, L, st, w, hn, _ => absurd hn (Nat.not_succ_le_zero n)
  | n + 1, n' + 1, k, L, st, w, hn, h => by
    rw [iv_run_s] at h ⊢
    split at h
    · rename_i I hI
      rcases iv_fac1 (code := code) (rt := rt) (k := k) (L := L) (st := st) (w := w) I with ⟨r1, h1, h2⟩ | ⟨k', L', st', w1, h1, h2⟩ | ⟨x, as, k', L', st', h1⟩
      · rw [h1] at h ⊢
        exact h
      · rw [h2] at h ⊢
        exact iv_run_mono hc n n' _ _ _ _ (Nat.le_of_succ_le_succ hn) h
      · rw [h1] at h ⊢
        split at h
        · rename_i u w1 hc1
          rw [hc _ _ _ _ hc1]
          exact iv_run_mono hc n n' _ _ _ _ (Nat.le_of_succ_le_succ hn) h
        · cases h
    · cases h
/-- the answer of a run, however long it is -/
noncomputable def iv_V (call : Nat → List Value → iv_S → iv_R) (code : List iv_I) (rt : Option FieldType) (k : Nat) (L st : List Value) (w : iv_S) : iv_R :=
  @dite iv_R (∃ n, iv_run call code rt n k L st w ≠ none) (Classical.propDecidable _) (fun h => iv_run call code rt (Classical.choose h) k L st w) (fun _ => none)
theorem iv_V_of {n k : Nat} {L st : List Value} {w : iv_S} {r : Option Value × iv_S} (h : iv_run call code rt n k L st w = some r) : iv_V call code rt k L st w = some r := by
  unfold iv_V
  have hx : ∃ n, iv_run call code rt n k L st w ≠ none := ⟨n, by rw [h]; exact fun q => by cases q⟩
  rw [dif_pos hx]
  have h1 := Classical.choose_spec hx
  generalize Classical.choose hx = n' at h1
  cases hr : iv_run call code rt n' k L st w with
  | none => exact absurd hr h1
  | some r' =>
    have a1 := iv_run_mono (call' := call) (fun _ _ _ _ h => h) n (max n n') k L st w (Nat.le_max_left _ _) h
    have a2 := iv_run_mono (call' := call) (fun _ _ _ _ h => h) n' (max n n') k L st w (Nat.le_max_right _ _) hr
    exact a2.symm.trans a1
theorem iv_V_run {k : Nat} {L st : List Value} {w : iv_S} {r : Option Value × iv_S} (h : iv_V call code rt k L st w = some r) : ∃ n, iv_run call code rt n k L st w = some r := by
  unfold iv_V at h
  by_cases hx : ∃ n, iv_run call code rt n k L st w ≠ none
  · rw [dif_pos hx] at h
    exact ⟨_, h⟩
  · rw [dif_neg hx] at h
    cases h
theorem iv_V_eq {k : Nat} {L st : List Value} {w : iv_S} {I : iv_I} (hI : code[k]? = some I) : iv_V call code rt k L st w = iv_go call code rt (iv_V call code rt) I k L st w := by
  have e : ∀ n, iv_run call code rt (n + 1) k L st w = iv_go call code rt (iv_run call code rt n) I k L st w := fun n => by rw [iv_run_s, hI]
  have up : ∀ r, iv_V call code rt k L st w = some r → iv_go call code rt (iv_V call code rt) I k L st w = some r := by
    intro r h
    obtain ⟨n, h⟩ := iv_V_run h
    cases n with
    | zero => rw [iv_run_0] at h; cases h
    | succ n =>
      rw [e] at h
      rcases iv_fac1 (code := code) (rt := rt) (k := k) (L := L) (st := st) (w := w) I with ⟨r1, h1, h2⟩ | ⟨k', L', st', w1, h1, h2⟩ | ⟨x, as, k', L', st', h1⟩
      · rw [h1] at h ⊢; exact h
      · rw [h2] at h ⊢; exact iv_V_of h
      · rw [h1] at h ⊢
        split at h
        · exact iv_V_of h
        · cases h
  have dn : ∀ r, iv_go call code rt (iv_V call code rt) I k L st w = some r → iv_V call code rt k L st w = some r := by
    intro r h
    rcases iv_fac1 (code := code) (rt := rt) (k := k) (L := L) (st := st) (w := w) I with ⟨r1, h1, h2⟩ | ⟨k', L', st', w1, h1, h2⟩ | ⟨x, as, k', L', st', h1⟩
    · rw [h1] at h
      exact iv_V_of (n := 1) (by rw [e, h1]; exact h)
    · rw [h2] at h
      obtain ⟨n, h⟩ := iv_V_run h
      exact iv_V_of (n := n + 1) (by rw [e, h2]; exact h)
    · rw [h1] at h
      split at h
      · rename_i u w1 hc1
        obtain ⟨n, h⟩ := iv_V_run h
        exact iv_V_of (n := n + 1) (by rw [e, h1, hc1]; exact h)
      · cases h
  cases hg : iv_go call code rt (iv_V call code rt) I k L st w with
  | some r => exact dn r hg
  | none => cases hv : iv_V call code rt k L st w with
    | none => rfl
    | some r => have := up r hv; rw [hg] at this; cases this
theorem iv_V_no {k : Nat} {L st : List Value} {w : iv_S} (hI : code[k]? = none) : iv_V call code rt k L st w = none := by
  cases hv : iv_V call code rt k L st w with
  | none => rfl
  | some r =>
    obtain ⟨n, h⟩ := iv_V_run hv
    cases n with
    | zero => rw [iv_run_0] at h; cases h
    | succ n => rw [iv_run_s, hI] at h; cases h
end IVR
/-- a method's answer, with calls at most d deep -/
noncomputable def iv_X : Nat → Nat → List Value → iv_S → iv_R
  | 0, _, _, _ => none
  | d + 1, x, as, w => match iv_M x with
    | some (mL, rt, code) => if as.length ≤ mL then (if as.all iv_isv = true then iv_V (iv_X d) code rt 0 (as ++ List.replicate (mL - as.length) iv_un) [] w else none) else none
    | none => none
theorem iv_X_0 (x : Nat) (as : List Value) (w : iv_S) : iv_X 0 x as w = none := rfl
theorem iv_X_s (d x : Nat) (as : List Value) (w : iv_S) : iv_X (d + 1) x as w = match iv_M x with
    | some (mL, rt, code) => if as.length ≤ mL then (if as.all iv_isv = true then iv_V (iv_X d) code rt 0 (as ++ List.replicate (mL - as.length) iv_un) [] w else none) else none
    | none => none := rfl
theorem iv_X_le : ∀ (d x : Nat) (as : List Value) (w : iv_S) (v : Option Value) (w' : iv_S), iv_X d x as w = some (v, w') → iv_le w w'
  | 0, x, as, w, v, w', h => by rw [iv_X_0] at h; cases h
  | d + 1, x, as, w, v, w', h => by
    rw [iv_X_s] at h
    split at h
    · split at h
      · split at h
        · obtain ⟨n, h⟩ := iv_V_run h
          exact iv_run_le (fun x as w u w1 h => iv_X_le d x as w u w1 h) _ _ _ _ _ h
        · cases h
      · cases h
    · cases h
theorem iv_X_mono : ∀ (d d' x : Nat) (as : List Value) (w : iv_S) (r : Option Value × iv_S), d ≤ d' → iv_X d x as w = some r → iv_X d' x as w = some r
  | 0, d', x, as, w, r, _, h => by rw [iv_X_0] at h; cases h
  | d + 1, 0, x, as, w, r, hd, _ => absurd hd (Nat.not_succ_le_zero d)
  | d + 1, d' + 1, x, as, w, r, hd, h => by
    rw [iv_X_s] at h ⊢
    split at h
    · split at h
      · rename_i hl
        rw [if_pos hl]
        split at h
        · rename_i ha
          rw [if_pos ha]
          obtain ⟨n, h⟩ := iv_V_run h
          exact iv_V_of (iv_run_mono (fun x as w r h => iv_X_mono d d' x as w r (Nat.le_of_succ_le_succ hd) h) n n _ _ _ _ (Nat.le_refl _) h)
        · cases h
      · cases h
    · cases h
/-- .. and by counting -/
theorem iv_X_call (F : Nat) : ∀ (d x : Nat) (as : List Value) (w : iv_S) (r : Option Value × iv_S), iv_call F d x as w = some r → iv_X d x as w = some r
  | 0, x, as, w, r, h => by rw [iv_call_0] at h; cases h
  | d + 1, x, as, w, r, h => by
    rw [iv_call_s] at h
    rw [iv_X_s]
    split at h
    · rename_i mL rt code hM
      rw [hM]
      dsimp only
      split at h
      · rename_i hl
        rw [if_pos hl]
        split at h
        · rename_i ha
          rw [if_pos ha]
          exact iv_V_of (iv_run_mono (fun x as w r h => iv_X_call F d x as w r h) F F _ _ _ _ (Nat.le_refl _) h)
        · cases h
      · cases h
    · cases h
end
section
-- ===== end of PART A; then your names; then what follows =====
/-! THE CLAIM OUT OF ONE WALK OF THE LAW'S BODY. Your part is whole_start (and what it stands on); all else here is the same for every law, but numbers. -/
def R_law : String := "RuleGraphLaw"
def lw_P (b : Addr) (xs : List Int32) (args : Array Value) (s : State) : Prop := args = #[.ref b] ∧ s.IntsAt b xs ∧ xs.length ≤ 3584 ∧ (Jvm.Cond.and given_1 narrow_1).before args s = true
def lw_Q (_ : Array Value) (s : State) (o : Outcome) (t : State) : Prop := o = .returned (some (.int 1)) ∧ Framed s o t [] 653207 7142626
def lw_Z (below : List Frame) (a : Array Value) (s : State) : State → Prop := fun t => ∃ o, t.status = .running ∧ Ended t below o ∧ lw_Q a s o t
/-- the law's own end, with 1 on the stack, nothing written that was there before, its room as the claim has it -/
theorem lw_ret {p : Program} {l : Launch} {e : Env} {s : State} {m : MethodId} {below : List Frame} {meth : Method} {c : Code} {b : Nat} (hx : p.tables.exec = Jvm.exec) (hb : c.code = code) (hr : meth.sig.returnType = ret) (hlocks : meth.locks = false) {pc : Nat} {H : Heap} {ls : Array Slot} (hdg : decode code pc = .ok (.ireturn, 1)) : W p l e room_1 s m #[Value.ref b] below meth c H [] 653207 7142626 (lw_Z below #[Value.ref b] s) (F0 m pc ls [.int 1]) := by
  intro T hT X
  obtain ⟨fs, hret, hrun, hended, hW, hframe⟩ := X.leave (v := some (.int 1)) (hlocks := hlocks) (fun h => by rw [hr] at h; cases h)
  have hmeth' : T.vm.method? m = some meth := X.method'
  refine ⟨T.setFrames fs, ?_, .returned (some (.int 1)), hrun, hended, rfl, ⟨_, rfl⟩, hW, hframe⟩
  jvm_step X.here [X.here.top, hx, hb, hdg, hmeth', hr, ret, narrow_b1]
  (try refine ⟨rfl, ?_⟩); (try refine ⟨rfl, ?_⟩)
  first | (intro acts; rw [hret _ acts rfl rfl rfl]) | rw [hret _ _ rfl rfl rfl]
  exact Steps.refl _
/-- what holds at the law's entry: the machine, the code, the tables' words (any of lw_tbl by 'hts w (by decide +kernel)'), the script of L ints xs at the cell b, what the Statement gives of the start (any of its parts by flat_of_before) -/
def lw_At (p : Program) (s : State) (m : MethodId) (meth : Method) (c : Code) (b L : Nat) (xs : Nat → Int32) : Prop :=
  p.tables.exec = Jvm.exec ∧ c.code = code ∧ meth.sig.returnType = ret ∧ c.maxLocals = 4 ∧ s.vm.findClass R_law = some m.cls ∧ (∀ w ∈ lw_tbl, w.before #[Value.ref b] s = true) ∧ va_X b L xs s s.heap ∧ b < s.heap.size ∧ meth.locks = false ∧ (Jvm.Cond.and given_1 narrow_1).before #[Value.ref b] s = true
end
section
/-! the words behind each row -/
def iv_isl (op : Instr) : Bool := match op with
  | .getfield _ => true
  | .putfield _ => true
  | .new _ => true
  | .newarray _ => true
  | .anewarray _ => true
  | .multianewarray _ _ => true
  | .invokevirtual _ => true
  | .invokespecial _ => true
  | .invokestatic _ => true
  | .ldc _ => true
  | _ => false
theorem iv_nol {own : String} {ini : Bool} {I : iv_I} (h : iv_isl I.2.1 = false) : iv_okw own ini I := by
  obtain ⟨a, op, x, y, u⟩ := I
  cases op <;> first | trivial | cases h
def iv_chk (cc : ByteArray) (code : List iv_I) (fl : List (Instr × Nat × Nat × Nat)) : Nat → List iv_I → Bool
  | _, [] => true
  | k, I :: l => decide (decode cc I.1.1 = .ok (I.2.1, I.1.2)) && (iv_okb code k I && ((!(iv_isl I.2.1) || fl.any (fun q => decide (q = I.2))) && iv_chk cc code fl (k + 1) l))
theorem iv_chk_of {cc : ByteArray} {code : List iv_I} {fl : List (Instr × Nat × Nat × Nat)} {own : String} {ini : Bool} (hf : ∀ q ∈ fl, ∀ a, iv_okw own ini (a, q)) : ∀ (l : List iv_I) (k : Nat), iv_chk cc code fl k l = true → ∀ (j : Nat) (I : iv_I), l[j]? = some I → decode cc I.1.1 = .ok (I.2.1, I.1.2) ∧ iv_okb code (k + j) I = true ∧ iv_okw own ini I
  | [], _, _, j, I, h => by simp at h
  | J :: l, k, hc, j, I, h => by
    unfold iv_chk at hc
    simp only [Bool.and_eq_true, Bool.or_eq_true, Bool.not_eq_true', decide_eq_true_eq] at hc
    obtain ⟨h1, h2, h3, h4⟩ := hc
    cases j with
    | zero =>
      simp only [List.getElem?_cons_zero] at h
      cases h
      refine ⟨h1, h2, ?_⟩
      rcases h3 with h3 | h3
      · exact iv_nol h3
      · obtain ⟨q, hq1, hq2⟩ := List.any_eq_true.mp h3
        have hq3 := of_decide_eq_true hq2
        subst hq3
        exact hf _ hq1 J.1
    | succ j =>
      simp only [List.getElem?_cons_succ] at h
      have h5 := iv_chk_of hf l (k + 1) h4 j I h
      rw [show k + 1 + j = k + (j + 1) by omega] at h5
      exact h5
theorem fk_L_0 (ini : Bool) : iv_okw "RuleGraphLaw" ini ((0, 0), .new 7, 0, 0, 42) := ⟨_, rfl, by decide +kernel⟩
theorem fk_L_1 (ini : Bool) : iv_okw "RuleGraphLaw" ini ((0, 0), .invokespecial 9, 2, 1, 44) := Or.inr ⟨by decide, cki_2, by decide +kernel, by decide +kernel⟩
theorem fk_L_2 (ini : Bool) : iv_okw "RuleGraphLaw" ini ((0, 0), .new 10, 1, 0, 593) := ⟨_, rfl, by decide +kernel⟩
theorem fk_L_3 (ini : Bool) : iv_okw "RuleGraphLaw" ini ((0, 0), .invokespecial 12, 24, 1, 595) := Or.inr ⟨by decide, cki_24, by decide +kernel, by decide +kernel⟩
theorem fk_L_4 (ini : Bool) : iv_okw "RuleGraphLaw" ini ((0, 0), .invokevirtual 13, 3, 2, 295) := ⟨ckv_3, by decide +kernel, Or.inl (by decide +kernel)⟩
theorem fk_L_5 (ini : Bool) : iv_okw "RuleGraphLaw" ini ((0, 0), .invokevirtual 17, 26, 2, 744) := ⟨ckv_26, by decide +kernel, Or.inl (by decide +kernel)⟩
theorem fk_L_6 (ini : Bool) : iv_okw "RuleGraphLaw" ini ((0, 0), .invokevirtual 18, 4, 3, 307) := ⟨ckv_4, by decide +kernel, Or.inl (by decide +kernel)⟩
theorem fk_L_7 (ini : Bool) : iv_okw "RuleGraphLaw" ini ((0, 0), .invokevirtual 22, 27, 3, 751) := ⟨ckv_27, by decide +kernel, Or.inl (by decide +kernel)⟩
theorem fk_L_8 (ini : Bool) : iv_okw "RuleGraphLaw" ini ((0, 0), .invokevirtual 23, 5, 7, 319) := ⟨ckv_5, by decide +kernel, Or.inl (by decide +kernel)⟩
theorem fk_L_9 (ini : Bool) : iv_okw "RuleGraphLaw" ini ((0, 0), .invokevirtual 27, 28, 7, 755) := ⟨ckv_28, by decide +kernel, Or.inl (by decide +kernel)⟩
theorem fk_L_10 (ini : Bool) : iv_okw "RuleGraphLaw" ini ((0, 0), .invokevirtual 28, 6, 5, 380) := ⟨ckv_6, by decide +kernel, Or.inl (by decide +kernel)⟩
theorem fk_L_11 (ini : Bool) : iv_okw "RuleGraphLaw" ini ((0, 0), .invokevirtual 32, 29, 5, 759) := ⟨ckv_29, by decide +kernel, Or.inl (by decide +kernel)⟩
theorem fk_L_12 (ini : Bool) : iv_okw "RuleGraphLaw" ini ((0, 0), .invokevirtual 33, 7, 3, 385) := ⟨ckv_7, by decide +kernel, Or.inl (by decide +kernel)⟩
theorem fk_L_13 (ini : Bool) : iv_okw "RuleGraphLaw" ini ((0, 0), .invokevirtual 37, 30, 3, 763) := ⟨ckv_30, by decide +kernel, Or.inl (by decide +kernel)⟩
theorem fk_L_14 (ini : Bool) : iv_okw "RuleGraphLaw" ini ((0, 0), .invokevirtual 38, 8, 3, 389) := ⟨ckv_8, by decide +kernel, Or.inl (by decide +kernel)⟩
theorem fk_L_15 (ini : Bool) : iv_okw "RuleGraphLaw" ini ((0, 0), .invokevirtual 42, 32, 3, 767) := ⟨ckv_32, by decide +kernel, Or.inl (by decide +kernel)⟩
theorem fk_L_16 (ini : Bool) : iv_okw "RuleGraphLaw" ini ((0, 0), .invokevirtual 43, 9, 3, 406) := ⟨ckv_9, by decide +kernel, Or.inl (by decide +kernel)⟩
theorem fk_L_17 (ini : Bool) : iv_okw "RuleGraphLaw" ini ((0, 0), .invokevirtual 46, 33, 3, 775) := ⟨ckv_33, by decide +kernel, Or.inl (by decide +kernel)⟩
theorem fk_L_18 (ini : Bool) : iv_okw "RuleGraphLaw" ini ((0, 0), .invokevirtual 47, 10, 3, 418) := ⟨ckv_10, by decide +kernel, Or.inl (by decide +kernel)⟩
theorem fk_L_19 (ini : Bool) : iv_okw "RuleGraphLaw" ini ((0, 0), .invokevirtual 50, 34, 3, 779) := ⟨ckv_34, by decide +kernel, Or.inl (by decide +kernel)⟩
theorem fk_L_20 (ini : Bool) : iv_okw "RuleGraphLaw" ini ((0, 0), .invokevirtual 51, 11, 2, 422) := ⟨ckv_11, by decide +kernel, Or.inl (by decide +kernel)⟩
theorem fk_L_21 (ini : Bool) : iv_okw "RuleGraphLaw" ini ((0, 0), .invokevirtual 55, 35, 2, 783) := ⟨ckv_35, by decide +kernel, Or.inl (by decide +kernel)⟩
theorem fk_L_22 (ini : Bool) : iv_okw "RuleGraphLaw" ini ((0, 0), .invokevirtual 56, 12, 4, 430) := ⟨ckv_12, by decide +kernel, Or.inl (by decide +kernel)⟩
theorem fk_L_23 (ini : Bool) : iv_okw "RuleGraphLaw" ini ((0, 0), .invokevirtual 60, 36, 4, 787) := ⟨ckv_36, by decide +kernel, Or.inl (by decide +kernel)⟩
theorem fk_L_24 (ini : Bool) : iv_okw "RuleGraphLaw" ini ((0, 0), .invokevirtual 61, 13, 2, 434) := ⟨ckv_13, by decide +kernel, Or.inl (by decide +kernel)⟩
theorem fk_L_25 (ini : Bool) : iv_okw "RuleGraphLaw" ini ((0, 0), .invokevirtual 64, 37, 2, 791) := ⟨ckv_37, by decide +kernel, Or.inl (by decide +kernel)⟩
theorem fk_L_26 (ini : Bool) : iv_okw "RuleGraphLaw" ini ((0, 0), .invokevirtual 65, 14, 4, 442) := ⟨ckv_14, by decide +kernel, Or.inl (by decide +kernel)⟩
theorem fk_L_27 (ini : Bool) : iv_okw "RuleGraphLaw" ini ((0, 0), .invokevirtual 68, 39, 4, 795) := ⟨ckv_39, by decide +kernel, Or.inl (by decide +kernel)⟩
theorem fk_L_28 (ini : Bool) : iv_okw "RuleGraphLaw" ini ((0, 0), .invokevirtual 69, 15, 4, 462) := ⟨ckv_15, by decide +kernel, Or.inl (by decide +kernel)⟩
theorem fk_L_29 (ini : Bool) : iv_okw "RuleGraphLaw" ini ((0, 0), .invokevirtual 72, 40, 4, 803) := ⟨ckv_40, by decide +kernel, Or.inl (by decide +kernel)⟩
theorem fk_L_30 (ini : Bool) : iv_okw "RuleGraphLaw" ini ((0, 0), .invokevirtual 73, 16, 4, 470) := ⟨ckv_16, by decide +kernel, Or.inl (by decide +kernel)⟩
theorem fk_L_31 (ini : Bool) : iv_okw "RuleGraphLaw" ini ((0, 0), .invokevirtual 77, 41, 4, 807) := ⟨ckv_41, by decide +kernel, Or.inl (by decide +kernel)⟩
theorem fk_L_32 (ini : Bool) : iv_okw "RuleGraphLaw" ini ((0, 0), .invokevirtual 78, 17, 3, 474) := ⟨ckv_17, by decide +kernel, Or.inl (by decide +kernel)⟩
theorem fk_L_33 (ini : Bool) : iv_okw "RuleGraphLaw" ini ((0, 0), .invokevirtual 81, 56, 3, 811) := ⟨ckv_56, by decide +kernel, Or.inl (by decide +kernel)⟩
theorem fk_L_34 (ini : Bool) : iv_okw "RuleGraphLaw" ini ((0, 0), .invokevirtual 82, 18, 4, 556) := ⟨ckv_18, by decide +kernel, Or.inl (by decide +kernel)⟩
theorem fk_L_35 (ini : Bool) : iv_okw "RuleGraphLaw" ini ((0, 0), .invokevirtual 86, 57, 4, 870) := ⟨ckv_57, by decide +kernel, Or.inl (by decide +kernel)⟩
theorem fk_L_36 (ini : Bool) : iv_okw "RuleGraphLaw" ini ((0, 0), .invokevirtual 87, 19, 1, 561) := ⟨ckv_19, by decide +kernel, Or.inl (by decide +kernel)⟩
theorem fk_L_37 (ini : Bool) : iv_okw "RuleGraphLaw" ini ((0, 0), .invokevirtual 91, 58, 1, 874) := ⟨ckv_58, by decide +kernel, Or.inl (by decide +kernel)⟩
theorem fk_L_38 (ini : Bool) : iv_okw "RuleGraphLaw" ini ((0, 0), .invokevirtual 92, 20, 1, 565) := ⟨ckv_20, by decide +kernel, Or.inl (by decide +kernel)⟩
theorem fk_L_39 (ini : Bool) : iv_okw "RuleGraphLaw" ini ((0, 0), .invokevirtual 95, 59, 1, 878) := ⟨ckv_59, by decide +kernel, Or.inl (by decide +kernel)⟩
theorem fk_L_40 (ini : Bool) : iv_okw "RuleGraphLaw" ini ((0, 0), .invokevirtual 96, 21, 3, 569) := ⟨ckv_21, by decide +kernel, Or.inl (by decide +kernel)⟩
theorem fk_L_41 (ini : Bool) : iv_okw "RuleGraphLaw" ini ((0, 0), .invokevirtual 99, 60, 3, 882) := ⟨ckv_60, by decide +kernel, Or.inl (by decide +kernel)⟩
theorem fk_L_42 (ini : Bool) : iv_okw "RuleGraphLaw" ini ((0, 0), .invokevirtual 100, 22, 3, 577) := ⟨ckv_22, by decide +kernel, Or.inl (by decide +kernel)⟩
theorem fk_L_43 (ini : Bool) : iv_okw "RuleGraphLaw" ini ((0, 0), .invokevirtual 103, 63, 3, 886) := ⟨ckv_63, by decide +kernel, Or.inl (by decide +kernel)⟩
def fl_L : List (Instr × Nat × Nat × Nat) := [(.new 7, 0, 0, 42), (.invokespecial 9, 2, 1, 44), (.new 10, 1, 0, 593), (.invokespecial 12, 24, 1, 595), (.invokevirtual 13, 3, 2, 295), (.invokevirtual 17, 26, 2, 744), (.invokevirtual 18, 4, 3, 307), (.invokevirtual 22, 27, 3, 751), (.invokevirtual 23, 5, 7, 319), (.invokevirtual 27, 28, 7, 755), (.invokevirtual 28, 6, 5, 380), (.invokevirtual 32, 29, 5, 759), (.invokevirtual 33, 7, 3, 385), (.invokevirtual 37, 30, 3, 763), (.invokevirtual 38, 8, 3, 389), (.invokevirtual 42, 32, 3, 767), (.invokevirtual 43, 9, 3, 406), (.invokevirtual 46, 33, 3, 775), (.invokevirtual 47, 10, 3, 418), (.invokevirtual 50, 34, 3, 779), (.invokevirtual 51, 11, 2, 422), (.invokevirtual 55, 35, 2, 783), (.invokevirtual 56, 12, 4, 430), (.invokevirtual 60, 36, 4, 787), (.invokevirtual 61, 13, 2, 434), (.invokevirtual 64, 37, 2, 791), (.invokevirtual 65, 14, 4, 442), (.invokevirtual 68, 39, 4, 795), (.invokevirtual 69, 15, 4, 462), (.invokevirtual 72, 40, 4, 803), (.invokevirtual 73, 16, 4, 470), (.invokevirtual 77, 41, 4, 807), (.invokevirtual 78, 17, 3, 474), (.invokevirtual 81, 56, 3, 811), (.invokevirtual 82, 18, 4, 556), (.invokevirtual 86, 57, 4, 870), (.invokevirtual 87, 19, 1, 561), (.invokevirtual 91, 58, 1, 874), (.invokevirtual 92, 20, 1, 565), (.invokevirtual 95, 59, 1, 878), (.invokevirtual 96, 21, 3, 569), (.invokevirtual 99, 60, 3, 882), (.invokevirtual 100, 22, 3, 577), (.invokevirtual 103, 63, 3, 886)]
def fj_L : List (Instr × Nat × Nat × Nat) := fl_L ++ []
theorem fl_L_ok (ini : Bool) : ∀ q ∈ fl_L, ∀ a, iv_okw "RuleGraphLaw" ini (a, q) := List.forall_mem_cons.mpr ⟨fun _ => fk_L_0 ini, List.forall_mem_cons.mpr ⟨fun _ => fk_L_1 ini, List.forall_mem_cons.mpr ⟨fun _ => fk_L_2 ini, List.forall_mem_cons.mpr ⟨fun _ => fk_L_3 ini, List.forall_mem_cons.mpr ⟨fun _ => fk_L_4 ini, List.forall_mem_cons.mpr ⟨fun _ => fk_L_5 ini, List.forall_mem_cons.mpr ⟨fun _ => fk_L_6 ini, List.forall_mem_cons.mpr ⟨fun _ => fk_L_7 ini, List.forall_mem_cons.mpr ⟨fun _ => fk_L_8 ini, List.forall_mem_cons.mpr ⟨fun _ => fk_L_9 ini, List.forall_mem_cons.mpr ⟨fun _ => fk_L_10 ini, List.forall_mem_cons.mpr ⟨fun _ => fk_L_11 ini, List.forall_mem_cons.mpr ⟨fun _ => fk_L_12 ini, List.forall_mem_cons.mpr ⟨fun _ => fk_L_13 ini, List.forall_mem_cons.mpr ⟨fun _ => fk_L_14 ini, List.forall_mem_cons.mpr ⟨fun _ => fk_L_15 ini, List.forall_mem_cons.mpr ⟨fun _ => fk_L_16 ini, List.forall_mem_cons.mpr ⟨fun _ => fk_L_17 ini, List.forall_mem_cons.mpr ⟨fun _ => fk_L_18 ini, List.forall_mem_cons.mpr ⟨fun _ => fk_L_19 ini, List.forall_mem_cons.mpr ⟨fun _ => fk_L_20 ini, List.forall_mem_cons.mpr ⟨fun _ => fk_L_21 ini, List.forall_mem_cons.mpr ⟨fun _ => fk_L_22 ini, List.forall_mem_cons.mpr ⟨fun _ => fk_L_23 ini, List.forall_mem_cons.mpr ⟨fun _ => fk_L_24 ini, List.forall_mem_cons.mpr ⟨fun _ => fk_L_25 ini, List.forall_mem_cons.mpr ⟨fun _ => fk_L_26 ini, List.forall_mem_cons.mpr ⟨fun _ => fk_L_27 ini, List.forall_mem_cons.mpr ⟨fun _ => fk_L_28 ini, List.forall_mem_cons.mpr ⟨fun _ => fk_L_29 ini, List.forall_mem_cons.mpr ⟨fun _ => fk_L_30 ini, List.forall_mem_cons.mpr ⟨fun _ => fk_L_31 ini, List.forall_mem_cons.mpr ⟨fun _ => fk_L_32 ini, List.forall_mem_cons.mpr ⟨fun _ => fk_L_33 ini, List.forall_mem_cons.mpr ⟨fun _ => fk_L_34 ini, List.forall_mem_cons.mpr ⟨fun _ => fk_L_35 ini, List.forall_mem_cons.mpr ⟨fun _ => fk_L_36 ini, List.forall_mem_cons.mpr ⟨fun _ => fk_L_37 ini, List.forall_mem_cons.mpr ⟨fun _ => fk_L_38 ini, List.forall_mem_cons.mpr ⟨fun _ => fk_L_39 ini, List.forall_mem_cons.mpr ⟨fun _ => fk_L_40 ini, List.forall_mem_cons.mpr ⟨fun _ => fk_L_41 ini, List.forall_mem_cons.mpr ⟨fun _ => fk_L_42 ini, List.forall_mem_cons.mpr ⟨fun _ => fk_L_43 ini, fun _ h => absurd h List.not_mem_nil⟩⟩⟩⟩⟩⟩⟩⟩⟩⟩⟩⟩⟩⟩⟩⟩⟩⟩⟩⟩⟩⟩⟩⟩⟩⟩⟩⟩⟩⟩⟩⟩⟩⟩⟩⟩⟩⟩⟩⟩⟩⟩⟩⟩
theorem fj_L_ok : ∀ q ∈ fj_L, ∀ a, iv_okw "RuleGraphLaw" true (a, q) := List.forall_mem_append.mpr ⟨fl_L_ok true, fun _ h => absurd h List.not_mem_nil⟩
theorem fk_0_0 (ini : Bool) : iv_okw "RuleGraph" ini ((0, 0), .invokespecial 3, 0, 1, 47) := Or.inl ⟨rfl, by decide +kernel⟩
theorem fk_0_1 (ini : Bool) : iv_okw "RuleGraph" ini ((0, 0), .new 9, 10, 0, 50) := ⟨_, rfl, by decide +kernel⟩
theorem fk_0_2 (ini : Bool) : iv_okw "RuleGraph" ini ((0, 0), .invokespecial 11, 101, 1, 52) := Or.inr ⟨by decide, cki_101, by decide +kernel, by decide +kernel⟩
theorem fk_0_3 (ini : Bool) : iv_okw "RuleGraph" ini ((0, 0), .new 16, 9, 0, 116) := ⟨_, rfl, by decide +kernel⟩
theorem fk_0_4 (ini : Bool) : iv_okw "RuleGraph" ini ((0, 0), .invokespecial 18, 97, 1, 118) := Or.inr ⟨by decide, cki_97, by decide +kernel, by decide +kernel⟩
theorem fk_0_5 (ini : Bool) : iv_okw "RuleGraph" ini ((0, 0), .new 23, 5, 0, 161) := ⟨_, rfl, by decide +kernel⟩
theorem fk_0_6 (ini : Bool) : iv_okw "RuleGraph" ini ((0, 0), .invokespecial 25, 81, 1, 163) := Or.inr ⟨by decide, cki_81, by decide +kernel, by decide +kernel⟩
theorem fk_0_7 (ini : Bool) : iv_okw "RuleGraph" ini ((0, 0), .new 30, 11, 0, 182) := ⟨_, rfl, by decide +kernel⟩
theorem fk_0_8 (ini : Bool) : iv_okw "RuleGraph" ini ((0, 0), .invokespecial 32, 110, 1, 184) := Or.inr ⟨by decide, cki_110, by decide +kernel, by decide +kernel⟩
theorem fk_0_9 (ini : Bool) : iv_okw "RuleGraph" ini ((0, 0), .new 37, 6, 0, 206) := ⟨_, rfl, by decide +kernel⟩
theorem fk_0_10 (ini : Bool) : iv_okw "RuleGraph" ini ((0, 0), .invokespecial 39, 87, 1, 208) := Or.inr ⟨by decide, cki_87, by decide +kernel, by decide +kernel⟩
theorem fk_0_11 (ini : Bool) : iv_okw "RuleGraph" ini ((0, 0), .new 44, 2, 0, 241) := ⟨_, rfl, by decide +kernel⟩
theorem fk_0_12 (ini : Bool) : iv_okw "RuleGraph" ini ((0, 0), .getfield 12, 0, 0, 276) := ⟨_, rfl, by decide, Or.inl (by decide +kernel)⟩
theorem fk_0_13 (ini : Bool) : iv_okw "RuleGraph" ini ((0, 0), .getfield 19, 0, 1, 277) := ⟨_, rfl, by decide, Or.inl (by decide +kernel)⟩
theorem fk_0_14 (ini : Bool) : iv_okw "RuleGraph" ini ((0, 0), .getfield 26, 0, 2, 278) := ⟨_, rfl, by decide, Or.inl (by decide +kernel)⟩
theorem fk_0_15 (ini : Bool) : iv_okw "RuleGraph" ini ((0, 0), .getfield 33, 0, 3, 279) := ⟨_, rfl, by decide, Or.inl (by decide +kernel)⟩
theorem fk_0_16 (ini : Bool) : iv_okw "RuleGraph" ini ((0, 0), .getfield 40, 0, 4, 280) := ⟨_, rfl, by decide, Or.inl (by decide +kernel)⟩
theorem fk_0_17 (ini : Bool) : iv_okw "RuleGraph" ini ((0, 0), .invokespecial 46, 64, 6, 243) := Or.inr ⟨by decide, cki_64, by decide +kernel, by decide +kernel⟩
theorem fk_0_18 (ini : Bool) : iv_okw "RuleGraph" ini ((0, 0), .invokevirtual 53, 102, 2, 299) := ⟨ckv_102, by decide +kernel, Or.inl (by decide +kernel)⟩
theorem fk_0_19 (ini : Bool) : iv_okw "RuleGraph" ini ((0, 0), .invokevirtual 57, 108, 2, 303) := ⟨ckv_108, by decide +kernel, Or.inl (by decide +kernel)⟩
theorem fk_0_20 (ini : Bool) : iv_okw "RuleGraph" ini ((0, 0), .invokevirtual 61, 109, 3, 311) := ⟨ckv_109, by decide +kernel, Or.inl (by decide +kernel)⟩
theorem fk_0_21 (ini : Bool) : iv_okw "RuleGraph" ini ((0, 0), .invokevirtual 65, 112, 3, 315) := ⟨ckv_112, by decide +kernel, Or.inl (by decide +kernel)⟩
theorem fk_0_22 (ini : Bool) : iv_okw "RuleGraph" ini ((0, 0), .invokevirtual 69, 103, 2, 323) := ⟨ckv_103, by decide +kernel, Or.inl (by decide +kernel)⟩
theorem fk_0_23 (ini : Bool) : iv_okw "RuleGraph" ini ((0, 0), .invokevirtual 72, 98, 2, 327) := ⟨ckv_98, by decide +kernel, Or.inl (by decide +kernel)⟩
theorem fk_0_24 (ini : Bool) : iv_okw "RuleGraph" ini ((0, 0), .getfield 75, 9, 2, 153) := ⟨_, rfl, by decide, Or.inl (by decide +kernel)⟩
theorem fk_0_25 (ini : Bool) : iv_okw "RuleGraph" ini ((0, 0), .invokevirtual 79, 99, 4, 331) := ⟨ckv_99, by decide +kernel, Or.inl (by decide +kernel)⟩
theorem fk_0_26 (ini : Bool) : iv_okw "RuleGraph" ini ((0, 0), .invokevirtual 83, 100, 5, 354) := ⟨ckv_100, by decide +kernel, Or.inl (by decide +kernel)⟩
theorem fk_0_27 (ini : Bool) : iv_okw "RuleGraph" ini ((0, 0), .invokevirtual 87, 76, 4, 384) := ⟨ckv_76, by decide +kernel, Or.inl (by decide +kernel)⟩
theorem fk_0_28 (ini : Bool) : iv_okw "RuleGraph" ini ((0, 0), .putfield 93, 3, 2, 139) := ⟨_, rfl, Or.inl ⟨by decide +kernel, Or.inl rfl⟩⟩
theorem fk_0_29 (ini : Bool) : iv_okw "RuleGraph" ini ((0, 0), .invokevirtual 97, 82, 2, 393) := ⟨ckv_82, by decide +kernel, Or.inl (by decide +kernel)⟩
theorem fk_0_30 (ini : Bool) : iv_okw "RuleGraph" ini ((0, 0), .invokevirtual 100, 84, 3, 397) := ⟨ckv_84, by decide +kernel, Or.inl (by decide +kernel)⟩
theorem fk_0_31 (ini : Bool) : iv_okw "RuleGraph" ini ((0, 0), .invokevirtual 104, 85, 3, 401) := ⟨ckv_85, by decide +kernel, Or.inl (by decide +kernel)⟩
theorem fk_0_32 (ini : Bool) : iv_okw "RuleGraph" ini ((0, 0), .invokevirtual 107, 83, 2, 410) := ⟨ckv_83, by decide +kernel, Or.inl (by decide +kernel)⟩
theorem fk_0_33 (ini : Bool) : iv_okw "RuleGraph" ini ((0, 0), .getfield 110, 5, 1, 172) := ⟨_, rfl, by decide, Or.inl (by decide +kernel)⟩
theorem fk_0_34 (ini : Bool) : iv_okw "RuleGraph" ini ((0, 0), .invokevirtual 114, 95, 2, 414) := ⟨ckv_95, by decide +kernel, Or.inl (by decide +kernel)⟩
theorem fk_0_35 (ini : Bool) : iv_okw "RuleGraph" ini ((0, 0), .getfield 119, 10, 2, 85) := ⟨_, rfl, by decide, Or.inl (by decide +kernel)⟩
theorem fk_0_36 (ini : Bool) : iv_okw "RuleGraph" ini ((0, 0), .invokevirtual 122, 105, 2, 426) := ⟨ckv_105, by decide +kernel, Or.inl (by decide +kernel)⟩
theorem fk_0_37 (ini : Bool) : iv_okw "RuleGraph" ini ((0, 0), .getfield 125, 10, 6, 94) := ⟨_, rfl, by decide, Or.inl (by decide +kernel)⟩
theorem fk_0_38 (ini : Bool) : iv_okw "RuleGraph" ini ((0, 0), .getfield 129, 10, 7, 97) := ⟨_, rfl, by decide, Or.inl (by decide +kernel)⟩
theorem fk_0_39 (ini : Bool) : iv_okw "RuleGraph" ini ((0, 0), .invokevirtual 133, 113, 2, 438) := ⟨ckv_113, by decide +kernel, Or.inl (by decide +kernel)⟩
theorem fk_0_40 (ini : Bool) : iv_okw "RuleGraph" ini ((0, 0), .invokevirtual 136, 23, 3, 446) := ⟨ckv_23, by decide +kernel, Or.inl (by decide +kernel)⟩
theorem fk_0_41 (ini : Bool) : iv_okw "RuleGraph" ini ((0, 0), .invokevirtual 139, 104, 2, 458) := ⟨ckv_104, by decide +kernel, Or.inl (by decide +kernel)⟩
theorem fk_0_42 (ini : Bool) : iv_okw "RuleGraph" ini ((0, 0), .getfield 142, 10, 5, 91) := ⟨_, rfl, by decide, Or.inl (by decide +kernel)⟩
theorem fk_0_43 (ini : Bool) : iv_okw "RuleGraph" ini ((0, 0), .invokevirtual 146, 111, 2, 450) := ⟨ckv_111, by decide +kernel, Or.inl (by decide +kernel)⟩
theorem fk_0_44 (ini : Bool) : iv_okw "RuleGraph" ini ((0, 0), .getfield 149, 11, 2, 195) := ⟨_, rfl, by decide, Or.inl (by decide +kernel)⟩
theorem fk_0_45 (ini : Bool) : iv_okw "RuleGraph" ini ((0, 0), .invokevirtual 152, 114, 4, 466) := ⟨ckv_114, by decide +kernel, Or.inl (by decide +kernel)⟩
theorem fk_0_46 (ini : Bool) : iv_okw "RuleGraph" ini ((0, 0), .putfield 155, 6, 0, 217) := ⟨_, rfl, Or.inl ⟨by decide +kernel, Or.inl rfl⟩⟩
theorem fk_0_47 (ini : Bool) : iv_okw "RuleGraph" ini ((0, 0), .getfield 49, 0, 5, 281) := ⟨_, rfl, by decide, Or.inl (by decide +kernel)⟩
theorem fk_0_48 (ini : Bool) : iv_okw "RuleGraph" ini ((0, 0), .putfield 159, 2, 8, 256) := ⟨_, rfl, Or.inl ⟨by decide +kernel, Or.inl rfl⟩⟩
theorem fk_0_49 (ini : Bool) : iv_okw "RuleGraph" ini ((0, 0), .getfield 162, 5, 2, 174) := ⟨_, rfl, by decide, Or.inl (by decide +kernel)⟩
theorem fk_0_50 (ini : Bool) : iv_okw "RuleGraph" ini ((0, 0), .putfield 166, 7, 1, 72) := ⟨_, rfl, Or.inl ⟨by decide +kernel, Or.inl rfl⟩⟩
theorem fk_0_51 (ini : Bool) : iv_okw "RuleGraph" ini ((0, 0), .invokevirtual 169, 86, 3, 478) := ⟨ckv_86, by decide +kernel, Or.inr ⟨"RuleGraph", by decide +kernel⟩⟩
theorem fk_0_52 (ini : Bool) : iv_okw "RuleGraph" ini ((0, 0), .getfield 166, 7, 1, 72) := ⟨_, rfl, by decide, Or.inl (by decide +kernel)⟩
theorem fk_0_53 (ini : Bool) : iv_okw "RuleGraph" ini ((0, 0), .getfield 155, 6, 0, 217) := ⟨_, rfl, by decide, Or.inl (by decide +kernel)⟩
theorem fk_0_54 (ini : Bool) : iv_okw "RuleGraph" ini ((0, 0), .getfield 172, 7, 0, 67) := ⟨_, rfl, by decide, Or.inl (by decide +kernel)⟩
theorem fk_0_55 (ini : Bool) : iv_okw "RuleGraph" ini ((0, 0), .invokevirtual 175, 65, 3, 484) := ⟨ckv_65, by decide +kernel, Or.inr ⟨"RuleGraph", by decide +kernel⟩⟩
theorem fk_0_56 (ini : Bool) : iv_okw "RuleGraph" ini ((0, 0), .invokevirtual 178, 90, 2, 552) := ⟨ckv_90, by decide +kernel, Or.inl (by decide +kernel)⟩
theorem fk_0_57 (ini : Bool) : iv_okw "RuleGraph" ini ((0, 0), .invokevirtual 181, 72, 4, 560) := ⟨ckv_72, by decide +kernel, Or.inl (by decide +kernel)⟩
theorem fk_0_58 (ini : Bool) : iv_okw "RuleGraph" ini ((0, 0), .getfield 159, 2, 8, 256) := ⟨_, rfl, by decide, Or.inl (by decide +kernel)⟩
theorem fk_0_59 (ini : Bool) : iv_okw "RuleGraph" ini ((0, 0), .invokevirtual 185, 88, 2, 573) := ⟨ckv_88, by decide +kernel, Or.inl (by decide +kernel)⟩
theorem fk_0_60 (ini : Bool) : iv_okw "RuleGraph" ini ((0, 0), .getfield 188, 6, 1, 219) := ⟨_, rfl, by decide, Or.inl (by decide +kernel)⟩
theorem fk_0_61 (ini : Bool) : iv_okw "RuleGraph" ini ((0, 0), .invokevirtual 191, 91, 2, 581) := ⟨ckv_91, by decide +kernel, Or.inl (by decide +kernel)⟩
theorem fk_0_62 (ini : Bool) : iv_okw "RuleGraph" ini ((0, 0), .getfield 195, 6, 5, 226) := ⟨_, rfl, by decide, Or.inl (by decide +kernel)⟩
theorem fk_0_63 (ini : Bool) : iv_okw "RuleGraph" ini ((0, 0), .getfield 198, 6, 4, 224) := ⟨_, rfl, by decide, Or.inl (by decide +kernel)⟩
theorem fk_0_64 (ini : Bool) : iv_okw "RuleGraph" ini ((0, 0), .getfield 202, 11, 1, 192) := ⟨_, rfl, by decide, Or.inl (by decide +kernel)⟩
theorem fk_0_65 (ini : Bool) : iv_okw "RuleGraph" ini ((0, 0), .invokevirtual 205, 106, 3, 454) := ⟨ckv_106, by decide +kernel, Or.inl (by decide +kernel)⟩
theorem fi_0_0 : iv_okw "RuleGraph" true ((0, 0), .putfield 12, 0, 0, 276) := ⟨_, rfl, Or.inl ⟨by decide +kernel, Or.inr ⟨rfl, rfl, rfl⟩⟩⟩
theorem fi_0_1 : iv_okw "RuleGraph" true ((0, 0), .putfield 19, 0, 1, 277) := ⟨_, rfl, Or.inl ⟨by decide +kernel, Or.inr ⟨rfl, rfl, rfl⟩⟩⟩
theorem fi_0_2 : iv_okw "RuleGraph" true ((0, 0), .putfield 26, 0, 2, 278) := ⟨_, rfl, Or.inl ⟨by decide +kernel, Or.inr ⟨rfl, rfl, rfl⟩⟩⟩
theorem fi_0_3 : iv_okw "RuleGraph" true ((0, 0), .putfield 33, 0, 3, 279) := ⟨_, rfl, Or.inl ⟨by decide +kernel, Or.inr ⟨rfl, rfl, rfl⟩⟩⟩
theorem fi_0_4 : iv_okw "RuleGraph" true ((0, 0), .putfield 40, 0, 4, 280) := ⟨_, rfl, Or.inl ⟨by decide +kernel, Or.inr ⟨rfl, rfl, rfl⟩⟩⟩
theorem fi_0_5 : iv_okw "RuleGraph" true ((0, 0), .putfield 49, 0, 5, 281) := ⟨_, rfl, Or.inl ⟨by decide +kernel, Or.inr ⟨rfl, rfl, rfl⟩⟩⟩
def fl_0 : List (Instr × Nat × Nat × Nat) := [(.invokespecial 3, 0, 1, 47), (.new 9, 10, 0, 50), (.invokespecial 11, 101, 1, 52), (.new 16, 9, 0, 116), (.invokespecial 18, 97, 1, 118), (.new 23, 5, 0, 161), (.invokespecial 25, 81, 1, 163), (.new 30, 11, 0, 182), (.invokespecial 32, 110, 1, 184), (.new 37, 6, 0, 206), (.invokespecial 39, 87, 1, 208), (.new 44, 2, 0, 241), (.getfield 12, 0, 0, 276), (.getfield 19, 0, 1, 277), (.getfield 26, 0, 2, 278), (.getfield 33, 0, 3, 279), (.getfield 40, 0, 4, 280), (.invokespecial 46, 64, 6, 243), (.invokevirtual 53, 102, 2, 299), (.invokevirtual 57, 108, 2, 303), (.invokevirtual 61, 109, 3, 311), (.invokevirtual 65, 112, 3, 315), (.invokevirtual 69, 103, 2, 323), (.invokevirtual 72, 98, 2, 327), (.getfield 75, 9, 2, 153), (.invokevirtual 79, 99, 4, 331), (.invokevirtual 83, 100, 5, 354), (.invokevirtual 87, 76, 4, 384), (.putfield 93, 3, 2, 139), (.invokevirtual 97, 82, 2, 393), (.invokevirtual 100, 84, 3, 397), (.invokevirtual 104, 85, 3, 401), (.invokevirtual 107, 83, 2, 410), (.getfield 110, 5, 1, 172), (.invokevirtual 114, 95, 2, 414), (.getfield 119, 10, 2, 85), (.invokevirtual 122, 105, 2, 426), (.getfield 125, 10, 6, 94), (.getfield 129, 10, 7, 97), (.invokevirtual 133, 113, 2, 438), (.invokevirtual 136, 23, 3, 446), (.invokevirtual 139, 104, 2, 458), (.getfield 142, 10, 5, 91), (.invokevirtual 146, 111, 2, 450), (.getfield 149, 11, 2, 195), (.invokevirtual 152, 114, 4, 466), (.putfield 155, 6, 0, 217), (.getfield 49, 0, 5, 281), (.putfield 159, 2, 8, 256), (.getfield 162, 5, 2, 174), (.putfield 166, 7, 1, 72), (.invokevirtual 169, 86, 3, 478), (.getfield 166, 7, 1, 72), (.getfield 155, 6, 0, 217), (.getfield 172, 7, 0, 67), (.invokevirtual 175, 65, 3, 484), (.invokevirtual 178, 90, 2, 552), (.invokevirtual 181, 72, 4, 560), (.getfield 159, 2, 8, 256), (.invokevirtual 185, 88, 2, 573), (.getfield 188, 6, 1, 219), (.invokevirtual 191, 91, 2, 581), (.getfield 195, 6, 5, 226), (.getfield 198, 6, 4, 224), (.getfield 202, 11, 1, 192), (.invokevirtual 205, 106, 3, 454)]
def fj_0 : List (Instr × Nat × Nat × Nat) := fl_0 ++ [(.putfield 12, 0, 0, 276), (.putfield 19, 0, 1, 277), (.putfield 26, 0, 2, 278), (.putfield 33, 0, 3, 279), (.putfield 40, 0, 4, 280), (.putfield 49, 0, 5, 281)]
theorem fl_0_ok (ini : Bool) : ∀ q ∈ fl_0, ∀ a, iv_okw "RuleGraph" ini (a, q) := List.forall_mem_cons.mpr ⟨fun _ => fk_0_0 ini, List.forall_mem_cons.mpr ⟨fun _ => fk_0_1 ini, List.forall_mem_cons.mpr ⟨fun _ => fk_0_2 ini, List.forall_mem_cons.mpr ⟨fun _ => fk_0_3 ini, List.forall_mem_cons.mpr ⟨fun _ => fk_0_4 ini, List.forall_mem_cons.mpr ⟨fun _ => fk_0_5 ini, List.forall_mem_cons.mpr ⟨fun _ => fk_0_6 ini, List.forall_mem_cons.mpr ⟨fun _ => fk_0_7 ini, List.forall_mem_cons.mpr ⟨fun _ => fk_0_8 ini, List.forall_mem_cons.mpr ⟨fun _ => fk_0_9 ini, List.forall_mem_cons.mpr ⟨fun _ => fk_0_10 ini, List.forall_mem_cons.mpr ⟨fun _ => fk_0_11 ini, List.forall_mem_cons.mpr ⟨fun _ => fk_0_12 ini, List.forall_mem_cons.mpr ⟨fun _ => fk_0_13 ini, List.forall_mem_cons.mpr ⟨fun _ => fk_0_14 ini, List.forall_mem_cons.mpr ⟨fun _ => fk_0_15 ini, List.forall_mem_cons.mpr ⟨fun _ => fk_0_16 ini, List.forall_mem_cons.mpr ⟨fun _ => fk_0_17 ini, List.forall_mem_cons.mpr ⟨fun _ => fk_0_18 ini, List.forall_mem_cons.mpr ⟨fun _ => fk_0_19 ini, List.forall_mem_cons.mpr ⟨fun _ => fk_0_20 ini, List.forall_mem_cons.mpr ⟨fun _ => fk_0_21 ini, List.forall_mem_cons.mpr ⟨fun _ => fk_0_22 ini, List.forall_mem_cons.mpr ⟨fun _ => fk_0_23 ini, List.forall_mem_cons.mpr ⟨fun _ => fk_0_24 ini, List.forall_mem_cons.mpr ⟨fun _ => fk_0_25 ini, List.forall_mem_cons.mpr ⟨fun _ => fk_0_26 ini, List.forall_mem_cons.mpr ⟨fun _ => fk_0_27 ini, List.forall_mem_cons.mpr ⟨fun _ => fk_0_28 ini, List.forall_mem_cons.mpr ⟨fun _ => fk_0_29 ini, List.forall_mem_cons.mpr ⟨fun _ => fk_0_30 ini, List.forall_mem_cons.mpr ⟨fun _ => fk_0_31 ini, List.forall_mem_cons.mpr ⟨fun _ => fk_0_32 ini, List.forall_mem_cons.mpr ⟨fun _ => fk_0_33 ini, List.forall_mem_cons.mpr ⟨fun _ => fk_0_34 ini, List.forall_mem_cons.mpr ⟨fun _ => fk_0_35 ini, List.forall_mem_cons.mpr ⟨fun _ => fk_0_36 ini, List.forall_mem_cons.mpr ⟨fun _ => fk_0_37 ini, List.forall_mem_cons.mpr ⟨fun _ => fk_0_38 ini, List.forall_mem_cons.mpr ⟨fun _ => fk_0_39 ini, List.forall_mem_cons.mpr ⟨fun _ => fk_0_40 ini, List.forall_mem_cons.mpr ⟨fun _ => fk_0_41 ini, List.forall_mem_cons.mpr ⟨fun _ => fk_0_42 ini, List.forall_mem_cons.mpr ⟨fun _ => fk_0_43 ini, List.forall_mem_cons.mpr ⟨fun _ => fk_0_44 ini, List.forall_mem_cons.mpr ⟨fun _ => fk_0_45 ini, List.forall_mem_cons.mpr ⟨fun _ => fk_0_46 ini, List.forall_mem_cons.mpr ⟨fun _ => fk_0_47 ini, List.forall_mem_cons.mpr ⟨fun _ => fk_0_48 ini, List.forall_mem_cons.mpr ⟨fun _ => fk_0_49 ini, List.forall_mem_cons.mpr ⟨fun _ => fk_0_50 ini, List.forall_mem_cons.mpr ⟨fun _ => fk_0_51 ini, List.forall_mem_cons.mpr ⟨fun _ => fk_0_52 ini, List.forall_mem_cons.mpr ⟨fun _ => fk_0_53 ini, List.forall_mem_cons.mpr ⟨fun _ => fk_0_54 ini, List.forall_mem_cons.mpr ⟨fun _ => fk_0_55 ini, List.forall_mem_cons.mpr ⟨fun _ => fk_0_56 ini, List.forall_mem_cons.mpr ⟨fun _ => fk_0_57 ini, List.forall_mem_cons.mpr ⟨fun _ => fk_0_58 ini, List.forall_mem_cons.mpr ⟨fun _ => fk_0_59 ini, List.forall_mem_cons.mpr ⟨fun _ => fk_0_60 ini, List.forall_mem_cons.mpr ⟨fun _ => fk_0_61 ini, List.forall_mem_cons.mpr ⟨fun _ => fk_0_62 ini, List.forall_mem_cons.mpr ⟨fun _ => fk_0_63 ini, List.forall_mem_cons.mpr ⟨fun _ => fk_0_64 ini, List.forall_mem_cons.mpr ⟨fun _ => fk_0_65 ini, fun _ h => absurd h List.not_mem_nil⟩⟩⟩⟩⟩⟩⟩⟩⟩⟩⟩⟩⟩⟩⟩⟩⟩⟩⟩⟩⟩⟩⟩⟩⟩⟩⟩⟩⟩⟩⟩⟩⟩⟩⟩⟩⟩⟩⟩⟩⟩⟩⟩⟩⟩⟩⟩⟩⟩⟩⟩⟩⟩⟩⟩⟩⟩⟩⟩⟩⟩⟩⟩⟩⟩⟩
theorem fj_0_ok : ∀ q ∈ fj_0, ∀ a, iv_okw "RuleGraph" true (a, q) := List.forall_mem_append.mpr ⟨fl_0_ok true, List.forall_mem_cons.mpr ⟨fun _ => fi_0_0, List.forall_mem_cons.mpr ⟨fun _ => fi_0_1, List.forall_mem_cons.mpr ⟨fun _ => fi_0_2, List.forall_mem_cons.mpr ⟨fun _ => fi_0_3, List.forall_mem_cons.mpr ⟨fun _ => fi_0_4, List.forall_mem_cons.mpr ⟨fun _ => fi_0_5, fun _ h => absurd h List.not_mem_nil⟩⟩⟩⟩⟩⟩⟩
theorem fk_1_0 (ini : Bool) : iv_okw "RuleGraphModel" ini ((0, 0), .invokespecial 1, 0, 1, 598) := Or.inl ⟨rfl, by decide +kernel⟩
theorem fk_1_1 (ini : Bool) : iv_okw "RuleGraphModel" ini ((0, 0), .newarray .int, 100, 0, 78) := ⟨rfl, by decide +kernel⟩
theorem fk_1_2 (ini : Bool) : iv_okw "RuleGraphModel" ini ((0, 0), .putfield 7, 1, 1, 600) := ⟨_, rfl, Or.inl ⟨by decide +kernel, Or.inl rfl⟩⟩
theorem fk_1_3 (ini : Bool) : iv_okw "RuleGraphModel" ini ((0, 0), .putfield 13, 1, 3, 602) := ⟨_, rfl, Or.inl ⟨by decide +kernel, Or.inl rfl⟩⟩
theorem fk_1_4 (ini : Bool) : iv_okw "RuleGraphModel" ini ((0, 0), .putfield 16, 1, 4, 603) := ⟨_, rfl, Or.inl ⟨by decide +kernel, Or.inl rfl⟩⟩
theorem fk_1_5 (ini : Bool) : iv_okw "RuleGraphModel" ini ((0, 0), .newarray .boolean, 101, 0, 115) := ⟨rfl, by decide +kernel⟩
theorem fk_1_6 (ini : Bool) : iv_okw "RuleGraphModel" ini ((0, 0), .putfield 19, 1, 5, 604) := ⟨_, rfl, Or.inl ⟨by decide +kernel, Or.inl rfl⟩⟩
theorem fk_1_7 (ini : Bool) : iv_okw "RuleGraphModel" ini ((0, 0), .putfield 23, 1, 6, 605) := ⟨_, rfl, Or.inl ⟨by decide +kernel, Or.inl rfl⟩⟩
theorem fk_1_8 (ini : Bool) : iv_okw "RuleGraphModel" ini ((0, 0), .putfield 26, 1, 8, 607) := ⟨_, rfl, Or.inl ⟨by decide +kernel, Or.inl rfl⟩⟩
theorem fk_1_9 (ini : Bool) : iv_okw "RuleGraphModel" ini ((0, 0), .putfield 29, 1, 9, 608) := ⟨_, rfl, Or.inl ⟨by decide +kernel, Or.inl rfl⟩⟩
theorem fk_1_10 (ini : Bool) : iv_okw "RuleGraphModel" ini ((0, 0), .putfield 32, 1, 10, 609) := ⟨_, rfl, Or.inl ⟨by decide +kernel, Or.inl rfl⟩⟩
theorem fk_1_11 (ini : Bool) : iv_okw "RuleGraphModel" ini ((0, 0), .putfield 35, 1, 11, 610) := ⟨_, rfl, Or.inl ⟨by decide +kernel, Or.inl rfl⟩⟩
theorem fk_1_12 (ini : Bool) : iv_okw "RuleGraphModel" ini ((0, 0), .putfield 38, 1, 12, 611) := ⟨_, rfl, Or.inl ⟨by decide +kernel, Or.inl rfl⟩⟩
theorem fk_1_13 (ini : Bool) : iv_okw "RuleGraphModel" ini ((0, 0), .putfield 41, 1, 13, 612) := ⟨_, rfl, Or.inl ⟨by decide +kernel, Or.inl rfl⟩⟩
theorem fk_1_14 (ini : Bool) : iv_okw "RuleGraphModel" ini ((0, 0), .putfield 44, 1, 14, 613) := ⟨_, rfl, Or.inl ⟨by decide +kernel, Or.inl rfl⟩⟩
theorem fk_1_15 (ini : Bool) : iv_okw "RuleGraphModel" ini ((0, 0), .putfield 47, 1, 15, 614) := ⟨_, rfl, Or.inl ⟨by decide +kernel, Or.inl rfl⟩⟩
theorem fk_1_16 (ini : Bool) : iv_okw "RuleGraphModel" ini ((0, 0), .putfield 50, 1, 16, 615) := ⟨_, rfl, Or.inl ⟨by decide +kernel, Or.inl rfl⟩⟩
theorem fk_1_17 (ini : Bool) : iv_okw "RuleGraphModel" ini ((0, 0), .putfield 53, 1, 17, 616) := ⟨_, rfl, Or.inl ⟨by decide +kernel, Or.inl rfl⟩⟩
theorem fk_1_18 (ini : Bool) : iv_okw "RuleGraphModel" ini ((0, 0), .putfield 56, 1, 18, 617) := ⟨_, rfl, Or.inl ⟨by decide +kernel, Or.inl rfl⟩⟩
theorem fk_1_19 (ini : Bool) : iv_okw "RuleGraphModel" ini ((0, 0), .putfield 59, 1, 19, 618) := ⟨_, rfl, Or.inl ⟨by decide +kernel, Or.inl rfl⟩⟩
theorem fk_1_20 (ini : Bool) : iv_okw "RuleGraphModel" ini ((0, 0), .putfield 62, 1, 20, 619) := ⟨_, rfl, Or.inl ⟨by decide +kernel, Or.inl rfl⟩⟩
theorem fk_1_21 (ini : Bool) : iv_okw "RuleGraphModel" ini ((0, 0), .putfield 65, 1, 21, 620) := ⟨_, rfl, Or.inl ⟨by decide +kernel, Or.inl rfl⟩⟩
theorem fk_1_22 (ini : Bool) : iv_okw "RuleGraphModel" ini ((0, 0), .putfield 68, 1, 22, 621) := ⟨_, rfl, Or.inl ⟨by decide +kernel, Or.inl rfl⟩⟩
theorem fk_1_23 (ini : Bool) : iv_okw "RuleGraphModel" ini ((0, 0), .putfield 71, 1, 23, 622) := ⟨_, rfl, Or.inl ⟨by decide +kernel, Or.inl rfl⟩⟩
theorem fk_1_24 (ini : Bool) : iv_okw "RuleGraphModel" ini ((0, 0), .putfield 74, 1, 25, 624) := ⟨_, rfl, Or.inl ⟨by decide +kernel, Or.inl rfl⟩⟩
theorem fk_1_25 (ini : Bool) : iv_okw "RuleGraphModel" ini ((0, 0), .putfield 77, 1, 26, 625) := ⟨_, rfl, Or.inl ⟨by decide +kernel, Or.inl rfl⟩⟩
theorem fk_1_26 (ini : Bool) : iv_okw "RuleGraphModel" ini ((0, 0), .putfield 80, 1, 27, 626) := ⟨_, rfl, Or.inl ⟨by decide +kernel, Or.inl rfl⟩⟩
theorem fk_1_27 (ini : Bool) : iv_okw "RuleGraphModel" ini ((0, 0), .putfield 83, 1, 29, 628) := ⟨_, rfl, Or.inl ⟨by decide +kernel, Or.inl rfl⟩⟩
theorem fk_1_28 (ini : Bool) : iv_okw "RuleGraphModel" ini ((0, 0), .putfield 86, 1, 30, 629) := ⟨_, rfl, Or.inl ⟨by decide +kernel, Or.inl rfl⟩⟩
theorem fk_1_29 (ini : Bool) : iv_okw "RuleGraphModel" ini ((0, 0), .putfield 89, 1, 31, 630) := ⟨_, rfl, Or.inl ⟨by decide +kernel, Or.inl rfl⟩⟩
theorem fk_1_30 (ini : Bool) : iv_okw "RuleGraphModel" ini ((0, 0), .putfield 92, 1, 32, 631) := ⟨_, rfl, Or.inl ⟨by decide +kernel, Or.inl rfl⟩⟩
theorem fk_1_31 (ini : Bool) : iv_okw "RuleGraphModel" ini ((0, 0), .putfield 95, 1, 33, 632) := ⟨_, rfl, Or.inl ⟨by decide +kernel, Or.inl rfl⟩⟩
theorem fk_1_32 (ini : Bool) : iv_okw "RuleGraphModel" ini ((0, 0), .putfield 98, 1, 34, 633) := ⟨_, rfl, Or.inl ⟨by decide +kernel, Or.inl rfl⟩⟩
theorem fk_1_33 (ini : Bool) : iv_okw "RuleGraphModel" ini ((0, 0), .putfield 101, 1, 35, 634) := ⟨_, rfl, Or.inl ⟨by decide +kernel, Or.inl rfl⟩⟩
theorem fk_1_34 (ini : Bool) : iv_okw "RuleGraphModel" ini ((0, 0), .putfield 104, 1, 36, 635) := ⟨_, rfl, Or.inl ⟨by decide +kernel, Or.inl rfl⟩⟩
theorem fk_1_35 (ini : Bool) : iv_okw "RuleGraphModel" ini ((0, 0), .putfield 107, 1, 37, 636) := ⟨_, rfl, Or.inl ⟨by decide +kernel, Or.inl rfl⟩⟩
theorem fk_1_36 (ini : Bool) : iv_okw "RuleGraphModel" ini ((0, 0), .putfield 110, 1, 38, 637) := ⟨_, rfl, Or.inl ⟨by decide +kernel, Or.inl rfl⟩⟩
theorem fk_1_37 (ini : Bool) : iv_okw "RuleGraphModel" ini ((0, 0), .putfield 113, 1, 40, 639) := ⟨_, rfl, Or.inl ⟨by decide +kernel, Or.inl rfl⟩⟩
theorem fk_1_38 (ini : Bool) : iv_okw "RuleGraphModel" ini ((0, 0), .putfield 116, 1, 42, 641) := ⟨_, rfl, Or.inl ⟨by decide +kernel, Or.inl rfl⟩⟩
theorem fk_1_39 (ini : Bool) : iv_okw "RuleGraphModel" ini ((0, 0), .putfield 119, 1, 43, 642) := ⟨_, rfl, Or.inl ⟨by decide +kernel, Or.inl rfl⟩⟩
theorem fk_1_40 (ini : Bool) : iv_okw "RuleGraphModel" ini ((0, 0), .putfield 122, 1, 44, 643) := ⟨_, rfl, Or.inl ⟨by decide +kernel, Or.inl rfl⟩⟩
theorem fk_1_41 (ini : Bool) : iv_okw "RuleGraphModel" ini ((0, 0), .putfield 125, 1, 45, 644) := ⟨_, rfl, Or.inl ⟨by decide +kernel, Or.inl rfl⟩⟩
theorem fk_1_42 (ini : Bool) : iv_okw "RuleGraphModel" ini ((0, 0), .putfield 128, 1, 46, 645) := ⟨_, rfl, Or.inl ⟨by decide +kernel, Or.inl rfl⟩⟩
theorem fk_1_43 (ini : Bool) : iv_okw "RuleGraphModel" ini ((0, 0), .getfield 131, 1, 0, 599) := ⟨_, rfl, by decide, Or.inl (by decide +kernel)⟩
theorem fk_1_44 (ini : Bool) : iv_okw "RuleGraphModel" ini ((0, 0), .invokestatic 135, 25, 3, 748) := ⟨List.mem_of_getElem? (i := 749) (by decide +kernel), by decide +kernel, by decide +kernel⟩
theorem fk_1_45 (ini : Bool) : iv_okw "RuleGraphModel" ini ((0, 0), .getfield 7, 1, 1, 600) := ⟨_, rfl, by decide, Or.inl (by decide +kernel)⟩
theorem fk_1_46 (ini : Bool) : iv_okw "RuleGraphModel" ini ((0, 0), .putfield 131, 1, 0, 599) := ⟨_, rfl, Or.inl ⟨by decide +kernel, Or.inl rfl⟩⟩
theorem fk_1_47 (ini : Bool) : iv_okw "RuleGraphModel" ini ((0, 0), .getfield 139, 1, 2, 601) := ⟨_, rfl, by decide, Or.inl (by decide +kernel)⟩
theorem fk_1_48 (ini : Bool) : iv_okw "RuleGraphModel" ini ((0, 0), .getfield 13, 1, 3, 602) := ⟨_, rfl, by decide, Or.inl (by decide +kernel)⟩
theorem fk_1_49 (ini : Bool) : iv_okw "RuleGraphModel" ini ((0, 0), .getfield 16, 1, 4, 603) := ⟨_, rfl, by decide, Or.inl (by decide +kernel)⟩
theorem fk_1_50 (ini : Bool) : iv_okw "RuleGraphModel" ini ((0, 0), .putfield 139, 1, 2, 601) := ⟨_, rfl, Or.inl ⟨by decide +kernel, Or.inl rfl⟩⟩
theorem fk_1_51 (ini : Bool) : iv_okw "RuleGraphModel" ini ((0, 0), .getfield 142, 1, 7, 606) := ⟨_, rfl, by decide, Or.inl (by decide +kernel)⟩
theorem fk_1_52 (ini : Bool) : iv_okw "RuleGraphModel" ini ((0, 0), .getfield 26, 1, 8, 607) := ⟨_, rfl, by decide, Or.inl (by decide +kernel)⟩
theorem fk_1_53 (ini : Bool) : iv_okw "RuleGraphModel" ini ((0, 0), .getfield 29, 1, 9, 608) := ⟨_, rfl, by decide, Or.inl (by decide +kernel)⟩
theorem fk_1_54 (ini : Bool) : iv_okw "RuleGraphModel" ini ((0, 0), .getfield 32, 1, 10, 609) := ⟨_, rfl, by decide, Or.inl (by decide +kernel)⟩
theorem fk_1_55 (ini : Bool) : iv_okw "RuleGraphModel" ini ((0, 0), .getfield 35, 1, 11, 610) := ⟨_, rfl, by decide, Or.inl (by decide +kernel)⟩
theorem fk_1_56 (ini : Bool) : iv_okw "RuleGraphModel" ini ((0, 0), .getfield 38, 1, 12, 611) := ⟨_, rfl, by decide, Or.inl (by decide +kernel)⟩
theorem fk_1_57 (ini : Bool) : iv_okw "RuleGraphModel" ini ((0, 0), .getfield 41, 1, 13, 612) := ⟨_, rfl, by decide, Or.inl (by decide +kernel)⟩
theorem fk_1_58 (ini : Bool) : iv_okw "RuleGraphModel" ini ((0, 0), .putfield 142, 1, 7, 606) := ⟨_, rfl, Or.inl ⟨by decide +kernel, Or.inl rfl⟩⟩
theorem fk_1_59 (ini : Bool) : iv_okw "RuleGraphModel" ini ((0, 0), .getfield 44, 1, 14, 613) := ⟨_, rfl, by decide, Or.inl (by decide +kernel)⟩
theorem fk_1_60 (ini : Bool) : iv_okw "RuleGraphModel" ini ((0, 0), .getfield 47, 1, 15, 614) := ⟨_, rfl, by decide, Or.inl (by decide +kernel)⟩
theorem fk_1_61 (ini : Bool) : iv_okw "RuleGraphModel" ini ((0, 0), .getfield 50, 1, 16, 615) := ⟨_, rfl, by decide, Or.inl (by decide +kernel)⟩
theorem fk_1_62 (ini : Bool) : iv_okw "RuleGraphModel" ini ((0, 0), .getfield 53, 1, 17, 616) := ⟨_, rfl, by decide, Or.inl (by decide +kernel)⟩
theorem fk_1_63 (ini : Bool) : iv_okw "RuleGraphModel" ini ((0, 0), .getfield 56, 1, 18, 617) := ⟨_, rfl, by decide, Or.inl (by decide +kernel)⟩
theorem fk_1_64 (ini : Bool) : iv_okw "RuleGraphModel" ini ((0, 0), .getfield 59, 1, 19, 618) := ⟨_, rfl, by decide, Or.inl (by decide +kernel)⟩
theorem fk_1_65 (ini : Bool) : iv_okw "RuleGraphModel" ini ((0, 0), .invokevirtual 145, 31, 2, 771) := ⟨ckv_31, by decide +kernel, Or.inl (by decide +kernel)⟩
theorem fk_1_66 (ini : Bool) : iv_okw "RuleGraphModel" ini ((0, 0), .getfield 62, 1, 20, 619) := ⟨_, rfl, by decide, Or.inl (by decide +kernel)⟩
theorem fk_1_67 (ini : Bool) : iv_okw "RuleGraphModel" ini ((0, 0), .getfield 65, 1, 21, 620) := ⟨_, rfl, by decide, Or.inl (by decide +kernel)⟩
theorem fk_1_68 (ini : Bool) : iv_okw "RuleGraphModel" ini ((0, 0), .getfield 68, 1, 22, 621) := ⟨_, rfl, by decide, Or.inl (by decide +kernel)⟩
theorem fk_1_69 (ini : Bool) : iv_okw "RuleGraphModel" ini ((0, 0), .getfield 71, 1, 23, 622) := ⟨_, rfl, by decide, Or.inl (by decide +kernel)⟩
theorem fk_1_70 (ini : Bool) : iv_okw "RuleGraphModel" ini ((0, 0), .getfield 19, 1, 5, 604) := ⟨_, rfl, by decide, Or.inl (by decide +kernel)⟩
theorem fk_1_71 (ini : Bool) : iv_okw "RuleGraphModel" ini ((0, 0), .getfield 23, 1, 6, 605) := ⟨_, rfl, by decide, Or.inl (by decide +kernel)⟩
theorem fk_1_72 (ini : Bool) : iv_okw "RuleGraphModel" ini ((0, 0), .getfield 149, 1, 24, 623) := ⟨_, rfl, by decide, Or.inl (by decide +kernel)⟩
theorem fk_1_73 (ini : Bool) : iv_okw "RuleGraphModel" ini ((0, 0), .getfield 74, 1, 25, 624) := ⟨_, rfl, by decide, Or.inl (by decide +kernel)⟩
theorem fk_1_74 (ini : Bool) : iv_okw "RuleGraphModel" ini ((0, 0), .putfield 149, 1, 24, 623) := ⟨_, rfl, Or.inl ⟨by decide +kernel, Or.inl rfl⟩⟩
theorem fk_1_75 (ini : Bool) : iv_okw "RuleGraphModel" ini ((0, 0), .invokevirtual 152, 38, 3, 799) := ⟨ckv_38, by decide +kernel, Or.inl (by decide +kernel)⟩
theorem fk_1_76 (ini : Bool) : iv_okw "RuleGraphModel" ini ((0, 0), .getfield 77, 1, 26, 625) := ⟨_, rfl, by decide, Or.inl (by decide +kernel)⟩
theorem fk_1_77 (ini : Bool) : iv_okw "RuleGraphModel" ini ((0, 0), .getfield 80, 1, 27, 626) := ⟨_, rfl, by decide, Or.inl (by decide +kernel)⟩
theorem fk_1_78 (ini : Bool) : iv_okw "RuleGraphModel" ini ((0, 0), .invokestatic 156, 42, 3, 856) := ⟨List.mem_of_getElem? (i := 857) (by decide +kernel), by decide +kernel, by decide +kernel⟩
theorem fk_1_79 (ini : Bool) : iv_okw "RuleGraphModel" ini ((0, 0), .getfield 160, 1, 41, 640) := ⟨_, rfl, by decide, Or.inl (by decide +kernel)⟩
theorem fk_1_80 (ini : Bool) : iv_okw "RuleGraphModel" ini ((0, 0), .getfield 116, 1, 42, 641) := ⟨_, rfl, by decide, Or.inl (by decide +kernel)⟩
theorem fk_1_81 (ini : Bool) : iv_okw "RuleGraphModel" ini ((0, 0), .getfield 119, 1, 43, 642) := ⟨_, rfl, by decide, Or.inl (by decide +kernel)⟩
theorem fk_1_82 (ini : Bool) : iv_okw "RuleGraphModel" ini ((0, 0), .getfield 163, 1, 28, 627) := ⟨_, rfl, by decide, Or.inl (by decide +kernel)⟩
theorem fk_1_83 (ini : Bool) : iv_okw "RuleGraphModel" ini ((0, 0), .getfield 122, 1, 44, 643) := ⟨_, rfl, by decide, Or.inl (by decide +kernel)⟩
theorem fk_1_84 (ini : Bool) : iv_okw "RuleGraphModel" ini ((0, 0), .getfield 107, 1, 37, 636) := ⟨_, rfl, by decide, Or.inl (by decide +kernel)⟩
theorem fk_1_85 (ini : Bool) : iv_okw "RuleGraphModel" ini ((0, 0), .getfield 125, 1, 45, 644) := ⟨_, rfl, by decide, Or.inl (by decide +kernel)⟩
theorem fk_1_86 (ini : Bool) : iv_okw "RuleGraphModel" ini ((0, 0), .getfield 110, 1, 38, 637) := ⟨_, rfl, by decide, Or.inl (by decide +kernel)⟩
theorem fk_1_87 (ini : Bool) : iv_okw "RuleGraphModel" ini ((0, 0), .putfield 160, 1, 41, 640) := ⟨_, rfl, Or.inl ⟨by decide +kernel, Or.inl rfl⟩⟩
theorem fk_1_88 (ini : Bool) : iv_okw "RuleGraphModel" ini ((0, 0), .invokestatic 166, 44, 5, 863) := ⟨List.mem_of_getElem? (i := 864) (by decide +kernel), by decide +kernel, by decide +kernel⟩
theorem fk_1_89 (ini : Bool) : iv_okw "RuleGraphModel" ini ((0, 0), .invokevirtual 170, 45, 5, 866) := ⟨ckv_45, by decide +kernel, Or.inl (by decide +kernel)⟩
theorem fk_1_90 (ini : Bool) : iv_okw "RuleGraphModel" ini ((0, 0), .invokevirtual 174, 43, 2, 852) := ⟨ckv_43, by decide +kernel, Or.inl (by decide +kernel)⟩
theorem fk_1_91 (ini : Bool) : iv_okw "RuleGraphModel" ini ((0, 0), .invokevirtual 178, 46, 4, 859) := ⟨ckv_46, by decide +kernel, Or.inl (by decide +kernel)⟩
theorem fk_1_92 (ini : Bool) : iv_okw "RuleGraphModel" ini ((0, 0), .getfield 83, 1, 29, 628) := ⟨_, rfl, by decide, Or.inl (by decide +kernel)⟩
theorem fk_1_93 (ini : Bool) : iv_okw "RuleGraphModel" ini ((0, 0), .getfield 86, 1, 30, 629) := ⟨_, rfl, by decide, Or.inl (by decide +kernel)⟩
theorem fk_1_94 (ini : Bool) : iv_okw "RuleGraphModel" ini ((0, 0), .getfield 181, 1, 39, 638) := ⟨_, rfl, by decide, Or.inl (by decide +kernel)⟩
theorem fk_1_95 (ini : Bool) : iv_okw "RuleGraphModel" ini ((0, 0), .putfield 181, 1, 39, 638) := ⟨_, rfl, Or.inl ⟨by decide +kernel, Or.inl rfl⟩⟩
theorem fk_1_96 (ini : Bool) : iv_okw "RuleGraphModel" ini ((0, 0), .invokevirtual 184, 48, 2, 835) := ⟨ckv_48, by decide +kernel, Or.inl (by decide +kernel)⟩
theorem fk_1_97 (ini : Bool) : iv_okw "RuleGraphModel" ini ((0, 0), .getfield 89, 1, 31, 630) := ⟨_, rfl, by decide, Or.inl (by decide +kernel)⟩
theorem fk_1_98 (ini : Bool) : iv_okw "RuleGraphModel" ini ((0, 0), .getfield 95, 1, 33, 632) := ⟨_, rfl, by decide, Or.inl (by decide +kernel)⟩
theorem fk_1_99 (ini : Bool) : iv_okw "RuleGraphModel" ini ((0, 0), .putfield 163, 1, 28, 627) := ⟨_, rfl, Or.inl ⟨by decide +kernel, Or.inl rfl⟩⟩
theorem fk_1_100 (ini : Bool) : iv_okw "RuleGraphModel" ini ((0, 0), .getfield 92, 1, 32, 631) := ⟨_, rfl, by decide, Or.inl (by decide +kernel)⟩
theorem fk_1_101 (ini : Bool) : iv_okw "RuleGraphModel" ini ((0, 0), .getfield 104, 1, 36, 635) := ⟨_, rfl, by decide, Or.inl (by decide +kernel)⟩
theorem fk_1_102 (ini : Bool) : iv_okw "RuleGraphModel" ini ((0, 0), .getfield 98, 1, 34, 633) := ⟨_, rfl, by decide, Or.inl (by decide +kernel)⟩
theorem fk_1_103 (ini : Bool) : iv_okw "RuleGraphModel" ini ((0, 0), .getfield 101, 1, 35, 634) := ⟨_, rfl, by decide, Or.inl (by decide +kernel)⟩
theorem fk_1_104 (ini : Bool) : iv_okw "RuleGraphModel" ini ((0, 0), .invokevirtual 187, 47, 4, 848) := ⟨ckv_47, by decide +kernel, Or.inl (by decide +kernel)⟩
theorem fk_1_105 (ini : Bool) : iv_okw "RuleGraphModel" ini ((0, 0), .invokevirtual 191, 49, 3, 831) := ⟨ckv_49, by decide +kernel, Or.inl (by decide +kernel)⟩
theorem fk_1_106 (ini : Bool) : iv_okw "RuleGraphModel" ini ((0, 0), .ldc 195, 100000, 0, 839) := (show lw_tbl[839]? = some (Cond.constant "RuleGraphModel" 195 (Int32.ofNat 100000)) by decide +kernel)
theorem fk_1_107 (ini : Bool) : iv_okw "RuleGraphModel" ini ((0, 0), .invokevirtual 196, 51, 2, 840) := ⟨ckv_51, by decide +kernel, Or.inl (by decide +kernel)⟩
theorem fk_1_108 (ini : Bool) : iv_okw "RuleGraphModel" ini ((0, 0), .invokevirtual 199, 50, 2, 844) := ⟨ckv_50, by decide +kernel, Or.inl (by decide +kernel)⟩
theorem fk_1_109 (ini : Bool) : iv_okw "RuleGraphModel" ini ((0, 0), .invokevirtual 202, 53, 3, 819) := ⟨ckv_53, by decide +kernel, Or.inl (by decide +kernel)⟩
theorem fk_1_110 (ini : Bool) : iv_okw "RuleGraphModel" ini ((0, 0), .getfield 113, 1, 40, 639) := ⟨_, rfl, by decide, Or.inl (by decide +kernel)⟩
theorem fk_1_111 (ini : Bool) : iv_okw "RuleGraphModel" ini ((0, 0), .invokevirtual 205, 54, 2, 815) := ⟨ckv_54, by decide +kernel, Or.inl (by decide +kernel)⟩
theorem fk_1_112 (ini : Bool) : iv_okw "RuleGraphModel" ini ((0, 0), .invokevirtual 208, 55, 2, 823) := ⟨ckv_55, by decide +kernel, Or.inl (by decide +kernel)⟩
theorem fk_1_113 (ini : Bool) : iv_okw "RuleGraphModel" ini ((0, 0), .invokevirtual 211, 52, 3, 827) := ⟨ckv_52, by decide +kernel, Or.inl (by decide +kernel)⟩
theorem fk_1_114 (ini : Bool) : iv_okw "RuleGraphModel" ini ((0, 0), .getfield 128, 1, 46, 645) := ⟨_, rfl, by decide, Or.inl (by decide +kernel)⟩
theorem fk_1_115 (ini : Bool) : iv_okw "RuleGraphModel" ini ((0, 0), .getfield 214, 1, 47, 646) := ⟨_, rfl, by decide, Or.inl (by decide +kernel)⟩
theorem fk_1_116 (ini : Bool) : iv_okw "RuleGraphModel" ini ((0, 0), .putfield 214, 1, 47, 646) := ⟨_, rfl, Or.inl ⟨by decide +kernel, Or.inl rfl⟩⟩
theorem fk_1_117 (ini : Bool) : iv_okw "RuleGraphModel" ini ((0, 0), .invokevirtual 217, 61, 2, 894) := ⟨ckv_61, by decide +kernel, Or.inl (by decide +kernel)⟩
theorem fk_1_118 (ini : Bool) : iv_okw "RuleGraphModel" ini ((0, 0), .invokevirtual 221, 62, 3, 890) := ⟨ckv_62, by decide +kernel, Or.inl (by decide +kernel)⟩
def fl_1 : List (Instr × Nat × Nat × Nat) := [(.invokespecial 1, 0, 1, 598), (.newarray .int, 100, 0, 78), (.putfield 7, 1, 1, 600), (.putfield 13, 1, 3, 602), (.putfield 16, 1, 4, 603), (.newarray .boolean, 101, 0, 115), (.putfield 19, 1, 5, 604), (.putfield 23, 1, 6, 605), (.putfield 26, 1, 8, 607), (.putfield 29, 1, 9, 608), (.putfield 32, 1, 10, 609), (.putfield 35, 1, 11, 610), (.putfield 38, 1, 12, 611), (.putfield 41, 1, 13, 612), (.putfield 44, 1, 14, 613), (.putfield 47, 1, 15, 614), (.putfield 50, 1, 16, 615), (.putfield 53, 1, 17, 616), (.putfield 56, 1, 18, 617), (.putfield 59, 1, 19, 618), (.putfield 62, 1, 20, 619), (.putfield 65, 1, 21, 620), (.putfield 68, 1, 22, 621), (.putfield 71, 1, 23, 622), (.putfield 74, 1, 25, 624), (.putfield 77, 1, 26, 625), (.putfield 80, 1, 27, 626), (.putfield 83, 1, 29, 628), (.putfield 86, 1, 30, 629), (.putfield 89, 1, 31, 630), (.putfield 92, 1, 32, 631), (.putfield 95, 1, 33, 632), (.putfield 98, 1, 34, 633), (.putfield 101, 1, 35, 634), (.putfield 104, 1, 36, 635), (.putfield 107, 1, 37, 636), (.putfield 110, 1, 38, 637), (.putfield 113, 1, 40, 639), (.putfield 116, 1, 42, 641), (.putfield 119, 1, 43, 642), (.putfield 122, 1, 44, 643), (.putfield 125, 1, 45, 644), (.putfield 128, 1, 46, 645), (.getfield 131, 1, 0, 599), (.invokestatic 135, 25, 3, 748), (.getfield 7, 1, 1, 600), (.putfield 131, 1, 0, 599), (.getfield 139, 1, 2, 601), (.getfield 13, 1, 3, 602), (.getfield 16, 1, 4, 603), (.putfield 139, 1, 2, 601), (.getfield 142, 1, 7, 606), (.getfield 26, 1, 8, 607), (.getfield 29, 1, 9, 608), (.getfield 32, 1, 10, 609), (.getfield 35, 1, 11, 610), (.getfield 38, 1, 12, 611), (.getfield 41, 1, 13, 612), (.putfield 142, 1, 7, 606), (.getfield 44, 1, 14, 613), (.getfield 47, 1, 15, 614), (.getfield 50, 1, 16, 615), (.getfield 53, 1, 17, 616), (.getfield 56, 1, 18, 617), (.getfield 59, 1, 19, 618), (.invokevirtual 145, 31, 2, 771), (.getfield 62, 1, 20, 619), (.getfield 65, 1, 21, 620), (.getfield 68, 1, 22, 621), (.getfield 71, 1, 23, 622), (.getfield 19, 1, 5, 604), (.getfield 23, 1, 6, 605), (.getfield 149, 1, 24, 623), (.getfield 74, 1, 25, 624), (.putfield 149, 1, 24, 623), (.invokevirtual 152, 38, 3, 799), (.getfield 77, 1, 26, 625), (.getfield 80, 1, 27, 626), (.invokestatic 156, 42, 3, 856), (.getfield 160, 1, 41, 640), (.getfield 116, 1, 42, 641), (.getfield 119, 1, 43, 642), (.getfield 163, 1, 28, 627), (.getfield 122, 1, 44, 643), (.getfield 107, 1, 37, 636), (.getfield 125, 1, 45, 644), (.getfield 110, 1, 38, 637), (.putfield 160, 1, 41, 640), (.invokestatic 166, 44, 5, 863), (.invokevirtual 170, 45, 5, 866), (.invokevirtual 174, 43, 2, 852), (.invokevirtual 178, 46, 4, 859), (.getfield 83, 1, 29, 628), (.getfield 86, 1, 30, 629), (.getfield 181, 1, 39, 638), (.putfield 181, 1, 39, 638), (.invokevirtual 184, 48, 2, 835), (.getfield 89, 1, 31, 630), (.getfield 95, 1, 33, 632), (.putfield 163, 1, 28, 627), (.getfield 92, 1, 32, 631), (.getfield 104, 1, 36, 635), (.getfield 98, 1, 34, 633), (.getfield 101, 1, 35, 634), (.invokevirtual 187, 47, 4, 848), (.invokevirtual 191, 49, 3, 831), (.ldc 195, 100000, 0, 839), (.invokevirtual 196, 51, 2, 840), (.invokevirtual 199, 50, 2, 844), (.invokevirtual 202, 53, 3, 819), (.getfield 113, 1, 40, 639), (.invokevirtual 205, 54, 2, 815), (.invokevirtual 208, 55, 2, 823), (.invokevirtual 211, 52, 3, 827), (.getfield 128, 1, 46, 645), (.getfield 214, 1, 47, 646), (.putfield 214, 1, 47, 646), (.invokevirtual 217, 61, 2, 894), (.invokevirtual 221, 62, 3, 890)]
def fj_1 : List (Instr × Nat × Nat × Nat) := fl_1 ++ []
theorem fl_1_ok (ini : Bool) : ∀ q ∈ fl_1, ∀ a, iv_okw "RuleGraphModel" ini (a, q) := List.forall_mem_cons.mpr ⟨fun _ => fk_1_0 ini, List.forall_mem_cons.mpr ⟨fun _ => fk_1_1 ini, List.forall_mem_cons.mpr ⟨fun _ => fk_1_2 ini, List.forall_mem_cons.mpr ⟨fun _ => fk_1_3 ini, List.forall_mem_cons.mpr ⟨fun _ => fk_1_4 ini, List.forall_mem_cons.mpr ⟨fun _ => fk_1_5 ini, List.forall_mem_cons.mpr ⟨fun _ => fk_1_6 ini, List.forall_mem_cons.mpr ⟨fun _ => fk_1_7 ini, List.forall_mem_cons.mpr ⟨fun _ => fk_1_8 ini, List.forall_mem_cons.mpr ⟨fun _ => fk_1_9 ini, List.forall_mem_cons.mpr ⟨fun _ => fk_1_10 ini, List.forall_mem_cons.mpr ⟨fun _ => fk_1_11 ini, List.forall_mem_cons.mpr ⟨fun _ => fk_1_12 ini, List.forall_mem_cons.mpr ⟨fun _ => fk_1_13 ini, List.forall_mem_cons.mpr ⟨fun _ => fk_1_14 ini, List.forall_mem_cons.mpr ⟨fun _ => fk_1_15 ini, List.forall_mem_cons.mpr ⟨fun _ => fk_1_16 ini, List.forall_mem_cons.mpr ⟨fun _ => fk_1_17 ini, List.forall_mem_cons.mpr ⟨fun _ => fk_1_18 ini, List.forall_mem_cons.mpr ⟨fun _ => fk_1_19 ini, List.forall_mem_cons.mpr ⟨fun _ => fk_1_20 ini, List.forall_mem_cons.mpr ⟨fun _ => fk_1_21 ini, List.forall_mem_cons.mpr ⟨fun _ => fk_1_22 ini, List.forall_mem_cons.mpr ⟨fun _ => fk_1_23 ini, List.forall_mem_cons.mpr ⟨fun _ => fk_1_24 ini, List.forall_mem_cons.mpr ⟨fun _ => fk_1_25 ini, List.forall_mem_cons.mpr ⟨fun _ => fk_1_26 ini, List.forall_mem_cons.mpr ⟨fun _ => fk_1_27 ini, List.forall_mem_cons.mpr ⟨fun _ => fk_1_28 ini, List.forall_mem_cons.mpr ⟨fun _ => fk_1_29 ini, List.forall_mem_cons.mpr ⟨fun _ => fk_1_30 ini, List.forall_mem_cons.mpr ⟨fun _ => fk_1_31 ini, List.forall_mem_cons.mpr ⟨fun _ => fk_1_32 ini, List.forall_mem_cons.mpr ⟨fun _ => fk_1_33 ini, List.forall_mem_cons.mpr ⟨fun _ => fk_1_34 ini, List.forall_mem_cons.mpr ⟨fun _ => fk_1_35 ini, List.forall_mem_cons.mpr ⟨fun _ => fk_1_36 ini, List.forall_mem_cons.mpr ⟨fun _ => fk_1_37 ini, List.forall_mem_cons.mpr ⟨fun _ => fk_1_38 ini, List.forall_mem_cons.mpr ⟨fun _ => fk_1_39 ini, List.forall_mem_cons.mpr ⟨fun _ => fk_1_40 ini, List.forall_mem_cons.mpr ⟨fun _ => fk_1_41 ini, List.forall_mem_cons.mpr ⟨fun _ => fk_1_42 ini, List.forall_mem_cons.mpr ⟨fun _ => fk_1_43 ini, List.forall_mem_cons.mpr ⟨fun _ => fk_1_44 ini, List.forall_mem_cons.mpr ⟨fun _ => fk_1_45 ini, List.forall_mem_cons.mpr ⟨fun _ => fk_1_46 ini, List.forall_mem_cons.mpr ⟨fun _ => fk_1_47 ini, List.forall_mem_cons.mpr ⟨fun _ => fk_1_48 ini, List.forall_mem_cons.mpr ⟨fun _ => fk_1_49 ini, List.forall_mem_cons.mpr ⟨fun _ => fk_1_50 ini, List.forall_mem_cons.mpr ⟨fun _ => fk_1_51 ini, List.forall_mem_cons.mpr ⟨fun _ => fk_1_52 ini, List.forall_mem_cons.mpr ⟨fun _ => fk_1_53 ini, List.forall_mem_cons.mpr ⟨fun _ => fk_1_54 ini, List.forall_mem_cons.mpr ⟨fun _ => fk_1_55 ini, List.forall_mem_cons.mpr ⟨fun _ => fk_1_56 ini, List.forall_mem_cons.mpr ⟨fun _ => fk_1_57 ini, List.forall_mem_cons.mpr ⟨fun _ => fk_1_58 ini, List.forall_mem_cons.mpr ⟨fun _ => fk_1_59 ini, List.forall_mem_cons.mpr ⟨fun _ => fk_1_60 ini, List.forall_mem_cons.mpr ⟨fun _ => fk_1_61 ini, List.forall_mem_cons.mpr ⟨fun _ => fk_1_62 ini, List.forall_mem_cons.mpr ⟨fun _ => fk_1_63 ini, List.forall_mem_cons.mpr ⟨fun _ => fk_1_64 ini, List.forall_mem_cons.mpr ⟨fun _ => fk_1_65 ini, List.forall_mem_cons.mpr ⟨fun _ => fk_1_66 ini, List.forall_mem_cons.mpr ⟨fun _ => fk_1_67 ini, List.forall_mem_cons.mpr ⟨fun _ => fk_1_68 ini, List.forall_mem_cons.mpr ⟨fun _ => fk_1_69 ini, List.forall_mem_cons.mpr ⟨fun _ => fk_1_70 ini, List.forall_mem_cons.mpr ⟨fun _ => fk_1_71 ini, List.forall_mem_cons.mpr ⟨fun _ => fk_1_72 ini, List.forall_mem_cons.mpr ⟨fun _ => fk_1_73 ini, List.forall_mem_cons.mpr ⟨fun _ => fk_1_74 ini, List.forall_mem_cons.mpr ⟨fun _ => fk_1_75 ini, List.forall_mem_cons.mpr ⟨fun _ => fk_1_76 ini, List.forall_mem_cons.mpr ⟨fun _ => fk_1_77 ini, List.forall_mem_cons.mpr ⟨fun _ => fk_1_78 ini, List.forall_mem_cons.mpr ⟨fun _ => fk_1_79 ini, List.forall_mem_cons.mpr ⟨fun _ => fk_1_80 ini, List.forall_mem_cons.mpr ⟨fun _ => fk_1_81 ini, List.forall_mem_cons.mpr ⟨fun _ => fk_1_82 ini, List.forall_mem_cons.mpr ⟨fun _ => fk_1_83 ini, List.forall_mem_cons.mpr ⟨fun _ => fk_1_84 ini, List.forall_mem_cons.mpr ⟨fun _ => fk_1_85 ini, List.forall_mem_cons.mpr ⟨fun _ => fk_1_86 ini, List.forall_mem_cons.mpr ⟨fun _ => fk_1_87 ini, List.forall_mem_cons.mpr ⟨fun _ => fk_1_88 ini, List.forall_mem_cons.mpr ⟨fun _ => fk_1_89 ini, List.forall_mem_cons.mpr ⟨fun _ => fk_1_90 ini, List.forall_mem_cons.mpr ⟨fun _ => fk_1_91 ini, List.forall_mem_cons.mpr ⟨fun _ => fk_1_92 ini, List.forall_mem_cons.mpr ⟨fun _ => fk_1_93 ini, List.forall_mem_cons.mpr ⟨fun _ => fk_1_94 ini, List.forall_mem_cons.mpr ⟨fun _ => fk_1_95 ini, List.forall_mem_cons.mpr ⟨fun _ => fk_1_96 ini, List.forall_mem_cons.mpr ⟨fun _ => fk_1_97 ini, List.forall_mem_cons.mpr ⟨fun _ => fk_1_98 ini, List.forall_mem_cons.mpr ⟨fun _ => fk_1_99 ini, List.forall_mem_cons.mpr ⟨fun _ => fk_1_100 ini, List.forall_mem_cons.mpr ⟨fun _ => fk_1_101 ini, List.forall_mem_cons.mpr ⟨fun _ => fk_1_102 ini, List.forall_mem_cons.mpr ⟨fun _ => fk_1_103 ini, List.forall_mem_cons.mpr ⟨fun _ => fk_1_104 ini, List.forall_mem_cons.mpr ⟨fun _ => fk_1_105 ini, List.forall_mem_cons.mpr ⟨fun _ => fk_1_106 ini, List.forall_mem_cons.mpr ⟨fun _ => fk_1_107 ini, List.forall_mem_cons.mpr ⟨fun _ => fk_1_108 ini, List.forall_mem_cons.mpr ⟨fun _ => fk_1_109 ini, List.forall_mem_cons.mpr ⟨fun _ => fk_1_110 ini, List.forall_mem_cons.mpr ⟨fun _ => fk_1_111 ini, List.forall_mem_cons.mpr ⟨fun _ => fk_1_112 ini, List.forall_mem_cons.mpr ⟨fun _ => fk_1_113 ini, List.forall_mem_cons.mpr ⟨fun _ => fk_1_114 ini, List.forall_mem_cons.mpr ⟨fun _ => fk_1_115 ini, List.forall_mem_cons.mpr ⟨fun _ => fk_1_116 ini, List.forall_mem_cons.mpr ⟨fun _ => fk_1_117 ini, List.forall_mem_cons.mpr ⟨fun _ => fk_1_118 ini, fun _ h => absurd h List.not_mem_nil⟩⟩⟩⟩⟩⟩⟩⟩⟩⟩⟩⟩⟩⟩⟩⟩⟩⟩⟩⟩⟩⟩⟩⟩⟩⟩⟩⟩⟩⟩⟩⟩⟩⟩⟩⟩⟩⟩⟩⟩⟩⟩⟩⟩⟩⟩⟩⟩⟩⟩⟩⟩⟩⟩⟩⟩⟩⟩⟩⟩⟩⟩⟩⟩⟩⟩⟩⟩⟩⟩⟩⟩⟩⟩⟩⟩⟩⟩⟩⟩⟩⟩⟩⟩⟩⟩⟩⟩⟩⟩⟩⟩⟩⟩⟩⟩⟩⟩⟩⟩⟩⟩⟩⟩⟩⟩⟩⟩⟩⟩⟩⟩⟩⟩⟩⟩⟩⟩⟩
theorem fj_1_ok : ∀ q ∈ fj_1, ∀ a, iv_okw "RuleGraphModel" true (a, q) := List.forall_mem_append.mpr ⟨fl_1_ok true, fun _ h => absurd h List.not_mem_nil⟩
theorem fk_2_0 (ini : Bool) : iv_okw "RuleGraph$Checker" ini ((0, 0), .invokespecial 3, 0, 1, 246) := Or.inl ⟨rfl, by decide +kernel⟩
theorem fk_2_1 (ini : Bool) : iv_okw "RuleGraph$Checker" ini ((0, 0), .newarray .int, 100, 0, 78) := ⟨rfl, by decide +kernel⟩
theorem fk_2_2 (ini : Bool) : iv_okw "RuleGraph$Checker" ini ((0, 0), .putfield 38, 2, 7, 254) := ⟨_, rfl, Or.inl ⟨by decide +kernel, Or.inl rfl⟩⟩
theorem fk_2_3 (ini : Bool) : iv_okw "RuleGraph$Checker" ini ((0, 0), .putfield 42, 2, 8, 255) := ⟨_, rfl, Or.inl ⟨by decide +kernel, Or.inl rfl⟩⟩
theorem fk_2_4 (ini : Bool) : iv_okw "RuleGraph$Checker" ini ((0, 0), .invokevirtual 45, 66, 3, 488) := ⟨ckv_66, by decide +kernel, Or.inl (by decide +kernel)⟩
theorem fk_2_5 (ini : Bool) : iv_okw "RuleGraph$Checker" ini ((0, 0), .getfield 42, 2, 8, 255) := ⟨_, rfl, by decide, Or.inl (by decide +kernel)⟩
theorem fk_2_6 (ini : Bool) : iv_okw "RuleGraph$Checker" ini ((0, 0), .getfield 38, 2, 7, 254) := ⟨_, rfl, by decide, Or.inl (by decide +kernel)⟩
theorem fk_2_7 (ini : Bool) : iv_okw "RuleGraph$Checker" ini ((0, 0), .getfield 31, 2, 5, 252) := ⟨_, rfl, by decide, Or.inl (by decide +kernel)⟩
theorem fk_2_8 (ini : Bool) : iv_okw "RuleGraph$Checker" ini ((0, 0), .getfield 35, 2, 6, 253) := ⟨_, rfl, by decide, Or.inl (by decide +kernel)⟩
theorem fk_2_9 (ini : Bool) : iv_okw "RuleGraph$Checker" ini ((0, 0), .invokevirtual 49, 67, 3, 492) := ⟨ckv_67, by decide +kernel, Or.inl (by decide +kernel)⟩
theorem fk_2_10 (ini : Bool) : iv_okw "RuleGraph$Checker" ini ((0, 0), .getfield 9, 2, 0, 247) := ⟨_, rfl, by decide, Or.inl (by decide +kernel)⟩
theorem fk_2_11 (ini : Bool) : iv_okw "RuleGraph$Checker" ini ((0, 0), .getfield 53, 10, 2, 84) := ⟨_, rfl, by decide, Or.inl (by decide +kernel)⟩
theorem fk_2_12 (ini : Bool) : iv_okw "RuleGraph$Checker" ini ((0, 0), .getfield 23, 2, 3, 250) := ⟨_, rfl, by decide, Or.inl (by decide +kernel)⟩
theorem fk_2_13 (ini : Bool) : iv_okw "RuleGraph$Checker" ini ((0, 0), .getfield 59, 11, 1, 191) := ⟨_, rfl, by decide, Or.inl (by decide +kernel)⟩
theorem fk_2_14 (ini : Bool) : iv_okw "RuleGraph$Checker" ini ((0, 0), .getfield 64, 7, 1, 70) := ⟨_, rfl, by decide, Or.inl (by decide +kernel)⟩
theorem fk_2_15 (ini : Bool) : iv_okw "RuleGraph$Checker" ini ((0, 0), .invokevirtual 69, 69, 3, 496) := ⟨ckv_69, by decide +kernel, Or.inl (by decide +kernel)⟩
theorem fk_2_16 (ini : Bool) : iv_okw "RuleGraph$Checker" ini ((0, 0), .invokevirtual 72, 68, 2, 548) := ⟨ckv_68, by decide +kernel, Or.inl (by decide +kernel)⟩
theorem fk_2_17 (ini : Bool) : iv_okw "RuleGraph$Checker" ini ((0, 0), .getfield 27, 2, 4, 251) := ⟨_, rfl, by decide, Or.inl (by decide +kernel)⟩
theorem fk_2_18 (ini : Bool) : iv_okw "RuleGraph$Checker" ini ((0, 0), .getfield 76, 6, 0, 216) := ⟨_, rfl, by decide, Or.inl (by decide +kernel)⟩
theorem fk_2_19 (ini : Bool) : iv_okw "RuleGraph$Checker" ini ((0, 0), .getfield 81, 7, 0, 65) := ⟨_, rfl, by decide, Or.inl (by decide +kernel)⟩
theorem fk_2_20 (ini : Bool) : iv_okw "RuleGraph$Checker" ini ((0, 0), .invokevirtual 84, 107, 2, 500) := ⟨ckv_107, by decide +kernel, Or.inl (by decide +kernel)⟩
theorem fk_2_21 (ini : Bool) : iv_okw "RuleGraph$Checker" ini ((0, 0), .invokevirtual 88, 72, 4, 505) := ⟨ckv_72, by decide +kernel, Or.inl (by decide +kernel)⟩
theorem fk_2_22 (ini : Bool) : iv_okw "RuleGraph$Checker" ini ((0, 0), .getfield 92, 10, 3, 87) := ⟨_, rfl, by decide, Or.inl (by decide +kernel)⟩
theorem fk_2_23 (ini : Bool) : iv_okw "RuleGraph$Checker" ini ((0, 0), .getfield 95, 10, 6, 93) := ⟨_, rfl, by decide, Or.inl (by decide +kernel)⟩
theorem fk_2_24 (ini : Bool) : iv_okw "RuleGraph$Checker" ini ((0, 0), .getfield 99, 10, 7, 96) := ⟨_, rfl, by decide, Or.inl (by decide +kernel)⟩
theorem fk_2_25 (ini : Bool) : iv_okw "RuleGraph$Checker" ini ((0, 0), .invokevirtual 103, 70, 4, 538) := ⟨ckv_70, by decide +kernel, Or.inl (by decide +kernel)⟩
theorem fk_2_26 (ini : Bool) : iv_okw "RuleGraph$Checker" ini ((0, 0), .getfield 106, 11, 2, 194) := ⟨_, rfl, by decide, Or.inl (by decide +kernel)⟩
theorem fk_2_27 (ini : Bool) : iv_okw "RuleGraph$Checker" ini ((0, 0), .invokevirtual 109, 104, 2, 533) := ⟨ckv_104, by decide +kernel, Or.inl (by decide +kernel)⟩
theorem fk_2_28 (ini : Bool) : iv_okw "RuleGraph$Checker" ini ((0, 0), .invokevirtual 113, 71, 5, 542) := ⟨ckv_71, by decide +kernel, Or.inl (by decide +kernel)⟩
theorem fk_2_29 (ini : Bool) : iv_okw "RuleGraph$Checker" ini ((0, 0), .invokevirtual 117, 115, 4, 534) := ⟨ckv_115, by decide +kernel, Or.inl (by decide +kernel)⟩
theorem fk_2_30 (ini : Bool) : iv_okw "RuleGraph$Checker" ini ((0, 0), .getfield 120, 6, 3, 222) := ⟨_, rfl, by decide, Or.inl (by decide +kernel)⟩
theorem fk_2_31 (ini : Bool) : iv_okw "RuleGraph$Checker" ini ((0, 0), .invokevirtual 124, 95, 2, 546) := ⟨ckv_95, by decide +kernel, Or.inl (by decide +kernel)⟩
theorem fk_2_32 (ini : Bool) : iv_okw "RuleGraph$Checker" ini ((0, 0), .invokevirtual 127, 65, 3, 547) := ⟨ckv_65, by decide +kernel, Or.inl (by decide +kernel)⟩
theorem fk_2_33 (ini : Bool) : iv_okw "RuleGraph$Checker" ini ((0, 0), .putfield 64, 7, 1, 70) := ⟨_, rfl, Or.inl ⟨by decide +kernel, Or.inl rfl⟩⟩
theorem fk_2_34 (ini : Bool) : iv_okw "RuleGraph$Checker" ini ((0, 0), .getfield 15, 2, 1, 248) := ⟨_, rfl, by decide, Or.inl (by decide +kernel)⟩
theorem fk_2_35 (ini : Bool) : iv_okw "RuleGraph$Checker" ini ((0, 0), .getfield 130, 9, 1, 151) := ⟨_, rfl, by decide, Or.inl (by decide +kernel)⟩
theorem fk_2_36 (ini : Bool) : iv_okw "RuleGraph$Checker" ini ((0, 0), .getfield 135, 9, 0, 149) := ⟨_, rfl, by decide, Or.inl (by decide +kernel)⟩
theorem fk_2_37 (ini : Bool) : iv_okw "RuleGraph$Checker" ini ((0, 0), .getfield 139, 8, 0, 364) := ⟨_, rfl, by decide, Or.inl (by decide +kernel)⟩
theorem fk_2_38 (ini : Bool) : iv_okw "RuleGraph$Checker" ini ((0, 0), .getfield 144, 8, 3, 370) := ⟨_, rfl, by decide, Or.inl (by decide +kernel)⟩
theorem fk_2_39 (ini : Bool) : iv_okw "RuleGraph$Checker" ini ((0, 0), .getfield 19, 2, 2, 249) := ⟨_, rfl, by decide, Or.inl (by decide +kernel)⟩
theorem fk_2_40 (ini : Bool) : iv_okw "RuleGraph$Checker" ini ((0, 0), .getfield 146, 5, 0, 170) := ⟨_, rfl, by decide, Or.inl (by decide +kernel)⟩
theorem fk_2_41 (ini : Bool) : iv_okw "RuleGraph$Checker" ini ((0, 0), .invokevirtual 151, 73, 4, 509) := ⟨ckv_73, by decide +kernel, Or.inl (by decide +kernel)⟩
theorem fk_2_42 (ini : Bool) : iv_okw "RuleGraph$Checker" ini ((0, 0), .getfield 155, 8, 2, 368) := ⟨_, rfl, by decide, Or.inl (by decide +kernel)⟩
theorem fk_2_43 (ini : Bool) : iv_okw "RuleGraph$Checker" ini ((0, 0), .getfield 159, 10, 5, 90) := ⟨_, rfl, by decide, Or.inl (by decide +kernel)⟩
theorem fk_2_44 (ini : Bool) : iv_okw "RuleGraph$Checker" ini ((0, 0), .getfield 162, 8, 1, 366) := ⟨_, rfl, by decide, Or.inl (by decide +kernel)⟩
theorem fk_2_45 (ini : Bool) : iv_okw "RuleGraph$Checker" ini ((0, 0), .invokevirtual 166, 77, 3, 513) := ⟨ckv_77, by decide +kernel, Or.inl (by decide +kernel)⟩
theorem fk_2_46 (ini : Bool) : iv_okw "RuleGraph$Checker" ini ((0, 0), .invokevirtual 172, 74, 6, 521) := ⟨ckv_74, by decide +kernel, Or.inl (by decide +kernel)⟩
theorem fk_2_47 (ini : Bool) : iv_okw "RuleGraph$Checker" ini ((0, 0), .getfield 176, 3, 1, 136) := ⟨_, rfl, by decide, Or.inl (by decide +kernel)⟩
theorem fk_2_48 (ini : Bool) : iv_okw "RuleGraph$Checker" ini ((0, 0), .getfield 177, 3, 0, 134) := ⟨_, rfl, by decide, Or.inl (by decide +kernel)⟩
theorem fk_2_49 (ini : Bool) : iv_okw "RuleGraph$Checker" ini ((0, 0), .invokevirtual 181, 80, 2, 525) := ⟨ckv_80, by decide +kernel, Or.inl (by decide +kernel)⟩
theorem fk_2_50 (ini : Bool) : iv_okw "RuleGraph$Checker" ini ((0, 0), .getfield 186, 3, 2, 140) := ⟨_, rfl, by decide, Or.inl (by decide +kernel)⟩
theorem fk_2_51 (ini : Bool) : iv_okw "RuleGraph$Checker" ini ((0, 0), .invokevirtual 189, 89, 7, 529) := ⟨ckv_89, by decide +kernel, Or.inl (by decide +kernel)⟩
theorem fi_2_0 : iv_okw "RuleGraph$Checker" true ((0, 0), .putfield 9, 2, 0, 247) := ⟨_, rfl, Or.inl ⟨by decide +kernel, Or.inr ⟨rfl, rfl, rfl⟩⟩⟩
theorem fi_2_1 : iv_okw "RuleGraph$Checker" true ((0, 0), .putfield 15, 2, 1, 248) := ⟨_, rfl, Or.inl ⟨by decide +kernel, Or.inr ⟨rfl, rfl, rfl⟩⟩⟩
theorem fi_2_2 : iv_okw "RuleGraph$Checker" true ((0, 0), .putfield 19, 2, 2, 249) := ⟨_, rfl, Or.inl ⟨by decide +kernel, Or.inr ⟨rfl, rfl, rfl⟩⟩⟩
theorem fi_2_3 : iv_okw "RuleGraph$Checker" true ((0, 0), .putfield 23, 2, 3, 250) := ⟨_, rfl, Or.inl ⟨by decide +kernel, Or.inr ⟨rfl, rfl, rfl⟩⟩⟩
theorem fi_2_4 : iv_okw "RuleGraph$Checker" true ((0, 0), .putfield 27, 2, 4, 251) := ⟨_, rfl, Or.inl ⟨by decide +kernel, Or.inr ⟨rfl, rfl, rfl⟩⟩⟩
theorem fi_2_5 : iv_okw "RuleGraph$Checker" true ((0, 0), .putfield 31, 2, 5, 252) := ⟨_, rfl, Or.inl ⟨by decide +kernel, Or.inr ⟨rfl, rfl, rfl⟩⟩⟩
theorem fi_2_6 : iv_okw "RuleGraph$Checker" true ((0, 0), .putfield 35, 2, 6, 253) := ⟨_, rfl, Or.inl ⟨by decide +kernel, Or.inr ⟨rfl, rfl, rfl⟩⟩⟩
def fl_2 : List (Instr × Nat × Nat × Nat) := [(.invokespecial 3, 0, 1, 246), (.newarray .int, 100, 0, 78), (.putfield 38, 2, 7, 254), (.putfield 42, 2, 8, 255), (.invokevirtual 45, 66, 3, 488), (.getfield 42, 2, 8, 255), (.getfield 38, 2, 7, 254), (.getfield 31, 2, 5, 252), (.getfield 35, 2, 6, 253), (.invokevirtual 49, 67, 3, 492), (.getfield 9, 2, 0, 247), (.getfield 53, 10, 2, 84), (.getfield 23, 2, 3, 250), (.getfield 59, 11, 1, 191), (.getfield 64, 7, 1, 70), (.invokevirtual 69, 69, 3, 496), (.invokevirtual 72, 68, 2, 548), (.getfield 27, 2, 4, 251), (.getfield 76, 6, 0, 216), (.getfield 81, 7, 0, 65), (.invokevirtual 84, 107, 2, 500), (.invokevirtual 88, 72, 4, 505), (.getfield 92, 10, 3, 87), (.getfield 95, 10, 6, 93), (.getfield 99, 10, 7, 96), (.invokevirtual 103, 70, 4, 538), (.getfield 106, 11, 2, 194), (.invokevirtual 109, 104, 2, 533), (.invokevirtual 113, 71, 5, 542), (.invokevirtual 117, 115, 4, 534), (.getfield 120, 6, 3, 222), (.invokevirtual 124, 95, 2, 546), (.invokevirtual 127, 65, 3, 547), (.putfield 64, 7, 1, 70), (.getfield 15, 2, 1, 248), (.getfield 130, 9, 1, 151), (.getfield 135, 9, 0, 149), (.getfield 139, 8, 0, 364), (.getfield 144, 8, 3, 370), (.getfield 19, 2, 2, 249), (.getfield 146, 5, 0, 170), (.invokevirtual 151, 73, 4, 509), (.getfield 155, 8, 2, 368), (.getfield 159, 10, 5, 90), (.getfield 162, 8, 1, 366), (.invokevirtual 166, 77, 3, 513), (.invokevirtual 172, 74, 6, 521), (.getfield 176, 3, 1, 136), (.getfield 177, 3, 0, 134), (.invokevirtual 181, 80, 2, 525), (.getfield 186, 3, 2, 140), (.invokevirtual 189, 89, 7, 529)]
def fj_2 : List (Instr × Nat × Nat × Nat) := fl_2 ++ [(.putfield 9, 2, 0, 247), (.putfield 15, 2, 1, 248), (.putfield 19, 2, 2, 249), (.putfield 23, 2, 3, 250), (.putfield 27, 2, 4, 251), (.putfield 31, 2, 5, 252), (.putfield 35, 2, 6, 253)]
theorem fl_2_ok (ini : Bool) : ∀ q ∈ fl_2, ∀ a, iv_okw "RuleGraph$Checker" ini (a, q) := List.forall_mem_cons.mpr ⟨fun _ => fk_2_0 ini, List.forall_mem_cons.mpr ⟨fun _ => fk_2_1 ini, List.forall_mem_cons.mpr ⟨fun _ => fk_2_2 ini, List.forall_mem_cons.mpr ⟨fun _ => fk_2_3 ini, List.forall_mem_cons.mpr ⟨fun _ => fk_2_4 ini, List.forall_mem_cons.mpr ⟨fun _ => fk_2_5 ini, List.forall_mem_cons.mpr ⟨fun _ => fk_2_6 ini, List.forall_mem_cons.mpr ⟨fun _ => fk_2_7 ini, List.forall_mem_cons.mpr ⟨fun _ => fk_2_8 ini, List.forall_mem_cons.mpr ⟨fun _ => fk_2_9 ini, List.forall_mem_cons.mpr ⟨fun _ => fk_2_10 ini, List.forall_mem_cons.mpr ⟨fun _ => fk_2_11 ini, List.forall_mem_cons.mpr ⟨fun _ => fk_2_12 ini, List.forall_mem_cons.mpr ⟨fun _ => fk_2_13 ini, List.forall_mem_cons.mpr ⟨fun _ => fk_2_14 ini, List.forall_mem_cons.mpr ⟨fun _ => fk_2_15 ini, List.forall_mem_cons.mpr ⟨fun _ => fk_2_16 ini, List.forall_mem_cons.mpr ⟨fun _ => fk_2_17 ini, List.forall_mem_cons.mpr ⟨fun _ => fk_2_18 ini, List.forall_mem_cons.mpr ⟨fun _ => fk_2_19 ini, List.forall_mem_cons.mpr ⟨fun _ => fk_2_20 ini, List.forall_mem_cons.mpr ⟨fun _ => fk_2_21 ini, List.forall_mem_cons.mpr ⟨fun _ => fk_2_22 ini, List.forall_mem_cons.mpr ⟨fun _ => fk_2_23 ini, List.forall_mem_cons.mpr ⟨fun _ => fk_2_24 ini, List.forall_mem_cons.mpr ⟨fun _ => fk_2_25 ini, List.forall_mem_cons.mpr ⟨fun _ => fk_2_26 ini, List.forall_mem_cons.mpr ⟨fun _ => fk_2_27 ini, List.forall_mem_cons.mpr ⟨fun _ => fk_2_28 ini, List.forall_mem_cons.mpr ⟨fun _ => fk_2_29 ini, List.forall_mem_cons.mpr ⟨fun _ => fk_2_30 ini, List.forall_mem_cons.mpr ⟨fun _ => fk_2_31 ini, List.forall_mem_cons.mpr ⟨fun _ => fk_2_32 ini, List.forall_mem_cons.mpr ⟨fun _ => fk_2_33 ini, List.forall_mem_cons.mpr ⟨fun _ => fk_2_34 ini, List.forall_mem_cons.mpr ⟨fun _ => fk_2_35 ini, List.forall_mem_cons.mpr ⟨fun _ => fk_2_36 ini, List.forall_mem_cons.mpr ⟨fun _ => fk_2_37 ini, List.forall_mem_cons.mpr ⟨fun _ => fk_2_38 ini, List.forall_mem_cons.mpr ⟨fun _ => fk_2_39 ini, List.forall_mem_cons.mpr ⟨fun _ => fk_2_40 ini, List.forall_mem_cons.mpr ⟨fun _ => fk_2_41 ini, List.forall_mem_cons.mpr ⟨fun _ => fk_2_42 ini, List.forall_mem_cons.mpr ⟨fun _ => fk_2_43 ini, List.forall_mem_cons.mpr ⟨fun _ => fk_2_44 ini, List.forall_mem_cons.mpr ⟨fun _ => fk_2_45 ini, List.forall_mem_cons.mpr ⟨fun _ => fk_2_46 ini, List.forall_mem_cons.mpr ⟨fun _ => fk_2_47 ini, List.forall_mem_cons.mpr ⟨fun _ => fk_2_48 ini, List.forall_mem_cons.mpr ⟨fun _ => fk_2_49 ini, List.forall_mem_cons.mpr ⟨fun _ => fk_2_50 ini, List.forall_mem_cons.mpr ⟨fun _ => fk_2_51 ini, fun _ h => absurd h List.not_mem_nil⟩⟩⟩⟩⟩⟩⟩⟩⟩⟩⟩⟩⟩⟩⟩⟩⟩⟩⟩⟩⟩⟩⟩⟩⟩⟩⟩⟩⟩⟩⟩⟩⟩⟩⟩⟩⟩⟩⟩⟩⟩⟩⟩⟩⟩⟩⟩⟩⟩⟩⟩⟩
theorem fj_2_ok : ∀ q ∈ fj_2, ∀ a, iv_okw "RuleGraph$Checker" true (a, q) := List.forall_mem_append.mpr ⟨fl_2_ok true, List.forall_mem_cons.mpr ⟨fun _ => fi_2_0, List.forall_mem_cons.mpr ⟨fun _ => fi_2_1, List.forall_mem_cons.mpr ⟨fun _ => fi_2_2, List.forall_mem_cons.mpr ⟨fun _ => fi_2_3, List.forall_mem_cons.mpr ⟨fun _ => fi_2_4, List.forall_mem_cons.mpr ⟨fun _ => fi_2_5, List.forall_mem_cons.mpr ⟨fun _ => fi_2_6, fun _ h => absurd h List.not_mem_nil⟩⟩⟩⟩⟩⟩⟩⟩
theorem fk_3_0 (ini : Bool) : iv_okw "RuleGraph$Composition" ini ((0, 0), .invokespecial 1, 0, 1, 130) := Or.inl ⟨rfl, by decide +kernel⟩
theorem fk_3_1 (ini : Bool) : iv_okw "RuleGraph$Composition" ini ((0, 0), .anewarray 7, 105, 0, 131) := ⟨"RuleGraph$Demand", rfl, List.mem_of_getElem? (i := 132) (by decide +kernel), by decide +kernel⟩
theorem fk_3_2 (ini : Bool) : iv_okw "RuleGraph$Composition" ini ((0, 0), .putfield 15, 3, 1, 135) := ⟨_, rfl, Or.inl ⟨by decide +kernel, Or.inl rfl⟩⟩
theorem fk_3_3 (ini : Bool) : iv_okw "RuleGraph$Composition" ini ((0, 0), .putfield 19, 3, 2, 137) := ⟨_, rfl, Or.inl ⟨by decide +kernel, Or.inl rfl⟩⟩
theorem fk_3_4 (ini : Bool) : iv_okw "RuleGraph$Composition" ini ((0, 0), .getfield 15, 3, 1, 135) := ⟨_, rfl, by decide, Or.inl (by decide +kernel)⟩
theorem fk_3_5 (ini : Bool) : iv_okw "RuleGraph$Composition" ini ((0, 0), .getfield 9, 3, 0, 133) := ⟨_, rfl, by decide, Or.inl (by decide +kernel)⟩
theorem fk_3_6 (ini : Bool) : iv_okw "RuleGraph$Composition" ini ((0, 0), .new 7, 4, 0, 131) := ⟨_, rfl, by decide +kernel⟩
theorem fk_3_7 (ini : Bool) : iv_okw "RuleGraph$Composition" ini ((0, 0), .invokespecial 23, 78, 4, 340) := Or.inr ⟨by decide, cki_78, by decide +kernel, by decide +kernel⟩
theorem fk_3_8 (ini : Bool) : iv_okw "RuleGraph$Composition" ini ((0, 0), .invokevirtual 26, 79, 3, 517) := ⟨ckv_79, by decide +kernel, Or.inl (by decide +kernel)⟩
theorem fi_3_0 : iv_okw "RuleGraph$Composition" true ((0, 0), .putfield 9, 3, 0, 133) := ⟨_, rfl, Or.inl ⟨by decide +kernel, Or.inr ⟨rfl, rfl, rfl⟩⟩⟩
def fl_3 : List (Instr × Nat × Nat × Nat) := [(.invokespecial 1, 0, 1, 130), (.anewarray 7, 105, 0, 131), (.putfield 15, 3, 1, 135), (.putfield 19, 3, 2, 137), (.getfield 15, 3, 1, 135), (.getfield 9, 3, 0, 133), (.new 7, 4, 0, 131), (.invokespecial 23, 78, 4, 340), (.invokevirtual 26, 79, 3, 517)]
def fj_3 : List (Instr × Nat × Nat × Nat) := fl_3 ++ [(.putfield 9, 3, 0, 133)]
theorem fl_3_ok (ini : Bool) : ∀ q ∈ fl_3, ∀ a, iv_okw "RuleGraph$Composition" ini (a, q) := List.forall_mem_cons.mpr ⟨fun _ => fk_3_0 ini, List.forall_mem_cons.mpr ⟨fun _ => fk_3_1 ini, List.forall_mem_cons.mpr ⟨fun _ => fk_3_2 ini, List.forall_mem_cons.mpr ⟨fun _ => fk_3_3 ini, List.forall_mem_cons.mpr ⟨fun _ => fk_3_4 ini, List.forall_mem_cons.mpr ⟨fun _ => fk_3_5 ini, List.forall_mem_cons.mpr ⟨fun _ => fk_3_6 ini, List.forall_mem_cons.mpr ⟨fun _ => fk_3_7 ini, List.forall_mem_cons.mpr ⟨fun _ => fk_3_8 ini, fun _ h => absurd h List.not_mem_nil⟩⟩⟩⟩⟩⟩⟩⟩⟩
theorem fj_3_ok : ∀ q ∈ fj_3, ∀ a, iv_okw "RuleGraph$Composition" true (a, q) := List.forall_mem_append.mpr ⟨fl_3_ok true, List.forall_mem_cons.mpr ⟨fun _ => fi_3_0, fun _ h => absurd h List.not_mem_nil⟩⟩
theorem fk_4_0 (ini : Bool) : iv_okw "RuleGraph$Demand" ini ((0, 0), .invokespecial 3, 0, 1, 343) := Or.inl ⟨rfl, by decide +kernel⟩
theorem fk_4_1 (ini : Bool) : iv_okw "RuleGraph$Demand" ini ((0, 0), .getfield 9, 4, 0, 344) := ⟨_, rfl, by decide, Or.inl (by decide +kernel)⟩
theorem fk_4_2 (ini : Bool) : iv_okw "RuleGraph$Demand" ini ((0, 0), .getfield 15, 4, 1, 345) := ⟨_, rfl, by decide, Or.inl (by decide +kernel)⟩
theorem fk_4_3 (ini : Bool) : iv_okw "RuleGraph$Demand" ini ((0, 0), .getfield 18, 4, 2, 346) := ⟨_, rfl, by decide, Or.inl (by decide +kernel)⟩
theorem fi_4_0 : iv_okw "RuleGraph$Demand" true ((0, 0), .putfield 9, 4, 0, 344) := ⟨_, rfl, Or.inl ⟨by decide +kernel, Or.inr ⟨rfl, rfl, rfl⟩⟩⟩
theorem fi_4_1 : iv_okw "RuleGraph$Demand" true ((0, 0), .putfield 15, 4, 1, 345) := ⟨_, rfl, Or.inl ⟨by decide +kernel, Or.inr ⟨rfl, rfl, rfl⟩⟩⟩
theorem fi_4_2 : iv_okw "RuleGraph$Demand" true ((0, 0), .putfield 18, 4, 2, 346) := ⟨_, rfl, Or.inl ⟨by decide +kernel, Or.inr ⟨rfl, rfl, rfl⟩⟩⟩
def fl_4 : List (Instr × Nat × Nat × Nat) := [(.invokespecial 3, 0, 1, 343), (.getfield 9, 4, 0, 344), (.getfield 15, 4, 1, 345), (.getfield 18, 4, 2, 346)]
def fj_4 : List (Instr × Nat × Nat × Nat) := fl_4 ++ [(.putfield 9, 4, 0, 344), (.putfield 15, 4, 1, 345), (.putfield 18, 4, 2, 346)]
theorem fl_4_ok (ini : Bool) : ∀ q ∈ fl_4, ∀ a, iv_okw "RuleGraph$Demand" ini (a, q) := List.forall_mem_cons.mpr ⟨fun _ => fk_4_0 ini, List.forall_mem_cons.mpr ⟨fun _ => fk_4_1 ini, List.forall_mem_cons.mpr ⟨fun _ => fk_4_2 ini, List.forall_mem_cons.mpr ⟨fun _ => fk_4_3 ini, fun _ h => absurd h List.not_mem_nil⟩⟩⟩⟩
theorem fj_4_ok : ∀ q ∈ fj_4, ∀ a, iv_okw "RuleGraph$Demand" true (a, q) := List.forall_mem_append.mpr ⟨fl_4_ok true, List.forall_mem_cons.mpr ⟨fun _ => fi_4_0, List.forall_mem_cons.mpr ⟨fun _ => fi_4_1, List.forall_mem_cons.mpr ⟨fun _ => fi_4_2, fun _ h => absurd h List.not_mem_nil⟩⟩⟩⟩
theorem fk_5_0 (ini : Bool) : iv_okw "RuleGraph$Groups" ini ((0, 0), .invokespecial 3, 0, 1, 166) := Or.inl ⟨rfl, by decide +kernel⟩
theorem fk_5_1 (ini : Bool) : iv_okw "RuleGraph$Groups" ini ((0, 0), .newarray .int, 100, 0, 78) := ⟨rfl, by decide +kernel⟩
theorem fk_5_2 (ini : Bool) : iv_okw "RuleGraph$Groups" ini ((0, 0), .getfield 9, 5, 0, 169) := ⟨_, rfl, by decide, Or.inl (by decide +kernel)⟩
theorem fk_5_3 (ini : Bool) : iv_okw "RuleGraph$Groups" ini ((0, 0), .anewarray 15, 106, 0, 167) := ⟨"RuleGraph$Row", rfl, List.mem_of_getElem? (i := 57) (by decide +kernel), by decide +kernel⟩
theorem fk_5_4 (ini : Bool) : iv_okw "RuleGraph$Groups" ini ((0, 0), .getfield 17, 5, 1, 171) := ⟨_, rfl, by decide, Or.inl (by decide +kernel)⟩
theorem fk_5_5 (ini : Bool) : iv_okw "RuleGraph$Groups" ini ((0, 0), .new 15, 7, 0, 167) := ⟨_, rfl, by decide +kernel⟩
theorem fk_5_6 (ini : Bool) : iv_okw "RuleGraph$Groups" ini ((0, 0), .invokespecial 21, 94, 2, 168) := Or.inr ⟨by decide, cki_94, by decide +kernel, by decide +kernel⟩
theorem fk_5_7 (ini : Bool) : iv_okw "RuleGraph$Groups" ini ((0, 0), .invokevirtual 28, 84, 3, 405) := ⟨ckv_84, by decide +kernel, Or.inl (by decide +kernel)⟩
theorem fk_5_8 (ini : Bool) : iv_okw "RuleGraph$Groups" ini ((0, 0), .getfield 24, 5, 2, 173) := ⟨_, rfl, by decide, Or.inl (by decide +kernel)⟩
theorem fk_5_9 (ini : Bool) : iv_okw "RuleGraph$Groups" ini ((0, 0), .invokevirtual 32, 95, 2, 482) := ⟨ckv_95, by decide +kernel, Or.inl (by decide +kernel)⟩
theorem fk_5_10 (ini : Bool) : iv_okw "RuleGraph$Groups" ini ((0, 0), .getfield 36, 7, 1, 71) := ⟨_, rfl, by decide, Or.inl (by decide +kernel)⟩
theorem fk_5_11 (ini : Bool) : iv_okw "RuleGraph$Groups" ini ((0, 0), .getfield 40, 7, 0, 66) := ⟨_, rfl, by decide, Or.inl (by decide +kernel)⟩
theorem fk_5_12 (ini : Bool) : iv_okw "RuleGraph$Groups" ini ((0, 0), .invokevirtual 43, 86, 3, 483) := ⟨ckv_86, by decide +kernel, Or.inl (by decide +kernel)⟩
theorem fi_5_0 : iv_okw "RuleGraph$Groups" true ((0, 0), .putfield 9, 5, 0, 169) := ⟨_, rfl, Or.inl ⟨by decide +kernel, Or.inr ⟨rfl, rfl, rfl⟩⟩⟩
theorem fi_5_1 : iv_okw "RuleGraph$Groups" true ((0, 0), .putfield 17, 5, 1, 171) := ⟨_, rfl, Or.inl ⟨by decide +kernel, Or.inr ⟨rfl, rfl, rfl⟩⟩⟩
theorem fi_5_2 : iv_okw "RuleGraph$Groups" true ((0, 0), .putfield 24, 5, 2, 173) := ⟨_, rfl, Or.inl ⟨by decide +kernel, Or.inr ⟨rfl, rfl, rfl⟩⟩⟩
def fl_5 : List (Instr × Nat × Nat × Nat) := [(.invokespecial 3, 0, 1, 166), (.newarray .int, 100, 0, 78), (.getfield 9, 5, 0, 169), (.anewarray 15, 106, 0, 167), (.getfield 17, 5, 1, 171), (.new 15, 7, 0, 167), (.invokespecial 21, 94, 2, 168), (.invokevirtual 28, 84, 3, 405), (.getfield 24, 5, 2, 173), (.invokevirtual 32, 95, 2, 482), (.getfield 36, 7, 1, 71), (.getfield 40, 7, 0, 66), (.invokevirtual 43, 86, 3, 483)]
def fj_5 : List (Instr × Nat × Nat × Nat) := fl_5 ++ [(.putfield 9, 5, 0, 169), (.putfield 17, 5, 1, 171), (.putfield 24, 5, 2, 173)]
theorem fl_5_ok (ini : Bool) : ∀ q ∈ fl_5, ∀ a, iv_okw "RuleGraph$Groups" ini (a, q) := List.forall_mem_cons.mpr ⟨fun _ => fk_5_0 ini, List.forall_mem_cons.mpr ⟨fun _ => fk_5_1 ini, List.forall_mem_cons.mpr ⟨fun _ => fk_5_2 ini, List.forall_mem_cons.mpr ⟨fun _ => fk_5_3 ini, List.forall_mem_cons.mpr ⟨fun _ => fk_5_4 ini, List.forall_mem_cons.mpr ⟨fun _ => fk_5_5 ini, List.forall_mem_cons.mpr ⟨fun _ => fk_5_6 ini, List.forall_mem_cons.mpr ⟨fun _ => fk_5_7 ini, List.forall_mem_cons.mpr ⟨fun _ => fk_5_8 ini, List.forall_mem_cons.mpr ⟨fun _ => fk_5_9 ini, List.forall_mem_cons.mpr ⟨fun _ => fk_5_10 ini, List.forall_mem_cons.mpr ⟨fun _ => fk_5_11 ini, List.forall_mem_cons.mpr ⟨fun _ => fk_5_12 ini, fun _ h => absurd h List.not_mem_nil⟩⟩⟩⟩⟩⟩⟩⟩⟩⟩⟩⟩⟩
theorem fj_5_ok : ∀ q ∈ fj_5, ∀ a, iv_okw "RuleGraph$Groups" true (a, q) := List.forall_mem_append.mpr ⟨fl_5_ok true, List.forall_mem_cons.mpr ⟨fun _ => fi_5_0, List.forall_mem_cons.mpr ⟨fun _ => fi_5_1, List.forall_mem_cons.mpr ⟨fun _ => fi_5_2, fun _ h => absurd h List.not_mem_nil⟩⟩⟩⟩
theorem fk_6_0 (ini : Bool) : iv_okw "RuleGraph$Report" ini ((0, 0), .invokespecial 3, 0, 1, 211) := Or.inl ⟨rfl, by decide +kernel⟩
theorem fk_6_1 (ini : Bool) : iv_okw "RuleGraph$Report" ini ((0, 0), .putfield 9, 6, 0, 215) := ⟨_, rfl, Or.inl ⟨by decide +kernel, Or.inl rfl⟩⟩
theorem fk_6_2 (ini : Bool) : iv_okw "RuleGraph$Report" ini ((0, 0), .multianewarray 15 2, 103, 100, 212) := ⟨rfl, rfl, List.mem_of_getElem? (i := 80) (by decide +kernel), List.mem_of_getElem? (i := 78) (by decide +kernel), by decide +kernel⟩
theorem fk_6_3 (ini : Bool) : iv_okw "RuleGraph$Report" ini ((0, 0), .anewarray 20, 106, 0, 213) := ⟨"RuleGraph$Row", rfl, List.mem_of_getElem? (i := 57) (by decide +kernel), by decide +kernel⟩
theorem fk_6_4 (ini : Bool) : iv_okw "RuleGraph$Report" ini ((0, 0), .getfield 22, 6, 2, 220) := ⟨_, rfl, by decide, Or.inl (by decide +kernel)⟩
theorem fk_6_5 (ini : Bool) : iv_okw "RuleGraph$Report" ini ((0, 0), .new 20, 7, 0, 213) := ⟨_, rfl, by decide +kernel⟩
theorem fk_6_6 (ini : Bool) : iv_okw "RuleGraph$Report" ini ((0, 0), .invokespecial 26, 94, 2, 214) := Or.inr ⟨by decide, cki_94, by decide +kernel, by decide +kernel⟩
theorem fk_6_7 (ini : Bool) : iv_okw "RuleGraph$Report" ini ((0, 0), .newarray .char, 102, 0, 240) := ⟨rfl, by decide +kernel⟩
theorem fk_6_8 (ini : Bool) : iv_okw "RuleGraph$Report" ini ((0, 0), .putfield 37, 6, 5, 225) := ⟨_, rfl, Or.inl ⟨by decide +kernel, Or.inl rfl⟩⟩
theorem fk_6_9 (ini : Bool) : iv_okw "RuleGraph$Report" ini ((0, 0), .getfield 9, 6, 0, 215) := ⟨_, rfl, by decide, Or.inl (by decide +kernel)⟩
theorem fk_6_10 (ini : Bool) : iv_okw "RuleGraph$Report" ini ((0, 0), .getfield 17, 6, 1, 218) := ⟨_, rfl, by decide, Or.inl (by decide +kernel)⟩
theorem fk_6_11 (ini : Bool) : iv_okw "RuleGraph$Report" ini ((0, 0), .getfield 29, 6, 3, 221) := ⟨_, rfl, by decide, Or.inl (by decide +kernel)⟩
theorem fk_6_12 (ini : Bool) : iv_okw "RuleGraph$Report" ini ((0, 0), .getfield 40, 7, 1, 69) := ⟨_, rfl, by decide, Or.inl (by decide +kernel)⟩
theorem fk_6_13 (ini : Bool) : iv_okw "RuleGraph$Report" ini ((0, 0), .getfield 43, 7, 0, 64) := ⟨_, rfl, by decide, Or.inl (by decide +kernel)⟩
theorem fk_6_14 (ini : Bool) : iv_okw "RuleGraph$Report" ini ((0, 0), .putfield 40, 7, 1, 69) := ⟨_, rfl, Or.inl ⟨by decide +kernel, Or.inl rfl⟩⟩
theorem fk_6_15 (ini : Bool) : iv_okw "RuleGraph$Report" ini ((0, 0), .invokevirtual 47, 92, 3, 585) := ⟨ckv_92, by decide +kernel, Or.inl (by decide +kernel)⟩
theorem fk_6_16 (ini : Bool) : iv_okw "RuleGraph$Report" ini ((0, 0), .invokevirtual 51, 93, 2, 589) := ⟨ckv_93, by decide +kernel, Or.inl (by decide +kernel)⟩
theorem fk_6_17 (ini : Bool) : iv_okw "RuleGraph$Report" ini ((0, 0), .getfield 37, 6, 5, 225) := ⟨_, rfl, by decide, Or.inl (by decide +kernel)⟩
theorem fk_6_18 (ini : Bool) : iv_okw "RuleGraph$Report" ini ((0, 0), .getfield 33, 6, 4, 223) := ⟨_, rfl, by decide, Or.inl (by decide +kernel)⟩
theorem fi_6_0 : iv_okw "RuleGraph$Report" true ((0, 0), .putfield 17, 6, 1, 218) := ⟨_, rfl, Or.inl ⟨by decide +kernel, Or.inr ⟨rfl, rfl, rfl⟩⟩⟩
theorem fi_6_1 : iv_okw "RuleGraph$Report" true ((0, 0), .putfield 22, 6, 2, 220) := ⟨_, rfl, Or.inl ⟨by decide +kernel, Or.inr ⟨rfl, rfl, rfl⟩⟩⟩
theorem fi_6_2 : iv_okw "RuleGraph$Report" true ((0, 0), .putfield 29, 6, 3, 221) := ⟨_, rfl, Or.inl ⟨by decide +kernel, Or.inr ⟨rfl, rfl, rfl⟩⟩⟩
theorem fi_6_3 : iv_okw "RuleGraph$Report" true ((0, 0), .putfield 33, 6, 4, 223) := ⟨_, rfl, Or.inl ⟨by decide +kernel, Or.inr ⟨rfl, rfl, rfl⟩⟩⟩
def fl_6 : List (Instr × Nat × Nat × Nat) := [(.invokespecial 3, 0, 1, 211), (.putfield 9, 6, 0, 215), (.multianewarray 15 2, 103, 100, 212), (.anewarray 20, 106, 0, 213), (.getfield 22, 6, 2, 220), (.new 20, 7, 0, 213), (.invokespecial 26, 94, 2, 214), (.newarray .char, 102, 0, 240), (.putfield 37, 6, 5, 225), (.getfield 9, 6, 0, 215), (.getfield 17, 6, 1, 218), (.getfield 29, 6, 3, 221), (.getfield 40, 7, 1, 69), (.getfield 43, 7, 0, 64), (.putfield 40, 7, 1, 69), (.invokevirtual 47, 92, 3, 585), (.invokevirtual 51, 93, 2, 589), (.getfield 37, 6, 5, 225), (.getfield 33, 6, 4, 223)]
def fj_6 : List (Instr × Nat × Nat × Nat) := fl_6 ++ [(.putfield 17, 6, 1, 218), (.putfield 22, 6, 2, 220), (.putfield 29, 6, 3, 221), (.putfield 33, 6, 4, 223)]
theorem fl_6_ok (ini : Bool) : ∀ q ∈ fl_6, ∀ a, iv_okw "RuleGraph$Report" ini (a, q) := List.forall_mem_cons.mpr ⟨fun _ => fk_6_0 ini, List.forall_mem_cons.mpr ⟨fun _ => fk_6_1 ini, List.forall_mem_cons.mpr ⟨fun _ => fk_6_2 ini, List.forall_mem_cons.mpr ⟨fun _ => fk_6_3 ini, List.forall_mem_cons.mpr ⟨fun _ => fk_6_4 ini, List.forall_mem_cons.mpr ⟨fun _ => fk_6_5 ini, List.forall_mem_cons.mpr ⟨fun _ => fk_6_6 ini, List.forall_mem_cons.mpr ⟨fun _ => fk_6_7 ini, List.forall_mem_cons.mpr ⟨fun _ => fk_6_8 ini, List.forall_mem_cons.mpr ⟨fun _ => fk_6_9 ini, List.forall_mem_cons.mpr ⟨fun _ => fk_6_10 ini, List.forall_mem_cons.mpr ⟨fun _ => fk_6_11 ini, List.forall_mem_cons.mpr ⟨fun _ => fk_6_12 ini, List.forall_mem_cons.mpr ⟨fun _ => fk_6_13 ini, List.forall_mem_cons.mpr ⟨fun _ => fk_6_14 ini, List.forall_mem_cons.mpr ⟨fun _ => fk_6_15 ini, List.forall_mem_cons.mpr ⟨fun _ => fk_6_16 ini, List.forall_mem_cons.mpr ⟨fun _ => fk_6_17 ini, List.forall_mem_cons.mpr ⟨fun _ => fk_6_18 ini, fun _ h => absurd h List.not_mem_nil⟩⟩⟩⟩⟩⟩⟩⟩⟩⟩⟩⟩⟩⟩⟩⟩⟩⟩⟩
theorem fj_6_ok : ∀ q ∈ fj_6, ∀ a, iv_okw "RuleGraph$Report" true (a, q) := List.forall_mem_append.mpr ⟨fl_6_ok true, List.forall_mem_cons.mpr ⟨fun _ => fi_6_0, List.forall_mem_cons.mpr ⟨fun _ => fi_6_1, List.forall_mem_cons.mpr ⟨fun _ => fi_6_2, List.forall_mem_cons.mpr ⟨fun _ => fi_6_3, fun _ h => absurd h List.not_mem_nil⟩⟩⟩⟩⟩
theorem fk_7_0 (ini : Bool) : iv_okw "RuleGraph$Row" ini ((0, 0), .invokespecial 1, 0, 1, 62) := Or.inl ⟨rfl, by decide +kernel⟩
theorem fk_7_1 (ini : Bool) : iv_okw "RuleGraph$Row" ini ((0, 0), .newarray .int, 100, 0, 78) := ⟨rfl, by decide +kernel⟩
theorem fk_7_2 (ini : Bool) : iv_okw "RuleGraph$Row" ini ((0, 0), .putfield 13, 7, 1, 68) := ⟨_, rfl, Or.inl ⟨by decide +kernel, Or.inl rfl⟩⟩
theorem fk_7_3 (ini : Bool) : iv_okw "RuleGraph$Row" ini ((0, 0), .getfield 13, 7, 1, 68) := ⟨_, rfl, by decide, Or.inl (by decide +kernel)⟩
theorem fk_7_4 (ini : Bool) : iv_okw "RuleGraph$Row" ini ((0, 0), .getfield 7, 7, 0, 63) := ⟨_, rfl, by decide, Or.inl (by decide +kernel)⟩
theorem fi_7_0 : iv_okw "RuleGraph$Row" true ((0, 0), .putfield 7, 7, 0, 63) := ⟨_, rfl, Or.inl ⟨by decide +kernel, Or.inr ⟨rfl, rfl, rfl⟩⟩⟩
def fl_7 : List (Instr × Nat × Nat × Nat) := [(.invokespecial 1, 0, 1, 62), (.newarray .int, 100, 0, 78), (.putfield 13, 7, 1, 68), (.getfield 13, 7, 1, 68), (.getfield 7, 7, 0, 63)]
def fj_7 : List (Instr × Nat × Nat × Nat) := fl_7 ++ [(.putfield 7, 7, 0, 63)]
theorem fl_7_ok (ini : Bool) : ∀ q ∈ fl_7, ∀ a, iv_okw "RuleGraph$Row" ini (a, q) := List.forall_mem_cons.mpr ⟨fun _ => fk_7_0 ini, List.forall_mem_cons.mpr ⟨fun _ => fk_7_1 ini, List.forall_mem_cons.mpr ⟨fun _ => fk_7_2 ini, List.forall_mem_cons.mpr ⟨fun _ => fk_7_3 ini, List.forall_mem_cons.mpr ⟨fun _ => fk_7_4 ini, fun _ h => absurd h List.not_mem_nil⟩⟩⟩⟩⟩
theorem fj_7_ok : ∀ q ∈ fj_7, ∀ a, iv_okw "RuleGraph$Row" true (a, q) := List.forall_mem_append.mpr ⟨fl_7_ok true, List.forall_mem_cons.mpr ⟨fun _ => fi_7_0, fun _ h => absurd h List.not_mem_nil⟩⟩
theorem fk_8_0 (ini : Bool) : iv_okw "RuleGraph$Rule" ini ((0, 0), .invokespecial 1, 0, 1, 362) := Or.inl ⟨rfl, by decide +kernel⟩
theorem fi_8_0 : iv_okw "RuleGraph$Rule" true ((0, 0), .putfield 7, 8, 0, 363) := ⟨_, rfl, Or.inl ⟨by decide +kernel, Or.inr ⟨rfl, rfl, rfl⟩⟩⟩
theorem fi_8_1 : iv_okw "RuleGraph$Rule" true ((0, 0), .putfield 13, 8, 1, 365) := ⟨_, rfl, Or.inl ⟨by decide +kernel, Or.inr ⟨rfl, rfl, rfl⟩⟩⟩
theorem fi_8_2 : iv_okw "RuleGraph$Rule" true ((0, 0), .putfield 17, 8, 2, 367) := ⟨_, rfl, Or.inl ⟨by decide +kernel, Or.inr ⟨rfl, rfl, rfl⟩⟩⟩
theorem fi_8_3 : iv_okw "RuleGraph$Rule" true ((0, 0), .putfield 21, 8, 3, 369) := ⟨_, rfl, Or.inl ⟨by decide +kernel, Or.inr ⟨rfl, rfl, rfl⟩⟩⟩
def fl_8 : List (Instr × Nat × Nat × Nat) := [(.invokespecial 1, 0, 1, 362)]
def fj_8 : List (Instr × Nat × Nat × Nat) := fl_8 ++ [(.putfield 7, 8, 0, 363), (.putfield 13, 8, 1, 365), (.putfield 17, 8, 2, 367), (.putfield 21, 8, 3, 369)]
theorem fl_8_ok (ini : Bool) : ∀ q ∈ fl_8, ∀ a, iv_okw "RuleGraph$Rule" ini (a, q) := List.forall_mem_cons.mpr ⟨fun _ => fk_8_0 ini, fun _ h => absurd h List.not_mem_nil⟩
theorem fj_8_ok : ∀ q ∈ fj_8, ∀ a, iv_okw "RuleGraph$Rule" true (a, q) := List.forall_mem_append.mpr ⟨fl_8_ok true, List.forall_mem_cons.mpr ⟨fun _ => fi_8_0, List.forall_mem_cons.mpr ⟨fun _ => fi_8_1, List.forall_mem_cons.mpr ⟨fun _ => fi_8_2, List.forall_mem_cons.mpr ⟨fun _ => fi_8_3, fun _ h => absurd h List.not_mem_nil⟩⟩⟩⟩⟩
theorem fk_9_0 (ini : Bool) : iv_okw "RuleGraph$Rulebook" ini ((0, 0), .invokespecial 3, 0, 1, 121) := Or.inl ⟨rfl, by decide +kernel⟩
theorem fk_9_1 (ini : Bool) : iv_okw "RuleGraph$Rulebook" ini ((0, 0), .anewarray 9, 107, 0, 122) := ⟨"RuleGraph$Rule", rfl, List.mem_of_getElem? (i := 123) (by decide +kernel), by decide +kernel⟩
theorem fk_9_2 (ini : Bool) : iv_okw "RuleGraph$Rulebook" ini ((0, 0), .putfield 17, 9, 1, 150) := ⟨_, rfl, Or.inl ⟨by decide +kernel, Or.inl rfl⟩⟩
theorem fk_9_3 (ini : Bool) : iv_okw "RuleGraph$Rulebook" ini ((0, 0), .anewarray 21, 104, 0, 124) := ⟨"RuleGraph$Composition", rfl, List.mem_of_getElem? (i := 125) (by decide +kernel), by decide +kernel⟩
theorem fk_9_4 (ini : Bool) : iv_okw "RuleGraph$Rulebook" ini ((0, 0), .getfield 23, 9, 2, 152) := ⟨_, rfl, by decide, Or.inl (by decide +kernel)⟩
theorem fk_9_5 (ini : Bool) : iv_okw "RuleGraph$Rulebook" ini ((0, 0), .new 21, 3, 0, 124) := ⟨_, rfl, by decide +kernel⟩
theorem fk_9_6 (ini : Bool) : iv_okw "RuleGraph$Rulebook" ini ((0, 0), .invokespecial 27, 75, 2, 127) := Or.inr ⟨by decide, cki_75, by decide +kernel, by decide +kernel⟩
theorem fk_9_7 (ini : Bool) : iv_okw "RuleGraph$Rulebook" ini ((0, 0), .invokevirtual 30, 76, 4, 335) := ⟨ckv_76, by decide +kernel, Or.inl (by decide +kernel)⟩
theorem fk_9_8 (ini : Bool) : iv_okw "RuleGraph$Rulebook" ini ((0, 0), .putfield 34, 3, 2, 138) := ⟨_, rfl, Or.inl ⟨by decide +kernel, Or.inl rfl⟩⟩
theorem fk_9_9 (ini : Bool) : iv_okw "RuleGraph$Rulebook" ini ((0, 0), .getfield 17, 9, 1, 150) := ⟨_, rfl, by decide, Or.inl (by decide +kernel)⟩
theorem fk_9_10 (ini : Bool) : iv_okw "RuleGraph$Rulebook" ini ((0, 0), .getfield 11, 9, 0, 148) := ⟨_, rfl, by decide, Or.inl (by decide +kernel)⟩
theorem fk_9_11 (ini : Bool) : iv_okw "RuleGraph$Rulebook" ini ((0, 0), .new 9, 8, 0, 122) := ⟨_, rfl, by decide +kernel⟩
theorem fk_9_12 (ini : Bool) : iv_okw "RuleGraph$Rulebook" ini ((0, 0), .invokespecial 38, 96, 5, 359) := Or.inr ⟨by decide, cki_96, by decide +kernel, by decide +kernel⟩
theorem fi_9_0 : iv_okw "RuleGraph$Rulebook" true ((0, 0), .putfield 11, 9, 0, 148) := ⟨_, rfl, Or.inl ⟨by decide +kernel, Or.inr ⟨rfl, rfl, rfl⟩⟩⟩
theorem fi_9_1 : iv_okw "RuleGraph$Rulebook" true ((0, 0), .putfield 23, 9, 2, 152) := ⟨_, rfl, Or.inl ⟨by decide +kernel, Or.inr ⟨rfl, rfl, rfl⟩⟩⟩
def fl_9 : List (Instr × Nat × Nat × Nat) := [(.invokespecial 3, 0, 1, 121), (.anewarray 9, 107, 0, 122), (.putfield 17, 9, 1, 150), (.anewarray 21, 104, 0, 124), (.getfield 23, 9, 2, 152), (.new 21, 3, 0, 124), (.invokespecial 27, 75, 2, 127), (.invokevirtual 30, 76, 4, 335), (.putfield 34, 3, 2, 138), (.getfield 17, 9, 1, 150), (.getfield 11, 9, 0, 148), (.new 9, 8, 0, 122), (.invokespecial 38, 96, 5, 359)]
def fj_9 : List (Instr × Nat × Nat × Nat) := fl_9 ++ [(.putfield 11, 9, 0, 148), (.putfield 23, 9, 2, 152)]
theorem fl_9_ok (ini : Bool) : ∀ q ∈ fl_9, ∀ a, iv_okw "RuleGraph$Rulebook" ini (a, q) := List.forall_mem_cons.mpr ⟨fun _ => fk_9_0 ini, List.forall_mem_cons.mpr ⟨fun _ => fk_9_1 ini, List.forall_mem_cons.mpr ⟨fun _ => fk_9_2 ini, List.forall_mem_cons.mpr ⟨fun _ => fk_9_3 ini, List.forall_mem_cons.mpr ⟨fun _ => fk_9_4 ini, List.forall_mem_cons.mpr ⟨fun _ => fk_9_5 ini, List.forall_mem_cons.mpr ⟨fun _ => fk_9_6 ini, List.forall_mem_cons.mpr ⟨fun _ => fk_9_7 ini, List.forall_mem_cons.mpr ⟨fun _ => fk_9_8 ini, List.forall_mem_cons.mpr ⟨fun _ => fk_9_9 ini, List.forall_mem_cons.mpr ⟨fun _ => fk_9_10 ini, List.forall_mem_cons.mpr ⟨fun _ => fk_9_11 ini, List.forall_mem_cons.mpr ⟨fun _ => fk_9_12 ini, fun _ h => absurd h List.not_mem_nil⟩⟩⟩⟩⟩⟩⟩⟩⟩⟩⟩⟩⟩
theorem fj_9_ok : ∀ q ∈ fj_9, ∀ a, iv_okw "RuleGraph$Rulebook" true (a, q) := List.forall_mem_append.mpr ⟨fl_9_ok true, List.forall_mem_cons.mpr ⟨fun _ => fi_9_0, List.forall_mem_cons.mpr ⟨fun _ => fi_9_1, fun _ h => absurd h List.not_mem_nil⟩⟩⟩
theorem fk_10_0 (ini : Bool) : iv_okw "RuleGraph$Shape" ini ((0, 0), .invokespecial 3, 0, 1, 55) := Or.inl ⟨rfl, by decide +kernel⟩
theorem fk_10_1 (ini : Bool) : iv_okw "RuleGraph$Shape" ini ((0, 0), .putfield 9, 10, 0, 81) := ⟨_, rfl, Or.inl ⟨by decide +kernel, Or.inl rfl⟩⟩
theorem fk_10_2 (ini : Bool) : iv_okw "RuleGraph$Shape" ini ((0, 0), .newarray .int, 100, 0, 78) := ⟨rfl, by decide +kernel⟩
theorem fk_10_3 (ini : Bool) : iv_okw "RuleGraph$Shape" ini ((0, 0), .anewarray 19, 106, 0, 56) := ⟨"RuleGraph$Row", rfl, List.mem_of_getElem? (i := 57) (by decide +kernel), by decide +kernel⟩
theorem fk_10_4 (ini : Bool) : iv_okw "RuleGraph$Shape" ini ((0, 0), .getfield 21, 10, 2, 83) := ⟨_, rfl, by decide, Or.inl (by decide +kernel)⟩
theorem fk_10_5 (ini : Bool) : iv_okw "RuleGraph$Shape" ini ((0, 0), .new 19, 7, 0, 56) := ⟨_, rfl, by decide +kernel⟩
theorem fk_10_6 (ini : Bool) : iv_okw "RuleGraph$Shape" ini ((0, 0), .invokespecial 25, 94, 2, 59) := Or.inr ⟨by decide, cki_94, by decide +kernel, by decide +kernel⟩
theorem fk_10_7 (ini : Bool) : iv_okw "RuleGraph$Shape" ini ((0, 0), .putfield 28, 10, 3, 86) := ⟨_, rfl, Or.inl ⟨by decide +kernel, Or.inl rfl⟩⟩
theorem fk_10_8 (ini : Bool) : iv_okw "RuleGraph$Shape" ini ((0, 0), .newarray .boolean, 101, 0, 115) := ⟨rfl, by decide +kernel⟩
theorem fk_10_9 (ini : Bool) : iv_okw "RuleGraph$Shape" ini ((0, 0), .multianewarray 41 2, 103, 100, 79) := ⟨rfl, rfl, List.mem_of_getElem? (i := 80) (by decide +kernel), List.mem_of_getElem? (i := 78) (by decide +kernel), by decide +kernel⟩
theorem fk_10_10 (ini : Bool) : iv_okw "RuleGraph$Shape" ini ((0, 0), .getfield 9, 10, 0, 81) := ⟨_, rfl, by decide, Or.inl (by decide +kernel)⟩
theorem fk_10_11 (ini : Bool) : iv_okw "RuleGraph$Shape" ini ((0, 0), .getfield 28, 10, 3, 86) := ⟨_, rfl, by decide, Or.inl (by decide +kernel)⟩
theorem fk_10_12 (ini : Bool) : iv_okw "RuleGraph$Shape" ini ((0, 0), .getfield 34, 10, 5, 89) := ⟨_, rfl, by decide, Or.inl (by decide +kernel)⟩
theorem fk_10_13 (ini : Bool) : iv_okw "RuleGraph$Shape" ini ((0, 0), .getfield 15, 10, 1, 82) := ⟨_, rfl, by decide, Or.inl (by decide +kernel)⟩
theorem fk_10_14 (ini : Bool) : iv_okw "RuleGraph$Shape" ini ((0, 0), .getfield 31, 10, 4, 88) := ⟨_, rfl, by decide, Or.inl (by decide +kernel)⟩
theorem fk_10_15 (ini : Bool) : iv_okw "RuleGraph$Shape" ini ((0, 0), .invokevirtual 46, 106, 3, 504) := ⟨ckv_106, by decide +kernel, Or.inl (by decide +kernel)⟩
theorem fk_10_16 (ini : Bool) : iv_okw "RuleGraph$Shape" ini ((0, 0), .getfield 43, 10, 7, 95) := ⟨_, rfl, by decide, Or.inl (by decide +kernel)⟩
theorem fi_10_0 : iv_okw "RuleGraph$Shape" true ((0, 0), .putfield 15, 10, 1, 82) := ⟨_, rfl, Or.inl ⟨by decide +kernel, Or.inr ⟨rfl, rfl, rfl⟩⟩⟩
theorem fi_10_1 : iv_okw "RuleGraph$Shape" true ((0, 0), .putfield 21, 10, 2, 83) := ⟨_, rfl, Or.inl ⟨by decide +kernel, Or.inr ⟨rfl, rfl, rfl⟩⟩⟩
theorem fi_10_2 : iv_okw "RuleGraph$Shape" true ((0, 0), .putfield 31, 10, 4, 88) := ⟨_, rfl, Or.inl ⟨by decide +kernel, Or.inr ⟨rfl, rfl, rfl⟩⟩⟩
theorem fi_10_3 : iv_okw "RuleGraph$Shape" true ((0, 0), .putfield 34, 10, 5, 89) := ⟨_, rfl, Or.inl ⟨by decide +kernel, Or.inr ⟨rfl, rfl, rfl⟩⟩⟩
theorem fi_10_4 : iv_okw "RuleGraph$Shape" true ((0, 0), .putfield 37, 10, 6, 92) := ⟨_, rfl, Or.inl ⟨by decide +kernel, Or.inr ⟨rfl, rfl, rfl⟩⟩⟩
theorem fi_10_5 : iv_okw "RuleGraph$Shape" true ((0, 0), .putfield 43, 10, 7, 95) := ⟨_, rfl, Or.inl ⟨by decide +kernel, Or.inr ⟨rfl, rfl, rfl⟩⟩⟩
def fl_10 : List (Instr × Nat × Nat × Nat) := [(.invokespecial 3, 0, 1, 55), (.putfield 9, 10, 0, 81), (.newarray .int, 100, 0, 78), (.anewarray 19, 106, 0, 56), (.getfield 21, 10, 2, 83), (.new 19, 7, 0, 56), (.invokespecial 25, 94, 2, 59), (.putfield 28, 10, 3, 86), (.newarray .boolean, 101, 0, 115), (.multianewarray 41 2, 103, 100, 79), (.getfield 9, 10, 0, 81), (.getfield 28, 10, 3, 86), (.getfield 34, 10, 5, 89), (.getfield 15, 10, 1, 82), (.getfield 31, 10, 4, 88), (.invokevirtual 46, 106, 3, 504), (.getfield 43, 10, 7, 95)]
def fj_10 : List (Instr × Nat × Nat × Nat) := fl_10 ++ [(.putfield 15, 10, 1, 82), (.putfield 21, 10, 2, 83), (.putfield 31, 10, 4, 88), (.putfield 34, 10, 5, 89), (.putfield 37, 10, 6, 92), (.putfield 43, 10, 7, 95)]
theorem fl_10_ok (ini : Bool) : ∀ q ∈ fl_10, ∀ a, iv_okw "RuleGraph$Shape" ini (a, q) := List.forall_mem_cons.mpr ⟨fun _ => fk_10_0 ini, List.forall_mem_cons.mpr ⟨fun _ => fk_10_1 ini, List.forall_mem_cons.mpr ⟨fun _ => fk_10_2 ini, List.forall_mem_cons.mpr ⟨fun _ => fk_10_3 ini, List.forall_mem_cons.mpr ⟨fun _ => fk_10_4 ini, List.forall_mem_cons.mpr ⟨fun _ => fk_10_5 ini, List.forall_mem_cons.mpr ⟨fun _ => fk_10_6 ini, List.forall_mem_cons.mpr ⟨fun _ => fk_10_7 ini, List.forall_mem_cons.mpr ⟨fun _ => fk_10_8 ini, List.forall_mem_cons.mpr ⟨fun _ => fk_10_9 ini, List.forall_mem_cons.mpr ⟨fun _ => fk_10_10 ini, List.forall_mem_cons.mpr ⟨fun _ => fk_10_11 ini, List.forall_mem_cons.mpr ⟨fun _ => fk_10_12 ini, List.forall_mem_cons.mpr ⟨fun _ => fk_10_13 ini, List.forall_mem_cons.mpr ⟨fun _ => fk_10_14 ini, List.forall_mem_cons.mpr ⟨fun _ => fk_10_15 ini, List.forall_mem_cons.mpr ⟨fun _ => fk_10_16 ini, fun _ h => absurd h List.not_mem_nil⟩⟩⟩⟩⟩⟩⟩⟩⟩⟩⟩⟩⟩⟩⟩⟩⟩
theorem fj_10_ok : ∀ q ∈ fj_10, ∀ a, iv_okw "RuleGraph$Shape" true (a, q) := List.forall_mem_append.mpr ⟨fl_10_ok true, List.forall_mem_cons.mpr ⟨fun _ => fi_10_0, List.forall_mem_cons.mpr ⟨fun _ => fi_10_1, List.forall_mem_cons.mpr ⟨fun _ => fi_10_2, List.forall_mem_cons.mpr ⟨fun _ => fi_10_3, List.forall_mem_cons.mpr ⟨fun _ => fi_10_4, List.forall_mem_cons.mpr ⟨fun _ => fi_10_5, fun _ h => absurd h List.not_mem_nil⟩⟩⟩⟩⟩⟩⟩
theorem fk_11_0 (ini : Bool) : iv_okw "RuleGraph$Store" ini ((0, 0), .invokespecial 3, 0, 1, 187) := Or.inl ⟨rfl, by decide +kernel⟩
theorem fk_11_1 (ini : Bool) : iv_okw "RuleGraph$Store" ini ((0, 0), .putfield 9, 11, 0, 189) := ⟨_, rfl, Or.inl ⟨by decide +kernel, Or.inl rfl⟩⟩
theorem fk_11_2 (ini : Bool) : iv_okw "RuleGraph$Store" ini ((0, 0), .newarray .int, 100, 0, 78) := ⟨rfl, by decide +kernel⟩
theorem fk_11_3 (ini : Bool) : iv_okw "RuleGraph$Store" ini ((0, 0), .multianewarray 19 2, 103, 100, 188) := ⟨rfl, rfl, List.mem_of_getElem? (i := 80) (by decide +kernel), List.mem_of_getElem? (i := 78) (by decide +kernel), by decide +kernel⟩
theorem fk_11_4 (ini : Bool) : iv_okw "RuleGraph$Store" ini ((0, 0), .getfield 9, 11, 0, 189) := ⟨_, rfl, by decide, Or.inl (by decide +kernel)⟩
theorem fk_11_5 (ini : Bool) : iv_okw "RuleGraph$Store" ini ((0, 0), .getfield 21, 11, 2, 193) := ⟨_, rfl, by decide, Or.inl (by decide +kernel)⟩
theorem fk_11_6 (ini : Bool) : iv_okw "RuleGraph$Store" ini ((0, 0), .getfield 15, 11, 1, 190) := ⟨_, rfl, by decide, Or.inl (by decide +kernel)⟩
theorem fk_11_7 (ini : Bool) : iv_okw "RuleGraph$Store" ini ((0, 0), .getfield 24, 11, 3, 196) := ⟨_, rfl, by decide, Or.inl (by decide +kernel)⟩
theorem fi_11_0 : iv_okw "RuleGraph$Store" true ((0, 0), .putfield 15, 11, 1, 190) := ⟨_, rfl, Or.inl ⟨by decide +kernel, Or.inr ⟨rfl, rfl, rfl⟩⟩⟩
theorem fi_11_1 : iv_okw "RuleGraph$Store" true ((0, 0), .putfield 21, 11, 2, 193) := ⟨_, rfl, Or.inl ⟨by decide +kernel, Or.inr ⟨rfl, rfl, rfl⟩⟩⟩
theorem fi_11_2 : iv_okw "RuleGraph$Store" true ((0, 0), .putfield 24, 11, 3, 196) := ⟨_, rfl, Or.inl ⟨by decide +kernel, Or.inr ⟨rfl, rfl, rfl⟩⟩⟩
def fl_11 : List (Instr × Nat × Nat × Nat) := [(.invokespecial 3, 0, 1, 187), (.putfield 9, 11, 0, 189), (.newarray .int, 100, 0, 78), (.multianewarray 19 2, 103, 100, 188), (.getfield 9, 11, 0, 189), (.getfield 21, 11, 2, 193), (.getfield 15, 11, 1, 190), (.getfield 24, 11, 3, 196)]
def fj_11 : List (Instr × Nat × Nat × Nat) := fl_11 ++ [(.putfield 15, 11, 1, 190), (.putfield 21, 11, 2, 193), (.putfield 24, 11, 3, 196)]
theorem fl_11_ok (ini : Bool) : ∀ q ∈ fl_11, ∀ a, iv_okw "RuleGraph$Store" ini (a, q) := List.forall_mem_cons.mpr ⟨fun _ => fk_11_0 ini, List.forall_mem_cons.mpr ⟨fun _ => fk_11_1 ini, List.forall_mem_cons.mpr ⟨fun _ => fk_11_2 ini, List.forall_mem_cons.mpr ⟨fun _ => fk_11_3 ini, List.forall_mem_cons.mpr ⟨fun _ => fk_11_4 ini, List.forall_mem_cons.mpr ⟨fun _ => fk_11_5 ini, List.forall_mem_cons.mpr ⟨fun _ => fk_11_6 ini, List.forall_mem_cons.mpr ⟨fun _ => fk_11_7 ini, fun _ h => absurd h List.not_mem_nil⟩⟩⟩⟩⟩⟩⟩⟩
theorem fj_11_ok : ∀ q ∈ fj_11, ∀ a, iv_okw "RuleGraph$Store" true (a, q) := List.forall_mem_append.mpr ⟨fl_11_ok true, List.forall_mem_cons.mpr ⟨fun _ => fi_11_0, List.forall_mem_cons.mpr ⟨fun _ => fi_11_1, List.forall_mem_cons.mpr ⟨fun _ => fi_11_2, fun _ h => absurd h List.not_mem_nil⟩⟩⟩⟩
end
section
/-! each method's rows hold -/
def iv_okm (x : Nat) (code : List iv_I) : Prop := (∀ J, code[0]? = some J → J.1.1 = 0) ∧ ∀ (k : Nat) (I : iv_I), code[k]? = some I → decode (iv_N x).2 I.1.1 = .ok (I.2.1, I.1.2) ∧ iv_okb code k I = true ∧ iv_okw (iv_N x).1.cls (decide ((iv_N x).1.name = "<init>")) I
theorem iv_okm_of {x : Nat} {code : List iv_I} {fl : List (Instr × Nat × Nat × Nat)} {own : String} {ini : Bool} {cc : ByteArray} (e1 : (iv_N x).2 = cc) (e2 : (iv_N x).1.cls = own) (e3 : decide ((iv_N x).1.name = "<init>") = ini) (h0 : ∀ J, code[0]? = some J → J.1.1 = 0) (hf : ∀ q ∈ fl, ∀ a, iv_okw own ini (a, q)) (h : iv_chk cc code fl 0 code = true) : iv_okm x code := by
  subst e1; subst e2; subst e3
  refine ⟨h0, fun k I hI => ?_⟩
  have h5 := iv_chk_of hf code 0 h k I hI
  rw [Nat.zero_add] at h5
  exact h5
theorem ok_2 : iv_okm 2 mc_2 := iv_okm_of (fl := fj_0) rfl rfl (by decide +kernel) (fun J h => by cases h; rfl) fj_0_ok (by decide +kernel)
theorem ok_3 : iv_okm 3 mc_3 := iv_okm_of (fl := fl_0) rfl rfl (by decide +kernel) (fun J h => by cases h; rfl) (fl_0_ok false) (by decide +kernel)
theorem ok_4 : iv_okm 4 mc_4 := iv_okm_of (fl := fl_0) rfl rfl (by decide +kernel) (fun J h => by cases h; rfl) (fl_0_ok false) (by decide +kernel)
theorem ok_5 : iv_okm 5 mc_5 := iv_okm_of (fl := fl_0) rfl rfl (by decide +kernel) (fun J h => by cases h; rfl) (fl_0_ok false) (by decide +kernel)
theorem ok_6 : iv_okm 6 mc_6 := iv_okm_of (fl := fl_0) rfl rfl (by decide +kernel) (fun J h => by cases h; rfl) (fl_0_ok false) (by decide +kernel)
theorem ok_7 : iv_okm 7 mc_7 := iv_okm_of (fl := fl_0) rfl rfl (by decide +kernel) (fun J h => by cases h; rfl) (fl_0_ok false) (by decide +kernel)
theorem ok_8 : iv_okm 8 mc_8 := iv_okm_of (fl := fl_0) rfl rfl (by decide +kernel) (fun J h => by cases h; rfl) (fl_0_ok false) (by decide +kernel)
theorem ok_9 : iv_okm 9 mc_9 := iv_okm_of (fl := fl_0) rfl rfl (by decide +kernel) (fun J h => by cases h; rfl) (fl_0_ok false) (by decide +kernel)
theorem ok_10 : iv_okm 10 mc_10 := iv_okm_of (fl := fl_0) rfl rfl (by decide +kernel) (fun J h => by cases h; rfl) (fl_0_ok false) (by decide +kernel)
theorem ok_11 : iv_okm 11 mc_11 := iv_okm_of (fl := fl_0) rfl rfl (by decide +kernel) (fun J h => by cases h; rfl) (fl_0_ok false) (by decide +kernel)
theorem ok_12 : iv_okm 12 mc_12 := iv_okm_of (fl := fl_0) rfl rfl (by decide +kernel) (fun J h => by cases h; rfl) (fl_0_ok false) (by decide +kernel)
theorem ok_13 : iv_okm 13 mc_13 := iv_okm_of (fl := fl_0) rfl rfl (by decide +kernel) (fun J h => by cases h; rfl) (fl_0_ok false) (by decide +kernel)
theorem ok_14 : iv_okm 14 mc_14 := iv_okm_of (fl := fl_0) rfl rfl (by decide +kernel) (fun J h => by cases h; rfl) (fl_0_ok false) (by decide +kernel)
theorem ok_15 : iv_okm 15 mc_15 := iv_okm_of (fl := fl_0) rfl rfl (by decide +kernel) (fun J h => by cases h; rfl) (fl_0_ok false) (by decide +kernel)
theorem ok_16 : iv_okm 16 mc_16 := iv_okm_of (fl := fl_0) rfl rfl (by decide +kernel) (fun J h => by cases h; rfl) (fl_0_ok false) (by decide +kernel)
theorem ok_17 : iv_okm 17 mc_17 := iv_okm_of (fl := fl_0) rfl rfl (by decide +kernel) (fun J h => by cases h; rfl) (fl_0_ok false) (by decide +kernel)
theorem ok_18 : iv_okm 18 mc_18 := iv_okm_of (fl := fl_0) rfl rfl (by decide +kernel) (fun J h => by cases h; rfl) (fl_0_ok false) (by decide +kernel)
theorem ok_19 : iv_okm 19 mc_19 := iv_okm_of (fl := fl_0) rfl rfl (by decide +kernel) (fun J h => by cases h; rfl) (fl_0_ok false) (by decide +kernel)
theorem ok_20 : iv_okm 20 mc_20 := iv_okm_of (fl := fl_0) rfl rfl (by decide +kernel) (fun J h => by cases h; rfl) (fl_0_ok false) (by decide +kernel)
theorem ok_21 : iv_okm 21 mc_21 := iv_okm_of (fl := fl_0) rfl rfl (by decide +kernel) (fun J h => by cases h; rfl) (fl_0_ok false) (by decide +kernel)
theorem ok_22 : iv_okm 22 mc_22 := iv_okm_of (fl := fl_0) rfl rfl (by decide +kernel) (fun J h => by cases h; rfl) (fl_0_ok false) (by decide +kernel)
theorem ok_23 : iv_okm 23 mc_23 := iv_okm_of (fl := fl_0) rfl rfl (by decide +kernel) (fun J h => by cases h; rfl) (fl_0_ok false) (by decide +kernel)
theorem ok_24 : iv_okm 24 mc_24 := iv_okm_of (fl := fj_1) rfl rfl (by decide +kernel) (fun J h => by cases h; rfl) fj_1_ok (by decide +kernel)
end
section
theorem ok_25 : iv_okm 25 mc_25 := iv_okm_of (fl := fl_1) rfl rfl (by decide +kernel) (fun J h => by cases h; rfl) (fl_1_ok false) (by decide +kernel)
theorem ok_26 : iv_okm 26 mc_26 := iv_okm_of (fl := fl_1) rfl rfl (by decide +kernel) (fun J h => by cases h; rfl) (fl_1_ok false) (by decide +kernel)
theorem ok_27 : iv_okm 27 mc_27 := iv_okm_of (fl := fl_1) rfl rfl (by decide +kernel) (fun J h => by cases h; rfl) (fl_1_ok false) (by decide +kernel)
theorem ok_28 : iv_okm 28 mc_28 := iv_okm_of (fl := fl_1) rfl rfl (by decide +kernel) (fun J h => by cases h; rfl) (fl_1_ok false) (by decide +kernel)
theorem ok_29 : iv_okm 29 mc_29 := iv_okm_of (fl := fl_1) rfl rfl (by decide +kernel) (fun J h => by cases h; rfl) (fl_1_ok false) (by decide +kernel)
theorem ok_30 : iv_okm 30 mc_30 := iv_okm_of (fl := fl_1) rfl rfl (by decide +kernel) (fun J h => by cases h; rfl) (fl_1_ok false) (by decide +kernel)
theorem ok_31 : iv_okm 31 mc_31 := iv_okm_of (fl := fl_1) rfl rfl (by decide +kernel) (fun J h => by cases h; rfl) (fl_1_ok false) (by decide +kernel)
theorem ok_32 : iv_okm 32 mc_32 := iv_okm_of (fl := fl_1) rfl rfl (by decide +kernel) (fun J h => by cases h; rfl) (fl_1_ok false) (by decide +kernel)
theorem ok_33 : iv_okm 33 mc_33 := iv_okm_of (fl := fl_1) rfl rfl (by decide +kernel) (fun J h => by cases h; rfl) (fl_1_ok false) (by decide +kernel)
theorem ok_34 : iv_okm 34 mc_34 := iv_okm_of (fl := fl_1) rfl rfl (by decide +kernel) (fun J h => by cases h; rfl) (fl_1_ok false) (by decide +kernel)
theorem ok_35 : iv_okm 35 mc_35 := iv_okm_of (fl := fl_1) rfl rfl (by decide +kernel) (fun J h => by cases h; rfl) (fl_1_ok false) (by decide +kernel)
theorem ok_36 : iv_okm 36 mc_36 := iv_okm_of (fl := fl_1) rfl rfl (by decide +kernel) (fun J h => by cases h; rfl) (fl_1_ok false) (by decide +kernel)
theorem ok_37 : iv_okm 37 mc_37 := iv_okm_of (fl := fl_1) rfl rfl (by decide +kernel) (fun J h => by cases h; rfl) (fl_1_ok false) (by decide +kernel)
theorem ok_38 : iv_okm 38 mc_38 := iv_okm_of (fl := fl_1) rfl rfl (by decide +kernel) (fun J h => by cases h; rfl) (fl_1_ok false) (by decide +kernel)
theorem ok_39 : iv_okm 39 mc_39 := iv_okm_of (fl := fl_1) rfl rfl (by decide +kernel) (fun J h => by cases h; rfl) (fl_1_ok false) (by decide +kernel)
theorem ok_40 : iv_okm 40 mc_40 := iv_okm_of (fl := fl_1) rfl rfl (by decide +kernel) (fun J h => by cases h; rfl) (fl_1_ok false) (by decide +kernel)
theorem ok_41 : iv_okm 41 mc_41 := iv_okm_of (fl := fl_1) rfl rfl (by decide +kernel) (fun J h => by cases h; rfl) (fl_1_ok false) (by decide +kernel)
theorem ok_42 : iv_okm 42 mc_42 := iv_okm_of (fl := fl_1) rfl rfl (by decide +kernel) (fun J h => by cases h; rfl) (fl_1_ok false) (by decide +kernel)
end
section
theorem ok_43 : iv_okm 43 mc_43 := iv_okm_of (fl := fl_1) rfl rfl (by decide +kernel) (fun J h => by cases h; rfl) (fl_1_ok false) (by decide +kernel)
theorem ok_44 : iv_okm 44 mc_44 := iv_okm_of (fl := fl_1) rfl rfl (by decide +kernel) (fun J h => by cases h; rfl) (fl_1_ok false) (by decide +kernel)
theorem ok_45 : iv_okm 45 mc_45 := iv_okm_of (fl := fl_1) rfl rfl (by decide +kernel) (fun J h => by cases h; rfl) (fl_1_ok false) (by decide +kernel)
theorem ok_46 : iv_okm 46 mc_46 := iv_okm_of (fl := fl_1) rfl rfl (by decide +kernel) (fun J h => by cases h; rfl) (fl_1_ok false) (by decide +kernel)
theorem ok_47 : iv_okm 47 mc_47 := iv_okm_of (fl := fl_1) rfl rfl (by decide +kernel) (fun J h => by cases h; rfl) (fl_1_ok false) (by decide +kernel)
theorem ok_48 : iv_okm 48 mc_48 := iv_okm_of (fl := fl_1) rfl rfl (by decide +kernel) (fun J h => by cases h; rfl) (fl_1_ok false) (by decide +kernel)
theorem ok_49 : iv_okm 49 mc_49 := iv_okm_of (fl := fl_1) rfl rfl (by decide +kernel) (fun J h => by cases h; rfl) (fl_1_ok false) (by decide +kernel)
theorem ok_50 : iv_okm 50 mc_50 := iv_okm_of (fl := fl_1) rfl rfl (by decide +kernel) (fun J h => by cases h; rfl) (fl_1_ok false) (by decide +kernel)
end
section
theorem ok_51 : iv_okm 51 mc_51 := iv_okm_of (fl := fl_1) rfl rfl (by decide +kernel) (fun J h => by cases h; rfl) (fl_1_ok false) (by decide +kernel)
theorem ok_52 : iv_okm 52 mc_52 := iv_okm_of (fl := fl_1) rfl rfl (by decide +kernel) (fun J h => by cases h; rfl) (fl_1_ok false) (by decide +kernel)
theorem ok_53 : iv_okm 53 mc_53 := iv_okm_of (fl := fl_1) rfl rfl (by decide +kernel) (fun J h => by cases h; rfl) (fl_1_ok false) (by decide +kernel)
theorem ok_54 : iv_okm 54 mc_54 := iv_okm_of (fl := fl_1) rfl rfl (by decide +kernel) (fun J h => by cases h; rfl) (fl_1_ok false) (by decide +kernel)
theorem ok_55 : iv_okm 55 mc_55 := iv_okm_of (fl := fl_1) rfl rfl (by decide +kernel) (fun J h => by cases h; rfl) (fl_1_ok false) (by decide +kernel)
theorem ok_56 : iv_okm 56 mc_56 := iv_okm_of (fl := fl_1) rfl rfl (by decide +kernel) (fun J h => by cases h; rfl) (fl_1_ok false) (by decide +kernel)
theorem ok_57 : iv_okm 57 mc_57 := iv_okm_of (fl := fl_1) rfl rfl (by decide +kernel) (fun J h => by cases h; rfl) (fl_1_ok false) (by decide +kernel)
theorem ok_58 : iv_okm 58 mc_58 := iv_okm_of (fl := fl_1) rfl rfl (by decide +kernel) (fun J h => by cases h; rfl) (fl_1_ok false) (by decide +kernel)
theorem ok_59 : iv_okm 59 mc_59 := iv_okm_of (fl := fl_1) rfl rfl (by decide +kernel) (fun J h => by cases h; rfl) (fl_1_ok false) (by decide +kernel)
theorem ok_60 : iv_okm 60 mc_60 := iv_okm_of (fl := fl_1) rfl rfl (by decide +kernel) (fun J h => by cases h; rfl) (fl_1_ok false) (by decide +kernel)
theorem ok_61 : iv_okm 61 mc_61 := iv_okm_of (fl := fl_1) rfl rfl (by decide +kernel) (fun J h => by cases h; rfl) (fl_1_ok false) (by decide +kernel)
theorem ok_62 : iv_okm 62 mc_62 := iv_okm_of (fl := fl_1) rfl rfl (by decide +kernel) (fun J h => by cases h; rfl) (fl_1_ok false) (by decide +kernel)
theorem ok_63 : iv_okm 63 mc_63 := iv_okm_of (fl := fl_1) rfl rfl (by decide +kernel) (fun J h => by cases h; rfl) (fl_1_ok false) (by decide +kernel)
theorem ok_64 : iv_okm 64 mc_64 := iv_okm_of (fl := fj_2) rfl rfl (by decide +kernel) (fun J h => by cases h; rfl) fj_2_ok (by decide +kernel)
theorem ok_65 : iv_okm 65 mc_65 := iv_okm_of (fl := fl_2) rfl rfl (by decide +kernel) (fun J h => by cases h; rfl) (fl_2_ok false) (by decide +kernel)
end
section
theorem ok_66 : iv_okm 66 mc_66 := iv_okm_of (fl := fl_2) rfl rfl (by decide +kernel) (fun J h => by cases h; rfl) (fl_2_ok false) (by decide +kernel)
theorem ok_67 : iv_okm 67 mc_67 := iv_okm_of (fl := fl_2) rfl rfl (by decide +kernel) (fun J h => by cases h; rfl) (fl_2_ok false) (by decide +kernel)
theorem ok_68 : iv_okm 68 mc_68 := iv_okm_of (fl := fl_2) rfl rfl (by decide +kernel) (fun J h => by cases h; rfl) (fl_2_ok false) (by decide +kernel)
theorem ok_69 : iv_okm 69 mc_69 := iv_okm_of (fl := fl_2) rfl rfl (by decide +kernel) (fun J h => by cases h; rfl) (fl_2_ok false) (by decide +kernel)
theorem ok_70 : iv_okm 70 mc_70 := iv_okm_of (fl := fl_2) rfl rfl (by decide +kernel) (fun J h => by cases h; rfl) (fl_2_ok false) (by decide +kernel)
theorem ok_71 : iv_okm 71 mc_71 := iv_okm_of (fl := fl_2) rfl rfl (by decide +kernel) (fun J h => by cases h; rfl) (fl_2_ok false) (by decide +kernel)
theorem ok_72 : iv_okm 72 mc_72 := iv_okm_of (fl := fl_2) rfl rfl (by decide +kernel) (fun J h => by cases h; rfl) (fl_2_ok false) (by decide +kernel)
theorem ok_73 : iv_okm 73 mc_73 := iv_okm_of (fl := fl_2) rfl rfl (by decide +kernel) (fun J h => by cases h; rfl) (fl_2_ok false) (by decide +kernel)
theorem ok_74 : iv_okm 74 mc_74 := iv_okm_of (fl := fl_2) rfl rfl (by decide +kernel) (fun J h => by cases h; rfl) (fl_2_ok false) (by decide +kernel)
theorem ok_75 : iv_okm 75 mc_75 := iv_okm_of (fl := fj_3) rfl rfl (by decide +kernel) (fun J h => by cases h; rfl) fj_3_ok (by decide +kernel)
theorem ok_76 : iv_okm 76 mc_76 := iv_okm_of (fl := fl_3) rfl rfl (by decide +kernel) (fun J h => by cases h; rfl) (fl_3_ok false) (by decide +kernel)
theorem ok_77 : iv_okm 77 mc_77 := iv_okm_of (fl := fl_3) rfl rfl (by decide +kernel) (fun J h => by cases h; rfl) (fl_3_ok false) (by decide +kernel)
theorem ok_78 : iv_okm 78 mc_78 := iv_okm_of (fl := fj_4) rfl rfl (by decide +kernel) (fun J h => by cases h; rfl) fj_4_ok (by decide +kernel)
theorem ok_79 : iv_okm 79 mc_79 := iv_okm_of (fl := fl_4) rfl rfl (by decide +kernel) (fun J h => by cases h; rfl) (fl_4_ok false) (by decide +kernel)
theorem ok_80 : iv_okm 80 mc_80 := iv_okm_of (fl := fl_4) rfl rfl (by decide +kernel) (fun J h => by cases h; rfl) (fl_4_ok false) (by decide +kernel)
theorem ok_81 : iv_okm 81 mc_81 := iv_okm_of (fl := fj_5) rfl rfl (by decide +kernel) (fun J h => by cases h; rfl) fj_5_ok (by decide +kernel)
theorem ok_82 : iv_okm 82 mc_82 := iv_okm_of (fl := fl_5) rfl rfl (by decide +kernel) (fun J h => by cases h; rfl) (fl_5_ok false) (by decide +kernel)
theorem ok_83 : iv_okm 83 mc_83 := iv_okm_of (fl := fl_5) rfl rfl (by decide +kernel) (fun J h => by cases h; rfl) (fl_5_ok false) (by decide +kernel)
theorem ok_84 : iv_okm 84 mc_84 := iv_okm_of (fl := fl_5) rfl rfl (by decide +kernel) (fun J h => by cases h; rfl) (fl_5_ok false) (by decide +kernel)
theorem ok_85 : iv_okm 85 mc_85 := iv_okm_of (fl := fl_5) rfl rfl (by decide +kernel) (fun J h => by cases h; rfl) (fl_5_ok false) (by decide +kernel)
theorem ok_86 : iv_okm 86 mc_86 := iv_okm_of (fl := fl_5) rfl rfl (by decide +kernel) (fun J h => by cases h; rfl) (fl_5_ok false) (by decide +kernel)
end
section
theorem ok_87 : iv_okm 87 mc_87 := iv_okm_of (fl := fj_6) rfl rfl (by decide +kernel) (fun J h => by cases h; rfl) fj_6_ok (by decide +kernel)
theorem ok_88 : iv_okm 88 mc_88 := iv_okm_of (fl := fl_6) rfl rfl (by decide +kernel) (fun J h => by cases h; rfl) (fl_6_ok false) (by decide +kernel)
theorem ok_89 : iv_okm 89 mc_89 := iv_okm_of (fl := fl_6) rfl rfl (by decide +kernel) (fun J h => by cases h; rfl) (fl_6_ok false) (by decide +kernel)
theorem ok_90 : iv_okm 90 mc_90 := iv_okm_of (fl := fl_6) rfl rfl (by decide +kernel) (fun J h => by cases h; rfl) (fl_6_ok false) (by decide +kernel)
theorem ok_91 : iv_okm 91 mc_91 := iv_okm_of (fl := fl_6) rfl rfl (by decide +kernel) (fun J h => by cases h; rfl) (fl_6_ok false) (by decide +kernel)
theorem ok_92 : iv_okm 92 mc_92 := iv_okm_of (fl := fl_6) rfl rfl (by decide +kernel) (fun J h => by cases h; rfl) (fl_6_ok false) (by decide +kernel)
theorem ok_93 : iv_okm 93 mc_93 := iv_okm_of (fl := fl_6) rfl rfl (by decide +kernel) (fun J h => by cases h; rfl) (fl_6_ok false) (by decide +kernel)
theorem ok_94 : iv_okm 94 mc_94 := iv_okm_of (fl := fj_7) rfl rfl (by decide +kernel) (fun J h => by cases h; rfl) fj_7_ok (by decide +kernel)
theorem ok_95 : iv_okm 95 mc_95 := iv_okm_of (fl := fl_7) rfl rfl (by decide +kernel) (fun J h => by cases h; rfl) (fl_7_ok false) (by decide +kernel)
theorem ok_96 : iv_okm 96 mc_96 := iv_okm_of (fl := fj_8) rfl rfl (by decide +kernel) (fun J h => by cases h; rfl) fj_8_ok (by decide +kernel)
theorem ok_97 : iv_okm 97 mc_97 := iv_okm_of (fl := fj_9) rfl rfl (by decide +kernel) (fun J h => by cases h; rfl) fj_9_ok (by decide +kernel)
theorem ok_98 : iv_okm 98 mc_98 := iv_okm_of (fl := fl_9) rfl rfl (by decide +kernel) (fun J h => by cases h; rfl) (fl_9_ok false) (by decide +kernel)
theorem ok_99 : iv_okm 99 mc_99 := iv_okm_of (fl := fl_9) rfl rfl (by decide +kernel) (fun J h => by cases h; rfl) (fl_9_ok false) (by decide +kernel)
theorem ok_100 : iv_okm 100 mc_100 := iv_okm_of (fl := fl_9) rfl rfl (by decide +kernel) (fun J h => by cases h; rfl) (fl_9_ok false) (by decide +kernel)
theorem ok_101 : iv_okm 101 mc_101 := iv_okm_of (fl := fj_10) rfl rfl (by decide +kernel) (fun J h => by cases h; rfl) fj_10_ok (by decide +kernel)
theorem ok_102 : iv_okm 102 mc_102 := iv_okm_of (fl := fl_10) rfl rfl (by decide +kernel) (fun J h => by cases h; rfl) (fl_10_ok false) (by decide +kernel)
theorem ok_103 : iv_okm 103 mc_103 := iv_okm_of (fl := fl_10) rfl rfl (by decide +kernel) (fun J h => by cases h; rfl) (fl_10_ok false) (by decide +kernel)
theorem ok_104 : iv_okm 104 mc_104 := iv_okm_of (fl := fl_10) rfl rfl (by decide +kernel) (fun J h => by cases h; rfl) (fl_10_ok false) (by decide +kernel)
theorem ok_105 : iv_okm 105 mc_105 := iv_okm_of (fl := fl_10) rfl rfl (by decide +kernel) (fun J h => by cases h; rfl) (fl_10_ok false) (by decide +kernel)
theorem ok_106 : iv_okm 106 mc_106 := iv_okm_of (fl := fl_10) rfl rfl (by decide +kernel) (fun J h => by cases h; rfl) (fl_10_ok false) (by decide +kernel)
theorem ok_107 : iv_okm 107 mc_107 := iv_okm_of (fl := fl_10) rfl rfl (by decide +kernel) (fun J h => by cases h; rfl) (fl_10_ok false) (by decide +kernel)
theorem ok_108 : iv_okm 108 mc_108 := iv_okm_of (fl := fl_10) rfl rfl (by decide +kernel) (fun J h => by cases h; rfl) (fl_10_ok false) (by decide +kernel)
theorem ok_109 : iv_okm 109 mc_109 := iv_okm_of (fl := fl_10) rfl rfl (by decide +kernel) (fun J h => by cases h; rfl) (fl_10_ok false) (by decide +kernel)
theorem ok_110 : iv_okm 110 mc_110 := iv_okm_of (fl := fj_11) rfl rfl (by decide +kernel) (fun J h => by cases h; rfl) fj_11_ok (by decide +kernel)
theorem ok_111 : iv_okm 111 mc_111 := iv_okm_of (fl := fl_11) rfl rfl (by decide +kernel) (fun J h => by cases h; rfl) (fl_11_ok false) (by decide +kernel)
theorem ok_112 : iv_okm 112 mc_112 := iv_okm_of (fl := fl_11) rfl rfl (by decide +kernel) (fun J h => by cases h; rfl) (fl_11_ok false) (by decide +kernel)
theorem ok_113 : iv_okm 113 mc_113 := iv_okm_of (fl := fl_11) rfl rfl (by decide +kernel) (fun J h => by cases h; rfl) (fl_11_ok false) (by decide +kernel)
theorem ok_114 : iv_okm 114 mc_114 := iv_okm_of (fl := fl_11) rfl rfl (by decide +kernel) (fun J h => by cases h; rfl) (fl_11_ok false) (by decide +kernel)
theorem ok_115 : iv_okm 115 mc_115 := iv_okm_of (fl := fl_11) rfl rfl (by decide +kernel) (fun J h => by cases h; rfl) (fl_11_ok false) (by decide +kernel)
end
section
/-! the law's rows hold -/
theorem iv_chk_cat {cc : ByteArray} {code : List iv_I} {fl : List (Instr × Nat × Nat × Nat)} : ∀ (l1 l2 : List iv_I) (k : Nat), iv_chk cc code fl k l1 = true → iv_chk cc code fl (k + l1.length) l2 = true → iv_chk cc code fl k (l1 ++ l2) = true
  | [], l2, k, _, h => h
  | I :: l1, l2, k, h1, h2 => by
    rw [List.cons_append]
    unfold iv_chk at h1 ⊢
    simp only [Bool.and_eq_true] at h1 ⊢
    exact ⟨h1.1, h1.2.1, h1.2.2.1, iv_chk_cat l1 l2 (k + 1) h1.2.2.2 (by rw [show k + 1 + l1.length = k + (I :: l1).length by simp only [List.length_cons]; omega]; exact h2)⟩
theorem lk_0 : iv_chk code mc_1 fl_L 0 ((mc_1.drop 0).take 50) = true := by decide +kernel
theorem lk_1 : iv_chk code mc_1 fl_L 50 ((mc_1.drop 50).take 50) = true := by decide +kernel
theorem lk_2 : iv_chk code mc_1 fl_L 100 ((mc_1.drop 100).take 50) = true := by decide +kernel
theorem lk_3 : iv_chk code mc_1 fl_L 150 ((mc_1.drop 150).take 50) = true := by decide +kernel
end
section
theorem lk_4 : iv_chk code mc_1 fl_L 200 ((mc_1.drop 200).take 50) = true := by decide +kernel
theorem lk_5 : iv_chk code mc_1 fl_L 250 ((mc_1.drop 250).take 50) = true := by decide +kernel
theorem lk_6 : iv_chk code mc_1 fl_L 300 ((mc_1.drop 300).take 50) = true := by decide +kernel
theorem lk_7 : iv_chk code mc_1 fl_L 350 ((mc_1.drop 350).take 50) = true := by decide +kernel
end
section
theorem lk_8 : iv_chk code mc_1 fl_L 400 ((mc_1.drop 400).take 50) = true := by decide +kernel
theorem lk_9 : iv_chk code mc_1 fl_L 450 ((mc_1.drop 450).take 50) = true := by decide +kernel
theorem lk_10 : iv_chk code mc_1 fl_L 500 ((mc_1.drop 500).take 50) = true := by decide +kernel
theorem lk_11 : iv_chk code mc_1 fl_L 550 ((mc_1.drop 550).take 50) = true := by decide +kernel
end
section
theorem lk_12 : iv_chk code mc_1 fl_L 600 ((mc_1.drop 600).take 30) = true := by decide +kernel
end
section
theorem iv_chk_cut {cc : ByteArray} {code : List iv_I} {fl : List (Instr × Nat × Nat × Nat)} {l : List iv_I} {a n b : Nat} (h1 : iv_chk cc code fl a ((l.drop a).take n) = true) (hl : ((l.drop a).take n).length = n) (hb : a + n = b) (h2 : iv_chk cc code fl b (l.drop b) = true) : iv_chk cc code fl a (l.drop a) = true := by
  subst hb
  have h := iv_chk_cat _ _ a h1 (show iv_chk cc code fl (a + ((l.drop a).take n).length) (l.drop (a + n)) = true by rw [hl]; exact h2)
  rwa [show l.drop (a + n) = (l.drop a).drop n by rw [List.drop_drop], List.take_append_drop] at h
theorem lj_13 : iv_chk code mc_1 fl_L 630 (mc_1.drop 630) = true := by decide +kernel
theorem lj_12 : iv_chk code mc_1 fl_L 600 (mc_1.drop 600) = true := iv_chk_cut lk_12 (by decide +kernel) rfl lj_13
theorem lj_11 : iv_chk code mc_1 fl_L 550 (mc_1.drop 550) = true := iv_chk_cut lk_11 (by decide +kernel) rfl lj_12
theorem lj_10 : iv_chk code mc_1 fl_L 500 (mc_1.drop 500) = true := iv_chk_cut lk_10 (by decide +kernel) rfl lj_11
theorem lj_9 : iv_chk code mc_1 fl_L 450 (mc_1.drop 450) = true := iv_chk_cut lk_9 (by decide +kernel) rfl lj_10
theorem lj_8 : iv_chk code mc_1 fl_L 400 (mc_1.drop 400) = true := iv_chk_cut lk_8 (by decide +kernel) rfl lj_9
theorem lj_7 : iv_chk code mc_1 fl_L 350 (mc_1.drop 350) = true := iv_chk_cut lk_7 (by decide +kernel) rfl lj_8
theorem lj_6 : iv_chk code mc_1 fl_L 300 (mc_1.drop 300) = true := iv_chk_cut lk_6 (by decide +kernel) rfl lj_7
theorem lj_5 : iv_chk code mc_1 fl_L 250 (mc_1.drop 250) = true := iv_chk_cut lk_5 (by decide +kernel) rfl lj_6
theorem lj_4 : iv_chk code mc_1 fl_L 200 (mc_1.drop 200) = true := iv_chk_cut lk_4 (by decide +kernel) rfl lj_5
theorem lj_3 : iv_chk code mc_1 fl_L 150 (mc_1.drop 150) = true := iv_chk_cut lk_3 (by decide +kernel) rfl lj_4
theorem lj_2 : iv_chk code mc_1 fl_L 100 (mc_1.drop 100) = true := iv_chk_cut lk_2 (by decide +kernel) rfl lj_3
theorem lj_1 : iv_chk code mc_1 fl_L 50 (mc_1.drop 50) = true := iv_chk_cut lk_1 (by decide +kernel) rfl lj_2
theorem lj_0 : iv_chk code mc_1 fl_L 0 (mc_1.drop 0) = true := iv_chk_cut lk_0 (by decide +kernel) rfl lj_1
theorem ck_law : (∀ J, iv_lc[0]? = some J → J.1.1 = 0) ∧ ∀ (k : Nat) (I : iv_I), iv_lc[k]? = some I → decode code I.1.1 = .ok (I.2.1, I.1.2) ∧ iv_okb iv_lc k I = true ∧ iv_okw R_law false I := by
  refine ⟨fun J h => by cases h; rfl, fun k I hI => ?_⟩
  have h5 := iv_chk_of (fl_L_ok false) mc_1 0 lj_0 k I hI
  rw [Nat.zero_add] at h5
  exact h5
theorem ck_ok : ∀ (x mL : Nat) (rt : Option FieldType) (code : List iv_I), iv_M x = some (mL, rt, code) → iv_okm x code := by
  intro x mL rt code h
  unfold iv_M at h
  split at h
  · cases h
  · rename_i h2
    have hi : x < 116 := (List.getElem?_eq_some_iff.mp h).1
    match x, h2, hi, h with
    | 0, h2, _, _ => exact absurd (by decide) h2
    | 1, h2, _, _ => exact absurd (by decide) h2
    | 2, _, _, h => cases h; exact ok_2
    | 3, _, _, h => cases h; exact ok_3
    | 4, _, _, h => cases h; exact ok_4
    | 5, _, _, h => cases h; exact ok_5
    | 6, _, _, h => cases h; exact ok_6
    | 7, _, _, h => cases h; exact ok_7
    | 8, _, _, h => cases h; exact ok_8
    | 9, _, _, h => cases h; exact ok_9
    | 10, _, _, h => cases h; exact ok_10
    | 11, _, _, h => cases h; exact ok_11
    | 12, _, _, h => cases h; exact ok_12
    | 13, _, _, h => cases h; exact ok_13
    | 14, _, _, h => cases h; exact ok_14
    | 15, _, _, h => cases h; exact ok_15
    | 16, _, _, h => cases h; exact ok_16
    | 17, _, _, h => cases h; exact ok_17
    | 18, _, _, h => cases h; exact ok_18
    | 19, _, _, h => cases h; exact ok_19
    | 20, _, _, h => cases h; exact ok_20
    | 21, _, _, h => cases h; exact ok_21
    | 22, _, _, h => cases h; exact ok_22
    | 23, _, _, h => cases h; exact ok_23
    | 24, _, _, h => cases h; exact ok_24
    | 25, _, _, h => cases h; exact ok_25
    | 26, _, _, h => cases h; exact ok_26
    | 27, _, _, h => cases h; exact ok_27
    | 28, _, _, h => cases h; exact ok_28
    | 29, _, _, h => cases h; exact ok_29
    | 30, _, _, h => cases h; exact ok_30
    | 31, _, _, h => cases h; exact ok_31
    | 32, _, _, h => cases h; exact ok_32
    | 33, _, _, h => cases h; exact ok_33
    | 34, _, _, h => cases h; exact ok_34
    | 35, _, _, h => cases h; exact ok_35
    | 36, _, _, h => cases h; exact ok_36
    | 37, _, _, h => cases h; exact ok_37
    | 38, _, _, h => cases h; exact ok_38
    | 39, _, _, h => cases h; exact ok_39
    | 40, _, _, h => cases h; exact ok_40
    | 41, _, _, h => cases h; exact ok_41
    | 42, _, _, h => cases h; exact ok_42
    | 43, _, _, h => cases h; exact ok_43
    | 44, _, _, h => cases h; exact ok_44
    | 45, _, _, h => cases h; exact ok_45
    | 46, _, _, h => cases h; exact ok_46
    | 47, _, _, h => cases h; exact ok_47
    | 48, _, _, h => cases h; exact ok_48
    | 49, _, _, h => cases h; exact ok_49
    | 50, _, _, h => cases h; exact ok_50
    | 51, _, _, h => cases h; exact ok_51
    | 52, _, _, h => cases h; exact ok_52
    | 53, _, _, h => cases h; exact ok_53
    | 54, _, _, h => cases h; exact ok_54
    | 55, _, _, h => cases h; exact ok_55
    | 56, _, _, h => cases h; exact ok_56
    | 57, _, _, h => cases h; exact ok_57
    | 58, _, _, h => cases h; exact ok_58
    | 59, _, _, h => cases h; exact ok_59
    | 60, _, _, h => cases h; exact ok_60
    | 61, _, _, h => cases h; exact ok_61
    | 62, _, _, h => cases h; exact ok_62
    | 63, _, _, h => cases h; exact ok_63
    | 64, _, _, h => cases h; exact ok_64
    | 65, _, _, h => cases h; exact ok_65
    | 66, _, _, h => cases h; exact ok_66
    | 67, _, _, h => cases h; exact ok_67
    | 68, _, _, h => cases h; exact ok_68
    | 69, _, _, h => cases h; exact ok_69
    | 70, _, _, h => cases h; exact ok_70
    | 71, _, _, h => cases h; exact ok_71
    | 72, _, _, h => cases h; exact ok_72
    | 73, _, _, h => cases h; exact ok_73
    | 74, _, _, h => cases h; exact ok_74
    | 75, _, _, h => cases h; exact ok_75
    | 76, _, _, h => cases h; exact ok_76
    | 77, _, _, h => cases h; exact ok_77
    | 78, _, _, h => cases h; exact ok_78
    | 79, _, _, h => cases h; exact ok_79
    | 80, _, _, h => cases h; exact ok_80
    | 81, _, _, h => cases h; exact ok_81
    | 82, _, _, h => cases h; exact ok_82
    | 83, _, _, h => cases h; exact ok_83
    | 84, _, _, h => cases h; exact ok_84
    | 85, _, _, h => cases h; exact ok_85
    | 86, _, _, h => cases h; exact ok_86
    | 87, _, _, h => cases h; exact ok_87
    | 88, _, _, h => cases h; exact ok_88
    | 89, _, _, h => cases h; exact ok_89
    | 90, _, _, h => cases h; exact ok_90
    | 91, _, _, h => cases h; exact ok_91
    | 92, _, _, h => cases h; exact ok_92
    | 93, _, _, h => cases h; exact ok_93
    | 94, _, _, h => cases h; exact ok_94
    | 95, _, _, h => cases h; exact ok_95
    | 96, _, _, h => cases h; exact ok_96
    | 97, _, _, h => cases h; exact ok_97
    | 98, _, _, h => cases h; exact ok_98
    | 99, _, _, h => cases h; exact ok_99
    | 100, _, _, h => cases h; exact ok_100
    | 101, _, _, h => cases h; exact ok_101
    | 102, _, _, h => cases h; exact ok_102
    | 103, _, _, h => cases h; exact ok_103
    | 104, _, _, h => cases h; exact ok_104
    | 105, _, _, h => cases h; exact ok_105
    | 106, _, _, h => cases h; exact ok_106
    | 107, _, _, h => cases h; exact ok_107
    | 108, _, _, h => cases h; exact ok_108
    | 109, _, _, h => cases h; exact ok_109
    | 110, _, _, h => cases h; exact ok_110
    | 111, _, _, h => cases h; exact ok_111
    | 112, _, _, h => cases h; exact ok_112
    | 113, _, _, h => cases h; exact ok_113
    | 114, _, _, h => cases h; exact ok_114
    | 115, _, _, h => cases h; exact ok_115
    | n + 116, _, hi, _ => omega
end
section
/-! the contracts of all methods at once -/
theorem iv_fit_ref {ty : FieldType} {a : Value} {r : Nat → Nat} (hA : iv_isA ty = true) (h : iv_fit ty a = true) : iv_mv r a = .null ∨ ∃ q, iv_mv r a = .ref q := by
  unfold iv_fit at h
  split at h
  · cases hA
  · cases hA
  · exact Or.inr ⟨_, rfl⟩
  · exact Or.inl rfl
  · exact Or.inr ⟨_, rfl⟩
  · exact Or.inl rfl
  · cases h
set_option maxHeartbeats 4000000 in
theorem iv_sound (l : Launch) (D : va_G) (b z : Nat) (hbz : b < z) (hok : ∀ x mL rt code, iv_M x = some (mL, rt, code) → iv_okm x code) : ∀ (d x : Nat) (as : List Value) (w : iv_S) (v : Option Value) (w' : iv_S), iv_X d x as w = some (v, w') → iv_Met l D b z d x as w v w'
  | 0, x, as, w, v, w', h => by rw [iv_X_0] at h; cases h
  | d + 1, x, as, w, v, w', h => by
    refine ⟨iv_X_le _ _ _ _ _ _ h, ?_⟩
    have hle := iv_X_le _ _ _ _ _ _ h
    rw [iv_X_s] at h
    split at h
    · rename_i mL rt code hM
      split at h
      · rename_i hlen
        split at h
        · rename_i hall
          obtain ⟨n, h⟩ := iv_V_run h
          refine ⟨mL, rt, code, hM, ?_⟩
          obtain ⟨hok0, hok1⟩ := hok _ _ _ _ hM
          have ck := ck_m _ _ _ _ hM
          refine Met.ofW (cc := (iv_N x).2) (maxL := mL) (ret := rt) ck.2.2.2.1 rfl ?_
          intro p e s m args below meth c s₁ B hml hv
          obtain ⟨rfl, hrep, hKw⟩ := hv
          have hx := B.exec
          have hb := B.bytes
          have hr := B.returns
          have hlocks := B.notSynchronized
          have hown : s.vm.findClass (iv_N x).1.cls = some m.cls := findClass_of_methodNamed B.named
          have hname : meth.name = (iv_N x).1.name := (name_of_methodNamed B.named B.method).1
          rw [lg_entry_eq]
          have key := iv_walk (R := iv_rm (d + 1) (w'.2.1 - w.2.1) (w'.2.2 - w.2.2)) (l := l) (e := e) (below := below) (args := (as.map (iv_mv (iv_r b z))).toArray) (Q := MQ below (iv_Qc D b z w' v) (as.map (iv_mv (iv_r b z))).toArray s (w'.2.1 - w.2.1) (w'.2.2 - w.2.2) (fun q => z ≤ q)) (D := D) (n0 := w.2.1) (s0 := w.2.2) (nL := mL) (d := d) (ini := decide ((iv_N x).1.name = "<init>")) (v := v) (w' := w') (rt := rt) (call := iv_X d) (code := code) hx hb hown hKw hbz (by obtain ⟨q1, q2⟩ := hle; exact ⟨by show w'.2.1 ≤ w.2.1 + (w'.2.1 - w.2.1); omega, by show w'.2.2 ≤ w.2.2 + (w'.2.2 - w.2.2); omega⟩) hml ⟨Nat.le_refl _, by show 64 * d + 64 ≤ 64 * (d + 1); omega⟩ (fun x as w u w1 h => iv_sound l D b z hbz hok d x as w u w1 h) (fun hi => by rw [hname]; exact of_decide_eq_true hi) (fun op pc L st w1 hd hf => by
            obtain ⟨rfl, hcs⟩ := iv_fin_ok hf
            refine ⟨iv_le.rf, fun H ls locs cells slots a1 a2 a3 a4 a5 => ?_⟩
            rw [show w1.2.1 - w.2.1 = cells by omega, show w1.2.2 - w.2.2 = slots by omega]
            rcases hcs with ⟨rfl, ty, x1, rfl, rfl, rfl, hfit⟩ | ⟨rfl, ty, a, rfl, rfl, rfl, hA, hfit⟩ | ⟨rfl, rfl, rfl, rfl⟩
            · exact W.zret hx hb hr (iv_fit_ok (r := iv_r b z) hfit).1 (fun t ht hwt => ⟨rfl, by rw [ht]; exact a1.moved hwt.alike⟩) a3 hd
            · refine W.aret hx hb hr ?_ ?_ (fun t ht hwt => ⟨rfl, by rw [ht]; exact a1.moved hwt.alike⟩) a3 hd
              · cases ty <;> first | exact Or.inl ⟨_, rfl⟩ | exact Or.inr ⟨_, rfl⟩ | cases hA
              · exact iv_fit_ref hA hfit
            · exact W.vret hx hb hr (fun t ht hwt => ⟨rfl, by rw [ht]; exact a1.moved hwt.alike⟩) a3 hd) hok1 n 0 _ [] w h
          obtain ⟨h1, J, hJ, h2⟩ := key
          have h3 := h2 s.heap _ [] 0 0 hrep (iv_entry (r := iv_r b z) hall hlen) (fun q h => absurd h List.not_mem_nil) rfl rfl
          rw [hok0 J hJ] at h3
          exact h3
        · cases h
      · cases h
    · cases h
end
section
/-! the law: a run of the small machine that answers 1 gives the law's walk -/
def iv_w0 (L : Nat) (xs : Nat → Int32) : iv_S := (fun k => if k = 0 then some (150, (List.range L).map fun j => .int (xs j)) else none, 0, 0)
theorem iv_known {s : State} {A : Array Value} (hts : ∀ w ∈ lw_tbl, w.before A s = true) : ∃ D : va_G, iv_Kw D s := by
  have h : ∀ i : Nat, ∃ (cC : ClassId) (iS : Nat → Nat), ∀ q : vw_C, iv_cl[i]? = some q → u_Kn s q.1 q.2.1 q.2.2 cC iS := by
    intro i
    cases hq : iv_cl[i]? with
    | none => exact ⟨0, fun _ => 0, fun q h => by cases h⟩
    | some q =>
      have ck := ck_cl i q hq
      obtain ⟨cC, iS, h⟩ := u_known (ws := lw_tbl) hts (fun w hw => (ck.2.1 w hw).1) (hts _ ck.2.2.2.2.1)
      exact ⟨cC, iS, fun q' h' => by cases h'; exact h⟩
  refine ⟨(fun i => Classical.choose (h i), fun i => Classical.choose (Classical.choose_spec (h i))), fun i q hq => Classical.choose_spec (Classical.choose_spec (h i)) q hq, fun w hw hs => iv_stay hs (State.WarmedH.refl s) (hts w hw)⟩
set_option maxHeartbeats 4000000 in
theorem iv_law {p : Program} {e : Env} {s : State} {m : MethodId} {below : List Frame} {meth : Method} {c : Code} (l : Launch) {b L : Nat} {xs : Nat → Int32} (C0 : lw_At p s m meth c b L xs) {d : Nat} {w' : iv_S} (hok : ∀ x mL rt code, iv_M x = some (mL, rt, code) → iv_okm x code)
    (hrun : iv_V (iv_X d) iv_lc (some .boolean) 0 (.ref 0 :: List.replicate (iv_lL - 1) iv_un) [] (iv_w0 L xs) = some (some (.int 1), w')) (hF : d + 1 ≤ room_1.frames ∧ 64 * d + 64 ≤ room_1.locals) (hC : w'.2.1 ≤ room_1.cells ∧ w'.2.2 ≤ room_1.slots) :
    W p l e room_1 s m #[Value.ref b] below meth c s.heap [] 0 0 (lw_Z below #[Value.ref b] s) (entryFrame m ([Value.ref b] : List Value).toArray iv_lL) := by
  obtain ⟨hx, hb, hr, hml, hown, hts, hX, hbl, hlocks, -⟩ := C0
  obtain ⟨D, hW⟩ := iv_known hts
  rw [lg_entry_eq]
  obtain ⟨hok0, hok1⟩ := ck_law
  obtain ⟨n, hrun⟩ := iv_V_run hrun
  have hrep : iv_rep D b s.heap.size s (iv_w0 L xs) s.heap := by
    refine ⟨rfl, fun k x hk => ?_⟩
    simp only [iv_w0] at hk
    split at hk
    · rename_i hk0
      subst hk0
      cases hk
      obtain ⟨scr, h1, h2, h3, h4, h5⟩ := hX
      refine ⟨Or.inr ⟨.int, scr, ck_scr, h1, h2, h3, ?_, fun h => by cases h⟩, fun h => absurd rfl h⟩
      apply Array.ext_getElem?
      intro j
      conv => rhs; rw [List.getElem?_toArray, List.map_map, List.getElem?_map]
      by_cases hj : j < L
      · rw [h5 j hj, List.getElem?_range hj]; rfl
      · rw [Array.getElem?_eq_none (by omega), List.getElem?_eq_none (by simp; omega)]; rfl
    · cases hk
  have hent := iv_entry (r := iv_r b s.heap.size) (as := [.ref 0]) (nL := iv_lL) rfl (by decide)
  have key := iv_walk (R := room_1) (l := l) (e := e) (below := below) (args := #[Value.ref b]) (Q := lw_Z below #[Value.ref b] s) (D := D) (b := b) (z := s.heap.size) (n0 := 0) (s0 := 0) (nL := iv_lL) (d := d) (ini := false) (v := some (.int 1)) (w' := w') (rt := some .boolean) (call := iv_X d) (code := iv_lc) hx hb hown hW hbl ⟨by rw [Nat.zero_add]; exact hC.1, by rw [Nat.zero_add]; exact hC.2⟩ hml hF (fun x as w u w1 h => iv_sound l D b s.heap.size hbl hok d x as w u w1 h) (fun h => by cases h) (fun op pc L st w1 hd hf => by
      obtain ⟨rfl, hcs⟩ := iv_fin_ok hf
      refine ⟨iv_le.rf, fun H ls locs cells slots a1 a2 a3 a4 a5 => ?_⟩
      rcases hcs with ⟨rfl, ty, x1, h1, rfl, h2, hfit⟩ | ⟨rfl, ty, a, h1, rfl, h2, hA, hfit⟩ | ⟨rfl, h1, rfl, h2⟩
      · cases h2
        exact va_forget a3 (W.widen (k := room_1.cells) (n := room_1.slots) (by omega) (by omega) (lw_ret hx hb hr hlocks hd))
      · cases h1; cases hA
      · cases h1) hok1 n 0 _ [] _ hrun
  obtain ⟨h1, J, hJ, h2⟩ := key
  have h3 := h2 s.heap _ [] 0 0 hrep hent (fun q h => absurd h List.not_mem_nil) rfl rfl
  rw [hok0 J hJ] at h3
  exact h3
end
section
/-! the claim out of the small machine's run of the law -/
/-- WANTING: the small machine runs the law to 1 on every script, in the room -/
theorem pu_law (L : Nat) (xs : Nat → Int32) (hL : L ≤ 3584) : ∃ (d : Nat) (w' : iv_S), iv_V (iv_X d) iv_lc (some .boolean) 0 (.ref 0 :: List.replicate (iv_lL - 1) iv_un) [] (iv_w0 L xs) = some (some (.int 1), w') ∧ (d + 1 ≤ room_1.frames ∧ 64 * d + 64 ≤ room_1.locals) ∧ (w'.2.1 ≤ room_1.cells ∧ w'.2.2 ≤ room_1.slots) := by
  sorry
theorem whole_start {p : Program} {e : Env} {s : State} {m : MethodId} {below : List Frame} {meth : Method} {c : Code} (l : Launch) {b L : Nat} {xs : Nat → Int32} (hL : L ≤ 3584) (C0 : lw_At p s m meth c b L xs) : W p l e room_1 s m #[Value.ref b] below meth c s.heap [] 0 0 (lw_Z below #[Value.ref b] s) (entryFrame m ([Value.ref b] : List Value).toArray 4) := by
  obtain ⟨d, w', h1, h2, h3⟩ := pu_law L xs hL
  exact iv_law l C0 ck_ok h1 h2 h3
end
section
-- ===== YOUR PART ENDS =====
set_option maxHeartbeats 4000000 in
theorem lw_walk (l : Launch) (b : Addr) (xs : List Int32) : MetFree l x (headSpec (Jvm.Cond.code x code maxLocals ret :: tables_1) room_1) (lw_P b xs) (fun _ _ _ _ _ => True) lw_Q := by
  refine MetFree.of_bodyS (code := code) (maxLocals := maxLocals) (ret := ret) (by decide) ?_ ?_
  · intro args s m h hn
    obtain ⟨meth, c, h1, h2, h3, h4, h5, h6, -, -⟩ := Cond.code_spec hn (atoms_spec (ws := Jvm.Cond.code x code maxLocals ret :: tables_1) h _ List.mem_cons_self)
    exact ⟨meth, c, h1, h2, h3, h4, h5, h6⟩
  · intro p e s m args below meth c s₁ B hml0 hP _
    obtain ⟨rfl, hx, hbd, hgv⟩ := hP
    obtain ⟨scr, harrAt, hlist, hof, hsmall⟩ := hx
    obtain ⟨hcb, hkn, -, -⟩ := State.arrayAt?_spec harrAt
    have hown : s.vm.findClass R_law = some m.cls := findClass_of_methodNamed B.named
    have hts0 : ∀ c ∈ (Jvm.Cond.code x code maxLocals ret :: tables_1), c.before #[Value.ref b] s = true := atoms_spec (ws := Jvm.Cond.code x code maxLocals ret :: tables_1) B.pre
    have hts : ∀ w ∈ lw_tbl, w.before #[Value.ref b] s = true := k2_hts_sels lw_privs (fun w hw => hts0 w (List.mem_cons_of_mem _ hw)) lw_privs_ok
    have hml : c.maxLocals = 4 := B.maxLocals_eq (hts0 _ List.mem_cons_self)
    have X₀ : Stand p l e room_1 s m #[Value.ref b] below meth c s₁ [] 0 0 := Stand.of_body B
    have hh0 : s₁.heap = s.heap := by rw [B.state]; rfl
    have hsz : scr.slots.size = xs.length := by rw [← Array.length_toList, hlist, List.length_map]
    have hval : ∀ j : Nat, j < xs.length → scr.slots[j]? = some (.int (xs.getD j 0)) := fun j hj => by
      rw [← Array.getElem?_toList, hlist]
      simp [hj]
    have hbl : b < s.heap.size := (Array.getElem?_eq_some_iff.mp hcb).1
    have hX : va_X b xs.length (fun j => xs.getD j 0) s s.heap := ⟨scr, hcb, hof, hkn, hsz, hval⟩
    have K : W p l e room_1 s m #[Value.ref b] below meth c s₁.heap [] 0 0 (lw_Z below #[Value.ref b] s) (entryFrame m ([Value.ref b] : List Value).toArray 4) := by
      rw [hh0]
      exact whole_start l hbd ⟨B.exec, B.bytes, B.returns, hml, hown, hts, hX, hbl, B.notSynchronized, hgv⟩
    obtain ⟨t, a1, o, b1, b2, b3⟩ := K s₁ rfl X₀
    exact ⟨t, o, a1, b1, b2, b3⟩
theorem lw_pre_spec {args : Array Value} {s : State} (h : (Jvm.Cond.and given_1 narrow_1).before args s = true) (hr : rest_1_c.before args s = true) : ∃ (b : Addr) (xs : List Int32), lw_P b xs args s := by
  have hs := flat_of_before _ h
  have hq := flat_of_before _ hr
  have hc : (Cond.count 1).before args s = true := hs _ (by decide +kernel)
  have harr : (Cond.arrayOf (.arg 0) .int).before args s = true := hs _ (by decide +kernel)
  have hle : (Cond.le (.length (.arg 0)) (.int 3584)).before args s = true := hs _ (by decide +kernel)
  have hlen : (Cond.isInt (.length (.arg 0))).before args s = true := hq _ (by decide +kernel)
  have hall : (Cond.all (.arg 0) (.isInt (.elem (.arg 0) (.index 0)))).before args s = true := hq _ (by decide +kernel)
  obtain ⟨b, xs, hb, hx⟩ := State.ints_of_pre rfl harr hlen hall
  have hsm : xs.length < 2 ^ 31 := hx.choose_spec.2.2.2
  have hev : (Term.length (.arg 0)).eval args s none [] s = some (.int xs.length.toInt32) := hx.length_eval hb
  have hv := Cond.le_ints hev (show (Term.int 3584).eval args s none [] s = some (.int 3584) from rfl)
  have hd : xs.length.toInt32 ≤ 3584 := by
    simpa [Cond.before, Cond.holds, hv] using hle
  have hN : xs.length ≤ 3584 := (Int32.ofNat_le_ofNat hsm (by decide)).mp (show Int32.ofNat xs.length ≤ Int32.ofNat 3584 from hd)
  exact ⟨b, xs, Cond.one_arg hc (show args[0]? = some (.ref b) from hb), hx, hN, h⟩
theorem lw_comes (l : Launch) : Comes l x (Jvm.Cond.code x code maxLocals ret :: tables_1) room_1 (fun tb e args s => Calls_1 tb e args s ∧ rest_1 tb e args s ∧ Pre_1 tb e args s)
    (fun _ _ args s o t => lw_Q args s o t) := by
  intro p e ha hc hk s m args below hf hfit hheap happ hpre
  obtain ⟨b, xs, hP⟩ := lw_pre_spec hpre.2.2 hpre.2.1
  obtain ⟨k, o, h1, h2, h3, hQ⟩ := lw_walk l b xs p e ha hc hk s m args below hf ((Spec.applies_iff_loose hf).mp happ).1 hP trivial
  exact ⟨k, o, h1, h2, h3, hQ⟩
theorem lw_frame {s t : State} {o : Outcome} {args : Array Value} (h : Framed s o t [] 653207 7142626) :
    Framed s o t (fieldLocs frame_1_writes args s ++ arrayLocs frame_1_arrays args s ++ staticLocs frame_1_statics s) 653207 7142626 := h
theorem lw_limb (L : Cond) (hL : ∀ (args : Array Value) (s t : State), L.after args s (.returned (some (.int 1))) t = true) :
    ArmFor flags0 classFile x code maxLocals ret World_1 tables_1 room_1 Calls_1 rest_1 Pre_1
      (fun tb e a s o t => postC L tb e a s o t ∧ Framed s o t (fieldLocs frame_1_writes a s ++ arrayLocs frame_1_arrays a s ++ staticLocs frame_1_statics s) 653207 7142626) := by
  intro l _ _ _ p e ha hc hk s m args below hf hfit hheap happ hpre
  obtain ⟨k, o, h1, h2, h3, rfl, hF⟩ := lw_comes l p e ha hc hk s m args below hf hfit hheap happ hpre
  exact ⟨k, _, h1, h2, h3, hL args s _, lw_frame hF⟩
theorem i_vc : Claimed_1_1 ∧ Claimed_1_2 := ⟨lw_limb limb_1_1 (fun args s t => by simp [limb_1_1, Cond.after, Cond.holds, Cond.value]), lw_limb limb_1_2 (fun args s t => Cond.after_iff.mpr (by
  first | (rw [show limb_1_2 = Cond.eq .result (.int 1) from rfl, Cond.eq_ints (x := 1) (y := 1) rfl rfl]; simp; done) | (simp [limb_1_2, Cond.value, Term.eval]; done)))⟩
end
