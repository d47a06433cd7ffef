section
-- ===== PART A: goes FIRST, ahead of the names: the tables' words, and 'selects' of the private methods out of them =====
/-- a private method of a class that the tables say can be made, by its rows of tables_1 -/
def lw_okq (q : MethodName × Nat) : Prop := (q.1.cls ≠ "java/lang/invoke/MethodHandle" ∧ q.1.cls ≠ "java/lang/invoke/VarHandle") ∧ Cond.instantiable q.1.cls q.2 ∈ tables_1 ∧ Cond.privateMethod q.1 ∈ tables_1 ∧ Cond.instanceMethod q.1 ∈ tables_1
theorem lw_p0 : lw_okq (⟨"CollectedGroup$Collector", "fillMoves", "(I)V"⟩, 8) := ⟨⟨by decide +kernel, by decide +kernel⟩, List.mem_of_getElem? (i := 18) (by decide +kernel), List.mem_of_getElem? (i := 198) (by decide +kernel), List.mem_of_getElem? (i := 199) (by decide +kernel)⟩
theorem lw_p1 : lw_okq (⟨"CollectedGroup$Collector", "movedOnce", "(II)I"⟩, 8) := ⟨⟨by decide +kernel, by decide +kernel⟩, List.mem_of_getElem? (i := 18) (by decide +kernel), List.mem_of_getElem? (i := 202) (by decide +kernel), List.mem_of_getElem? (i := 203) (by decide +kernel)⟩
theorem lw_p2 : lw_okq (⟨"CollectedGroup$Collector", "multiplyFrom", "(III)I"⟩, 8) := ⟨⟨by decide +kernel, by decide +kernel⟩, List.mem_of_getElem? (i := 18) (by decide +kernel), List.mem_of_getElem? (i := 206) (by decide +kernel), List.mem_of_getElem? (i := 207) (by decide +kernel)⟩
theorem lw_p3 : lw_okq (⟨"CollectedGroup$Collector", "fillCarries", "(I)V"⟩, 8) := ⟨⟨by decide +kernel, by decide +kernel⟩, List.mem_of_getElem? (i := 18) (by decide +kernel), List.mem_of_getElem? (i := 210) (by decide +kernel), List.mem_of_getElem? (i := 211) (by decide +kernel)⟩
theorem lw_p4 : lw_okq (⟨"CollectedGroup$Collector", "moveKeepsProducts", "(I)Z"⟩, 8) := ⟨⟨by decide +kernel, by decide +kernel⟩, List.mem_of_getElem? (i := 18) (by decide +kernel), List.mem_of_getElem? (i := 214) (by decide +kernel), List.mem_of_getElem? (i := 215) (by decide +kernel)⟩
theorem lw_p5 : lw_okq (⟨"CollectedGroup$Collector", "moveKeepsPower", "(I)Z"⟩, 8) := ⟨⟨by decide +kernel, by decide +kernel⟩, List.mem_of_getElem? (i := 18) (by decide +kernel), List.mem_of_getElem? (i := 218) (by decide +kernel), List.mem_of_getElem? (i := 219) (by decide +kernel)⟩
theorem lw_p6 : lw_okq (⟨"CollectedGroup$Collector", "fullTurnIsPower", "(I)Z"⟩, 8) := ⟨⟨by decide +kernel, by decide +kernel⟩, List.mem_of_getElem? (i := 18) (by decide +kernel), List.mem_of_getElem? (i := 222) (by decide +kernel), List.mem_of_getElem? (i := 223) (by decide +kernel)⟩
theorem lw_p7 : lw_okq (⟨"CollectedGroup", "fillWhole", "()V"⟩, 7) := ⟨⟨by decide +kernel, by decide +kernel⟩, List.mem_of_getElem? (i := 10) (by decide +kernel), List.mem_of_getElem? (i := 234) (by decide +kernel), List.mem_of_getElem? (i := 235) (by decide +kernel)⟩
theorem lw_p8 : lw_okq (⟨"CollectedGroup", "isElement", "(I)Z"⟩, 7) := ⟨⟨by decide +kernel, by decide +kernel⟩, List.mem_of_getElem? (i := 10) (by decide +kernel), List.mem_of_getElem? (i := 270) (by decide +kernel), List.mem_of_getElem? (i := 271) (by decide +kernel)⟩
theorem lw_p9 : lw_okq (⟨"CollectedGroup", "isPlace", "(I)Z"⟩, 7) := ⟨⟨by decide +kernel, by decide +kernel⟩, List.mem_of_getElem? (i := 10) (by decide +kernel), List.mem_of_getElem? (i := 320) (by decide +kernel), List.mem_of_getElem? (i := 321) (by decide +kernel)⟩
theorem lw_p10 : lw_okq (⟨"CollectedGroup$Subgroup", "includeConjugates", "(ILCollectedGroup$Subgroup;)V"⟩, 4) := ⟨⟨by decide +kernel, by decide +kernel⟩, List.mem_of_getElem? (i := 76) (by decide +kernel), List.mem_of_getElem? (i := 340) (by decide +kernel), List.mem_of_getElem? (i := 341) (by decide +kernel)⟩
theorem lw_p11 : lw_okq (⟨"CollectedGroup", "seriesAmount", "(ILCollectedGroup$Subgroup;)I"⟩, 7) := ⟨⟨by decide +kernel, by decide +kernel⟩, List.mem_of_getElem? (i := 10) (by decide +kernel), List.mem_of_getElem? (i := 377) (by decide +kernel), List.mem_of_getElem? (i := 378) (by decide +kernel)⟩
theorem lw_p12 : lw_okq (⟨"CollectedGroup", "addClass", "(I)V"⟩, 7) := ⟨⟨by decide +kernel, by decide +kernel⟩, List.mem_of_getElem? (i := 10) (by decide +kernel), List.mem_of_getElem? (i := 399) (by decide +kernel), List.mem_of_getElem? (i := 400) (by decide +kernel)⟩
theorem lw_p13 : lw_okq (⟨"CollectedGroupModel", "isGenerator", "(I)Z"⟩, 14) := ⟨⟨by decide +kernel, by decide +kernel⟩, List.mem_of_getElem? (i := 421) (by decide +kernel), List.mem_of_getElem? (i := 482) (by decide +kernel), List.mem_of_getElem? (i := 483) (by decide +kernel)⟩
theorem lw_p14 : lw_okq (⟨"CollectedGroupModel", "build", "()Z"⟩, 14) := ⟨⟨by decide +kernel, by decide +kernel⟩, List.mem_of_getElem? (i := 421) (by decide +kernel), List.mem_of_getElem? (i := 498) (by decide +kernel), List.mem_of_getElem? (i := 499) (by decide +kernel)⟩
theorem lw_p15 : lw_okq (⟨"CollectedGroupModel", "letters", "(II)I"⟩, 14) := ⟨⟨by decide +kernel, by decide +kernel⟩, List.mem_of_getElem? (i := 421) (by decide +kernel), List.mem_of_getElem? (i := 502) (by decide +kernel), List.mem_of_getElem? (i := 503) (by decide +kernel)⟩
def lw_privs_1 : List (MethodName × Nat) := [(⟨"CollectedGroup$Collector", "fillMoves", "(I)V"⟩, 8), (⟨"CollectedGroup$Collector", "movedOnce", "(II)I"⟩, 8), (⟨"CollectedGroup$Collector", "multiplyFrom", "(III)I"⟩, 8), (⟨"CollectedGroup$Collector", "fillCarries", "(I)V"⟩, 8), (⟨"CollectedGroup$Collector", "moveKeepsProducts", "(I)Z"⟩, 8), (⟨"CollectedGroup$Collector", "moveKeepsPower", "(I)Z"⟩, 8), (⟨"CollectedGroup$Collector", "fullTurnIsPower", "(I)Z"⟩, 8), (⟨"CollectedGroup", "fillWhole", "()V"⟩, 7), (⟨"CollectedGroup", "isElement", "(I)Z"⟩, 7), (⟨"CollectedGroup", "isPlace", "(I)Z"⟩, 7), (⟨"CollectedGroup$Subgroup", "includeConjugates", "(ILCollectedGroup$Subgroup;)V"⟩, 4), (⟨"CollectedGroup", "seriesAmount", "(ILCollectedGroup$Subgroup;)I"⟩, 7), (⟨"CollectedGroup", "addClass", "(I)V"⟩, 7), (⟨"CollectedGroupModel", "isGenerator", "(I)Z"⟩, 14), (⟨"CollectedGroupModel", "build", "()Z"⟩, 14), (⟨"CollectedGroupModel", "letters", "(II)I"⟩, 14)]
theorem lw_r1 : ∀ q ∈ lw_privs_1, lw_okq q := List.forall_mem_cons.mpr ⟨lw_p0, List.forall_mem_cons.mpr ⟨lw_p1, List.forall_mem_cons.mpr ⟨lw_p2, List.forall_mem_cons.mpr ⟨lw_p3, List.forall_mem_cons.mpr ⟨lw_p4, List.forall_mem_cons.mpr ⟨lw_p5, List.forall_mem_cons.mpr ⟨lw_p6, List.forall_mem_cons.mpr ⟨lw_p7, List.forall_mem_cons.mpr ⟨lw_p8, List.forall_mem_cons.mpr ⟨lw_p9, List.forall_mem_cons.mpr ⟨lw_p10, List.forall_mem_cons.mpr ⟨lw_p11, List.forall_mem_cons.mpr ⟨lw_p12, List.forall_mem_cons.mpr ⟨lw_p13, List.forall_mem_cons.mpr ⟨lw_p14, List.forall_mem_cons.mpr ⟨lw_p15, fun _ h => absurd h List.not_mem_nil⟩⟩⟩⟩⟩⟩⟩⟩⟩⟩⟩⟩⟩⟩⟩⟩
theorem lw_p16 : lw_okq (⟨"CollectedGroupModel", "of", "(II)I"⟩, 14) := ⟨⟨by decide +kernel, by decide +kernel⟩, List.mem_of_getElem? (i := 421) (by decide +kernel), List.mem_of_getElem? (i := 506) (by decide +kernel), List.mem_of_getElem? (i := 507) (by decide +kernel)⟩
theorem lw_p17 : lw_okq (⟨"CollectedGroupModel", "turns", "(I)Z"⟩, 14) := ⟨⟨by decide +kernel, by decide +kernel⟩, List.mem_of_getElem? (i := 421) (by decide +kernel), List.mem_of_getElem? (i := 510) (by decide +kernel), List.mem_of_getElem? (i := 511) (by decide +kernel)⟩
theorem lw_p18 : lw_okq (⟨"CollectedGroupModel", "widen", "(I)V"⟩, 14) := ⟨⟨by decide +kernel, by decide +kernel⟩, List.mem_of_getElem? (i := 421) (by decide +kernel), List.mem_of_getElem? (i := 514) (by decide +kernel), List.mem_of_getElem? (i := 515) (by decide +kernel)⟩
theorem lw_p19 : lw_okq (⟨"CollectedGroupModel", "enter", "(IIII)V"⟩, 14) := ⟨⟨by decide +kernel, by decide +kernel⟩, List.mem_of_getElem? (i := 421) (by decide +kernel), List.mem_of_getElem? (i := 518) (by decide +kernel), List.mem_of_getElem? (i := 519) (by decide +kernel)⟩
theorem lw_p20 : lw_okq (⟨"CollectedGroupModel", "is", "(I)Z"⟩, 14) := ⟨⟨by decide +kernel, by decide +kernel⟩, List.mem_of_getElem? (i := 421) (by decide +kernel), List.mem_of_getElem? (i := 534) (by decide +kernel), List.mem_of_getElem? (i := 535) (by decide +kernel)⟩
theorem lw_p21 : lw_okq (⟨"CollectedGroupModel", "by", "(II)I"⟩, 14) := ⟨⟨by decide +kernel, by decide +kernel⟩, List.mem_of_getElem? (i := 421) (by decide +kernel), List.mem_of_getElem? (i := 551) (by decide +kernel), List.mem_of_getElem? (i := 552) (by decide +kernel)⟩
theorem lw_p22 : lw_okq (⟨"CollectedGroupModel", "bracket", "(II)I"⟩, 14) := ⟨⟨by decide +kernel, by decide +kernel⟩, List.mem_of_getElem? (i := 421) (by decide +kernel), List.mem_of_getElem? (i := 559) (by decide +kernel), List.mem_of_getElem? (i := 560) (by decide +kernel)⟩
theorem lw_p23 : lw_okq (⟨"CollectedGroupModel", "isPlace", "(I)Z"⟩, 14) := ⟨⟨by decide +kernel, by decide +kernel⟩, List.mem_of_getElem? (i := 421) (by decide +kernel), List.mem_of_getElem? (i := 567) (by decide +kernel), List.mem_of_getElem? (i := 568) (by decide +kernel)⟩
theorem lw_p24 : lw_okq (⟨"CollectedGroupModel", "take", "(I)V"⟩, 14) := ⟨⟨by decide +kernel, by decide +kernel⟩, List.mem_of_getElem? (i := 421) (by decide +kernel), List.mem_of_getElem? (i := 575) (by decide +kernel), List.mem_of_getElem? (i := 576) (by decide +kernel)⟩
theorem lw_p25 : lw_okq (⟨"CollectedGroupModel", "put", "(I)I"⟩, 14) := ⟨⟨by decide +kernel, by decide +kernel⟩, List.mem_of_getElem? (i := 421) (by decide +kernel), List.mem_of_getElem? (i := 579) (by decide +kernel), List.mem_of_getElem? (i := 580) (by decide +kernel)⟩
theorem lw_p26 : lw_okq (⟨"CollectedGroupModel", "close", "()V"⟩, 14) := ⟨⟨by decide +kernel, by decide +kernel⟩, List.mem_of_getElem? (i := 421) (by decide +kernel), List.mem_of_getElem? (i := 583) (by decide +kernel), List.mem_of_getElem? (i := 584) (by decide +kernel)⟩
theorem lw_p27 : lw_okq (⟨"CollectedGroupModel", "worked", "()I"⟩, 14) := ⟨⟨by decide +kernel, by decide +kernel⟩, List.mem_of_getElem? (i := 421) (by decide +kernel), List.mem_of_getElem? (i := 587) (by decide +kernel), List.mem_of_getElem? (i := 588) (by decide +kernel)⟩
theorem lw_p28 : lw_okq (⟨"CollectedGroupModel", "series", "(IZ)I"⟩, 14) := ⟨⟨by decide +kernel, by decide +kernel⟩, List.mem_of_getElem? (i := 421) (by decide +kernel), List.mem_of_getElem? (i := 611) (by decide +kernel), List.mem_of_getElem? (i := 612) (by decide +kernel)⟩
theorem lw_p29 : lw_okq (⟨"CollectedGroupModel", "least", "(I)I"⟩, 14) := ⟨⟨by decide +kernel, by decide +kernel⟩, List.mem_of_getElem? (i := 421) (by decide +kernel), List.mem_of_getElem? (i := 627) (by decide +kernel), List.mem_of_getElem? (i := 628) (by decide +kernel)⟩
theorem lw_p30 : lw_okq (⟨"CollectedGroupModel", "relatives", "(I)I"⟩, 14) := ⟨⟨by decide +kernel, by decide +kernel⟩, List.mem_of_getElem? (i := 421) (by decide +kernel), List.mem_of_getElem? (i := 635) (by decide +kernel), List.mem_of_getElem? (i := 636) (by decide +kernel)⟩
def lw_privs_2 : List (MethodName × Nat) := [(⟨"CollectedGroupModel", "of", "(II)I"⟩, 14), (⟨"CollectedGroupModel", "turns", "(I)Z"⟩, 14), (⟨"CollectedGroupModel", "widen", "(I)V"⟩, 14), (⟨"CollectedGroupModel", "enter", "(IIII)V"⟩, 14), (⟨"CollectedGroupModel", "is", "(I)Z"⟩, 14), (⟨"CollectedGroupModel", "by", "(II)I"⟩, 14), (⟨"CollectedGroupModel", "bracket", "(II)I"⟩, 14), (⟨"CollectedGroupModel", "isPlace", "(I)Z"⟩, 14), (⟨"CollectedGroupModel", "take", "(I)V"⟩, 14), (⟨"CollectedGroupModel", "put", "(I)I"⟩, 14), (⟨"CollectedGroupModel", "close", "()V"⟩, 14), (⟨"CollectedGroupModel", "worked", "()I"⟩, 14), (⟨"CollectedGroupModel", "series", "(IZ)I"⟩, 14), (⟨"CollectedGroupModel", "least", "(I)I"⟩, 14), (⟨"CollectedGroupModel", "relatives", "(I)I"⟩, 14)]
theorem lw_r2 : ∀ q ∈ lw_privs_2, lw_okq q := List.forall_mem_cons.mpr ⟨lw_p16, List.forall_mem_cons.mpr ⟨lw_p17, List.forall_mem_cons.mpr ⟨lw_p18, List.forall_mem_cons.mpr ⟨lw_p19, List.forall_mem_cons.mpr ⟨lw_p20, List.forall_mem_cons.mpr ⟨lw_p21, List.forall_mem_cons.mpr ⟨lw_p22, List.forall_mem_cons.mpr ⟨lw_p23, List.forall_mem_cons.mpr ⟨lw_p24, List.forall_mem_cons.mpr ⟨lw_p25, List.forall_mem_cons.mpr ⟨lw_p26, List.forall_mem_cons.mpr ⟨lw_p27, List.forall_mem_cons.mpr ⟨lw_p28, List.forall_mem_cons.mpr ⟨lw_p29, List.forall_mem_cons.mpr ⟨lw_p30, fun _ h => absurd h List.not_mem_nil⟩⟩⟩⟩⟩⟩⟩⟩⟩⟩⟩⟩⟩⟩⟩
def lw_privs : List (MethodName × Nat) := lw_privs_1 ++ (lw_privs_2)
def lw_tbl : List Cond := k2_sels lw_privs ++ tables_1
theorem lw_privs_ok : ∀ q ∈ lw_privs, lw_okq q := by
  show ∀ q ∈ lw_privs_1 ++ (lw_privs_2), lw_okq q
  exact List.forall_mem_append.mpr ⟨lw_r1, lw_r2⟩
end
section
/-! Names: classes, fields, methods, and where each word stands among the tables' words. By program (wip/whole/gen/names.py). -/
def WALL : List Cond := lw_tbl.filter goodWord
abbrev R_Top : String := "CollectedGroup"
abbrev R_Col : String := "CollectedGroup$Collector"
abbrev R_Set : String := "CollectedGroup$ElementSet"
abbrev R_Sub : String := "CollectedGroup$Subgroup"
abbrev R_Mod : String := "CollectedGroupModel"
abbrev R_Law : String := "CollectedGroupLaw"
abbrev R_Mat : String := "java/lang/Math"
abbrev R_Arr : String := "java/util/Arrays"
abbrev R_Sys : String := "java/lang/System"
abbrev R_Obj : String := "java/lang/Object"
abbrev y_Arr_copyOf : MethodName := ⟨"java/util/Arrays", "copyOf", "([II)[I"⟩
abbrev y_Col_build : MethodName := ⟨"CollectedGroup$Collector", "build", "()Z"⟩
abbrev y_Col_commutatorOf : MethodName := ⟨"CollectedGroup$Collector", "commutatorOf", "(II)I"⟩
abbrev y_Col_conjugateOf : MethodName := ⟨"CollectedGroup$Collector", "conjugateOf", "(II)I"⟩
abbrev y_Col_elementCount : MethodName := ⟨"CollectedGroup$Collector", "elementCount", "()I"⟩
abbrev y_Col_fillCarries : MethodName := ⟨"CollectedGroup$Collector", "fillCarries", "(I)V"⟩
abbrev y_Col_fillMoves : MethodName := ⟨"CollectedGroup$Collector", "fillMoves", "(I)V"⟩
abbrev y_Col_fullTurnIsPower : MethodName := ⟨"CollectedGroup$Collector", "fullTurnIsPower", "(I)Z"⟩
abbrev y_Col_init : MethodName := ⟨"CollectedGroup$Collector", "<init>", "([I)V"⟩
abbrev y_Col_inverseOf : MethodName := ⟨"CollectedGroup$Collector", "inverseOf", "(I)I"⟩
abbrev y_Col_isCentral : MethodName := ⟨"CollectedGroup$Collector", "isCentral", "(I)Z"⟩
abbrev y_Col_isLetter : MethodName := ⟨"CollectedGroup$Collector", "isLetter", "(I)Z"⟩
abbrev y_Col_isWordBehind : MethodName := ⟨"CollectedGroup$Collector", "isWordBehind", "(II)Z"⟩
abbrev y_Col_letter : MethodName := ⟨"CollectedGroup$Collector", "letter", "(I)I"⟩
abbrev y_Col_letterCount : MethodName := ⟨"CollectedGroup$Collector", "letterCount", "()I"⟩
abbrev y_Col_moveKeepsPower : MethodName := ⟨"CollectedGroup$Collector", "moveKeepsPower", "(I)Z"⟩
abbrev y_Col_moveKeepsProducts : MethodName := ⟨"CollectedGroup$Collector", "moveKeepsProducts", "(I)Z"⟩
abbrev y_Col_movedOnce : MethodName := ⟨"CollectedGroup$Collector", "movedOnce", "(II)I"⟩
abbrev y_Col_multiple : MethodName := ⟨"CollectedGroup$Collector", "multiple", "(II)I"⟩
abbrev y_Col_multiply : MethodName := ⟨"CollectedGroup$Collector", "multiply", "(II)I"⟩
abbrev y_Col_multiplyFrom : MethodName := ⟨"CollectedGroup$Collector", "multiplyFrom", "(III)I"⟩
abbrev y_Col_orderOf : MethodName := ⟨"CollectedGroup$Collector", "orderOf", "(I)I"⟩
abbrev y_Col_setConjugate : MethodName := ⟨"CollectedGroup$Collector", "setConjugate", "(III)V"⟩
abbrev y_Col_setPower : MethodName := ⟨"CollectedGroup$Collector", "setPower", "(II)V"⟩
abbrev y_Law_cell : MethodName := ⟨"CollectedGroupLaw", "cell", "([II)I"⟩
abbrev y_Mat_floorMod : MethodName := ⟨"java/lang/Math", "floorMod", "(II)I"⟩
abbrev y_Mat_min : MethodName := ⟨"java/lang/Math", "min", "(II)I"⟩
abbrev y_Mod_bracket : MethodName := ⟨"CollectedGroupModel", "bracket", "(II)I"⟩
abbrev y_Mod_build : MethodName := ⟨"CollectedGroupModel", "build", "()Z"⟩
abbrev y_Mod_by : MethodName := ⟨"CollectedGroupModel", "by", "(II)I"⟩
abbrev y_Mod_centre : MethodName := ⟨"CollectedGroupModel", "centre", "()I"⟩
abbrev y_Mod_classes : MethodName := ⟨"CollectedGroupModel", "classes", "()I"⟩
abbrev y_Mod_clear : MethodName := ⟨"CollectedGroupModel", "clear", "(I)I"⟩
abbrev y_Mod_close : MethodName := ⟨"CollectedGroupModel", "close", "()V"⟩
abbrev y_Mod_commutator : MethodName := ⟨"CollectedGroupModel", "commutator", "(II)I"⟩
abbrev y_Mod_commute : MethodName := ⟨"CollectedGroupModel", "commute", "(III)I"⟩
abbrev y_Mod_conjugate : MethodName := ⟨"CollectedGroupModel", "conjugate", "(III)Z"⟩
abbrev y_Mod_conjugated : MethodName := ⟨"CollectedGroupModel", "conjugated", "(II)I"⟩
abbrev y_Mod_count : MethodName := ⟨"CollectedGroupModel", "count", "(I)I"⟩
abbrev y_Mod_derived : MethodName := ⟨"CollectedGroupModel", "derived", "(I)I"⟩
abbrev y_Mod_enter : MethodName := ⟨"CollectedGroupModel", "enter", "(IIII)V"⟩
abbrev y_Mod_fix : MethodName := ⟨"CollectedGroupModel", "fix", "()Z"⟩
abbrev y_Mod_fixed : MethodName := ⟨"CollectedGroupModel", "fixed", "()Z"⟩
abbrev y_Mod_generator : MethodName := ⟨"CollectedGroupModel", "generator", "(I)I"⟩
abbrev y_Mod_generators : MethodName := ⟨"CollectedGroupModel", "generators", "()I"⟩
abbrev y_Mod_has : MethodName := ⟨"CollectedGroupModel", "has", "(II)Z"⟩
abbrev y_Mod_head : MethodName := ⟨"CollectedGroupModel", "head", "(I)I"⟩
abbrev y_Mod_init : MethodName := ⟨"CollectedGroupModel", "<init>", "(I)V"⟩
abbrev y_Mod_is : MethodName := ⟨"CollectedGroupModel", "is", "(I)Z"⟩
abbrev y_Mod_isGenerator : MethodName := ⟨"CollectedGroupModel", "isGenerator", "(I)Z"⟩
abbrev y_Mod_isPlace : MethodName := ⟨"CollectedGroupModel", "isPlace", "(I)Z"⟩
abbrev y_Mod_join : MethodName := ⟨"CollectedGroupModel", "join", "(II)I"⟩
abbrev y_Mod_kin : MethodName := ⟨"CollectedGroupModel", "kin", "(I)I"⟩
abbrev y_Mod_least : MethodName := ⟨"CollectedGroupModel", "least", "(I)I"⟩
abbrev y_Mod_letters : MethodName := ⟨"CollectedGroupModel", "letters", "(II)I"⟩
abbrev y_Mod_lower : MethodName := ⟨"CollectedGroupModel", "lower", "(I)I"⟩
abbrev y_Mod_of : MethodName := ⟨"CollectedGroupModel", "of", "(II)I"⟩
abbrev y_Mod_order : MethodName := ⟨"CollectedGroupModel", "order", "(I)I"⟩
abbrev y_Mod_power : MethodName := ⟨"CollectedGroupModel", "power", "(II)Z"⟩
abbrev y_Mod_product : MethodName := ⟨"CollectedGroupModel", "product", "(II)I"⟩
abbrev y_Mod_put : MethodName := ⟨"CollectedGroupModel", "put", "(I)I"⟩
abbrev y_Mod_relatives : MethodName := ⟨"CollectedGroupModel", "relatives", "(I)I"⟩
abbrev y_Mod_release : MethodName := ⟨"CollectedGroupModel", "release", "()V"⟩
abbrev y_Mod_series : MethodName := ⟨"CollectedGroupModel", "series", "(IZ)I"⟩
abbrev y_Mod_size : MethodName := ⟨"CollectedGroupModel", "size", "()I"⟩
abbrev y_Mod_spread : MethodName := ⟨"CollectedGroupModel", "spread", "(I)I"⟩
abbrev y_Mod_take : MethodName := ⟨"CollectedGroupModel", "take", "(I)V"⟩
abbrev y_Mod_times : MethodName := ⟨"CollectedGroupModel", "times", "(II)I"⟩
abbrev y_Mod_turns : MethodName := ⟨"CollectedGroupModel", "turns", "(I)Z"⟩
abbrev y_Mod_widen : MethodName := ⟨"CollectedGroupModel", "widen", "(I)V"⟩
abbrev y_Mod_worked : MethodName := ⟨"CollectedGroupModel", "worked", "()I"⟩
abbrev y_Obj_clone : MethodName := ⟨"java/lang/Object", "clone", "()Ljava/lang/Object;"⟩
abbrev y_Obj_init : MethodName := ⟨"java/lang/Object", "<init>", "()V"⟩
abbrev y_Set_add : MethodName := ⟨"CollectedGroup$ElementSet", "add", "(I)V"⟩
abbrev y_Set_amount : MethodName := ⟨"CollectedGroup$ElementSet", "amount", "()I"⟩
abbrev y_Set_empty : MethodName := ⟨"CollectedGroup$ElementSet", "empty", "()V"⟩
abbrev y_Set_holds : MethodName := ⟨"CollectedGroup$ElementSet", "holds", "(I)Z"⟩
abbrev y_Set_init : MethodName := ⟨"CollectedGroup$ElementSet", "<init>", "(I)V"⟩
abbrev y_Set_least : MethodName := ⟨"CollectedGroup$ElementSet", "least", "()I"⟩
abbrev y_Set_member : MethodName := ⟨"CollectedGroup$ElementSet", "member", "(I)I"⟩
abbrev y_Sub_amount : MethodName := ⟨"CollectedGroup$Subgroup", "amount", "()I"⟩
abbrev y_Sub_becomeCommutators : MethodName := ⟨"CollectedGroup$Subgroup", "becomeCommutators", "(LCollectedGroup$Subgroup;LCollectedGroup$Subgroup;)V"⟩
abbrev y_Sub_becomeCopy : MethodName := ⟨"CollectedGroup$Subgroup", "becomeCopy", "(LCollectedGroup$Subgroup;)V"⟩
abbrev y_Sub_holds : MethodName := ⟨"CollectedGroup$Subgroup", "holds", "(I)Z"⟩
abbrev y_Sub_include : MethodName := ⟨"CollectedGroup$Subgroup", "include", "(I)V"⟩
abbrev y_Sub_includeAllConjugates : MethodName := ⟨"CollectedGroup$Subgroup", "includeAllConjugates", "(LCollectedGroup$Subgroup;)V"⟩
abbrev y_Sub_includeConjugates : MethodName := ⟨"CollectedGroup$Subgroup", "includeConjugates", "(ILCollectedGroup$Subgroup;)V"⟩
abbrev y_Sub_init : MethodName := ⟨"CollectedGroup$Subgroup", "<init>", "(LCollectedGroup$Collector;)V"⟩
abbrev y_Sub_reset : MethodName := ⟨"CollectedGroup$Subgroup", "reset", "()V"⟩
abbrev y_Sys_arraycopy : MethodName := ⟨"java/lang/System", "arraycopy", "(Ljava/lang/Object;ILjava/lang/Object;II)V"⟩
abbrev y_Top_addClass : MethodName := ⟨"CollectedGroup", "addClass", "(I)V"⟩
abbrev y_Top_centre : MethodName := ⟨"CollectedGroup", "centre", "()I"⟩
abbrev y_Top_classes : MethodName := ⟨"CollectedGroup", "classes", "()I"⟩
abbrev y_Top_clear : MethodName := ⟨"CollectedGroup", "clear", "(I)I"⟩
abbrev y_Top_commutator : MethodName := ⟨"CollectedGroup", "commutator", "(II)I"⟩
abbrev y_Top_commute : MethodName := ⟨"CollectedGroup", "commute", "(III)I"⟩
abbrev y_Top_conjugate : MethodName := ⟨"CollectedGroup", "conjugate", "(III)Z"⟩
abbrev y_Top_conjugated : MethodName := ⟨"CollectedGroup", "conjugated", "(II)I"⟩
abbrev y_Top_count : MethodName := ⟨"CollectedGroup", "count", "(I)I"⟩
abbrev y_Top_derived : MethodName := ⟨"CollectedGroup", "derived", "(I)I"⟩
abbrev y_Top_fillWhole : MethodName := ⟨"CollectedGroup", "fillWhole", "()V"⟩
abbrev y_Top_fix : MethodName := ⟨"CollectedGroup", "fix", "()Z"⟩
abbrev y_Top_fixed : MethodName := ⟨"CollectedGroup", "fixed", "()Z"⟩
abbrev y_Top_generator : MethodName := ⟨"CollectedGroup", "generator", "(I)I"⟩
abbrev y_Top_generators : MethodName := ⟨"CollectedGroup", "generators", "()I"⟩
abbrev y_Top_has : MethodName := ⟨"CollectedGroup", "has", "(II)Z"⟩
abbrev y_Top_head : MethodName := ⟨"CollectedGroup", "head", "(I)I"⟩
abbrev y_Top_init : MethodName := ⟨"CollectedGroup", "<init>", "(I)V"⟩
abbrev y_Top_isElement : MethodName := ⟨"CollectedGroup", "isElement", "(I)Z"⟩
abbrev y_Top_isPlace : MethodName := ⟨"CollectedGroup", "isPlace", "(I)Z"⟩
abbrev y_Top_isPrimeDigit : MethodName := ⟨"CollectedGroup", "isPrimeDigit", "(I)Z"⟩
abbrev y_Top_join : MethodName := ⟨"CollectedGroup", "join", "(II)I"⟩
abbrev y_Top_kin : MethodName := ⟨"CollectedGroup", "kin", "(I)I"⟩
abbrev y_Top_lower : MethodName := ⟨"CollectedGroup", "lower", "(I)I"⟩
abbrev y_Top_order : MethodName := ⟨"CollectedGroup", "order", "(I)I"⟩
abbrev y_Top_power : MethodName := ⟨"CollectedGroup", "power", "(II)Z"⟩
abbrev y_Top_primeDigits : MethodName := ⟨"CollectedGroup", "primeDigits", "(I)[I"⟩
abbrev y_Top_product : MethodName := ⟨"CollectedGroup", "product", "(II)I"⟩
abbrev y_Top_release : MethodName := ⟨"CollectedGroup", "release", "()V"⟩
abbrev y_Top_seriesAmount : MethodName := ⟨"CollectedGroup", "seriesAmount", "(ILCollectedGroup$Subgroup;)I"⟩
abbrev y_Top_size : MethodName := ⟨"CollectedGroup", "size", "()I"⟩
abbrev y_Top_spread : MethodName := ⟨"CollectedGroup", "spread", "(I)I"⟩
abbrev y_Top_times : MethodName := ⟨"CollectedGroup", "times", "(II)I"⟩
abbrev y_X_clone : MethodName := ⟨"[I", "clone", "()Ljava/lang/Object;"⟩
abbrev b_Top_init : ByteArray := prog_1_method_1_code
abbrev b_Obj_init : ByteArray := object_method_1_code
abbrev b_Top_primeDigits : ByteArray := prog_1_method_32_code
abbrev b_Top_isPrimeDigit : ByteArray := prog_1_method_33_code
abbrev b_Arr_copyOf : ByteArray := prog_10_method_123_code
abbrev b_Mat_min : ByteArray := prog_8_method_69_code
abbrev b_Col_init : ByteArray := prog_2_method_1_code
abbrev b_Sub_init : ByteArray := prog_4_method_1_code
abbrev b_Col_elementCount : ByteArray := prog_2_method_3_code
abbrev b_Set_init : ByteArray := prog_3_method_1_code
abbrev b_Set_add : ByteArray := prog_3_method_3_code
abbrev b_Top_generators : ByteArray := prog_1_method_2_code
abbrev b_Col_letterCount : ByteArray := prog_2_method_2_code
abbrev b_Top_size : ByteArray := prog_1_method_3_code
abbrev b_Top_generator : ByteArray := prog_1_method_4_code
abbrev b_Col_isLetter : ByteArray := prog_2_method_4_code
abbrev b_Col_letter : ByteArray := prog_2_method_5_code
abbrev b_Top_power : ByteArray := prog_1_method_5_code
abbrev b_Col_isWordBehind : ByteArray := prog_2_method_6_code
abbrev b_Col_setPower : ByteArray := prog_2_method_7_code
abbrev b_Top_conjugate : ByteArray := prog_1_method_6_code
abbrev b_Col_setConjugate : ByteArray := prog_2_method_8_code
abbrev b_Top_fix : ByteArray := prog_1_method_7_code
abbrev b_Col_build : ByteArray := prog_2_method_9_code
abbrev b_Col_fillMoves : ByteArray := prog_2_method_18_code
abbrev b_Col_movedOnce : ByteArray := prog_2_method_19_code
abbrev b_Col_multiplyFrom : ByteArray := prog_2_method_17_code
abbrev b_Col_fillCarries : ByteArray := prog_2_method_20_code
abbrev b_Col_moveKeepsProducts : ByteArray := prog_2_method_21_code
abbrev b_Col_moveKeepsPower : ByteArray := prog_2_method_22_code
abbrev b_Col_fullTurnIsPower : ByteArray := prog_2_method_23_code
abbrev b_Sub_reset : ByteArray := prog_4_method_4_code
abbrev b_Set_empty : ByteArray := prog_3_method_2_code
abbrev b_Top_fillWhole : ByteArray := prog_1_method_29_code
abbrev b_Sub_include : ByteArray := prog_4_method_5_code
abbrev b_Set_holds : ByteArray := prog_3_method_4_code
abbrev b_Set_amount : ByteArray := prog_3_method_5_code
abbrev b_Set_member : ByteArray := prog_3_method_6_code
abbrev b_Col_multiply : ByteArray := prog_2_method_10_code
abbrev b_Top_release : ByteArray := prog_1_method_8_code
abbrev b_Top_fixed : ByteArray := prog_1_method_9_code
abbrev b_Top_product : ByteArray := prog_1_method_10_code
abbrev b_Top_isElement : ByteArray := prog_1_method_27_code
abbrev b_Top_times : ByteArray := prog_1_method_11_code
abbrev b_Col_orderOf : ByteArray := prog_2_method_14_code
abbrev b_Mat_floorMod : ByteArray := prog_8_method_50_code
abbrev b_Col_multiple : ByteArray := prog_2_method_15_code
abbrev b_Top_conjugated : ByteArray := prog_1_method_12_code
abbrev b_Col_conjugateOf : ByteArray := prog_2_method_12_code
abbrev b_Col_inverseOf : ByteArray := prog_2_method_11_code
abbrev b_Top_commutator : ByteArray := prog_1_method_13_code
abbrev b_Col_commutatorOf : ByteArray := prog_2_method_13_code
abbrev b_Top_order : ByteArray := prog_1_method_14_code
abbrev b_Top_clear : ByteArray := prog_1_method_15_code
abbrev b_Top_isPlace : ByteArray := prog_1_method_28_code
abbrev b_Sub_amount : ByteArray := prog_4_method_2_code
abbrev b_Top_join : ByteArray := prog_1_method_16_code
abbrev b_Top_spread : ByteArray := prog_1_method_17_code
abbrev b_Sub_includeAllConjugates : ByteArray := prog_4_method_6_code
abbrev b_Sub_includeConjugates : ByteArray := prog_4_method_9_code
abbrev b_Top_commute : ByteArray := prog_1_method_18_code
abbrev b_Sub_becomeCommutators : ByteArray := prog_4_method_7_code
abbrev b_Sub_becomeCopy : ByteArray := prog_4_method_8_code
abbrev b_Top_count : ByteArray := prog_1_method_19_code
abbrev b_Top_has : ByteArray := prog_1_method_20_code
abbrev b_Sub_holds : ByteArray := prog_4_method_3_code
abbrev b_Top_derived : ByteArray := prog_1_method_21_code
abbrev b_Top_seriesAmount : ByteArray := prog_1_method_30_code
abbrev b_Top_lower : ByteArray := prog_1_method_22_code
abbrev b_Top_centre : ByteArray := prog_1_method_23_code
abbrev b_Col_isCentral : ByteArray := prog_2_method_16_code
abbrev b_Top_classes : ByteArray := prog_1_method_24_code
abbrev b_Top_addClass : ByteArray := prog_1_method_31_code
abbrev b_Top_kin : ByteArray := prog_1_method_25_code
abbrev b_Top_head : ByteArray := prog_1_method_26_code
abbrev b_Set_least : ByteArray := prog_3_method_7_code
abbrev b_Law_cell : ByteArray := method_2_code
abbrev b_Mod_init : ByteArray := prog_6_method_1_code
abbrev b_Mod_generators : ByteArray := prog_6_method_3_code
abbrev b_Mod_size : ByteArray := prog_6_method_4_code
abbrev b_Mod_generator : ByteArray := prog_6_method_5_code
abbrev b_Mod_isGenerator : ByteArray := prog_6_method_2_code
abbrev b_Mod_power : ByteArray := prog_6_method_6_code
abbrev b_Mod_conjugate : ByteArray := prog_6_method_7_code
abbrev b_Mod_fix : ByteArray := prog_6_method_14_code
abbrev b_Mod_build : ByteArray := prog_6_method_13_code
abbrev b_Mod_letters : ByteArray := prog_6_method_9_code
abbrev b_Mod_of : ByteArray := prog_6_method_8_code
abbrev b_Mod_turns : ByteArray := prog_6_method_10_code
abbrev b_Mod_widen : ByteArray := prog_6_method_11_code
abbrev b_Mod_enter : ByteArray := prog_6_method_12_code
abbrev b_Mod_release : ByteArray := prog_6_method_15_code
abbrev b_Mod_fixed : ByteArray := prog_6_method_16_code
abbrev b_Mod_product : ByteArray := prog_6_method_18_code
abbrev b_Mod_is : ByteArray := prog_6_method_17_code
abbrev b_Mod_order : ByteArray := prog_6_method_19_code
abbrev b_Mod_times : ByteArray := prog_6_method_20_code
abbrev b_Mod_conjugated : ByteArray := prog_6_method_23_code
abbrev b_Mod_by : ByteArray := prog_6_method_21_code
abbrev b_Mod_commutator : ByteArray := prog_6_method_24_code
abbrev b_Mod_bracket : ByteArray := prog_6_method_22_code
abbrev b_Mod_clear : ByteArray := prog_6_method_30_code
abbrev b_Mod_isPlace : ByteArray := prog_6_method_25_code
abbrev b_Mod_join : ByteArray := prog_6_method_31_code
abbrev b_Mod_take : ByteArray := prog_6_method_28_code
abbrev b_Mod_put : ByteArray := prog_6_method_29_code
abbrev b_Mod_close : ByteArray := prog_6_method_27_code
abbrev b_Mod_worked : ByteArray := prog_6_method_26_code
abbrev b_Mod_spread : ByteArray := prog_6_method_32_code
abbrev b_Mod_commute : ByteArray := prog_6_method_33_code
abbrev b_Mod_count : ByteArray := prog_6_method_34_code
abbrev b_Mod_has : ByteArray := prog_6_method_35_code
abbrev b_Mod_derived : ByteArray := prog_6_method_37_code
abbrev b_Mod_series : ByteArray := prog_6_method_36_code
abbrev b_Mod_lower : ByteArray := prog_6_method_38_code
abbrev b_Mod_centre : ByteArray := prog_6_method_41_code
abbrev b_Mod_classes : ByteArray := prog_6_method_42_code
abbrev b_Mod_least : ByteArray := prog_6_method_39_code
abbrev b_Mod_kin : ByteArray := prog_6_method_43_code
abbrev b_Mod_relatives : ByteArray := prog_6_method_40_code
abbrev b_Mod_head : ByteArray := prog_6_method_44_code
def F_Col : u_T := fun k => match k with
  | 0 => ("CollectedGroup$Collector", "letters", "I", true)
  | 1 => ("CollectedGroup$Collector", "elements", "I", true)
  | 2 => ("CollectedGroup$Collector", "orders", "[I", true)
  | 3 => ("CollectedGroup$Collector", "weights", "[I", true)
  | 4 => ("CollectedGroup$Collector", "powers", "[I", true)
  | 5 => ("CollectedGroup$Collector", "conjugates", "[[I", true)
  | 6 => ("CollectedGroup$Collector", "moved", "[[I", true)
  | _ => ("CollectedGroup$Collector", "carried", "[[I", true)
def t_Col : Nat → FieldType := fun k => match k with
  | 0 => .int
  | 1 => .int
  | 2 => .array (.int)
  | 3 => .array (.int)
  | 4 => .array (.int)
  | 5 => .array (.array (.int))
  | 6 => .array (.array (.int))
  | _ => .array (.array (.int))
theorem n_Col : ∀ a, a < 8 → ∀ b, b < 8 → a ≠ b → (F_Col a).2.1 ≠ (F_Col b).2.1 := by decide +kernel
theorem t_Col_ok : ∀ k, k < 8 → parseFieldDescriptor (F_Col k).2.2.1 = some (t_Col k) := by decide +kernel
def F_Set : u_T := fun k => match k with
  | 0 => ("CollectedGroup$ElementSet", "marks", "[Z", true)
  | 1 => ("CollectedGroup$ElementSet", "members", "[I", true)
  | _ => ("CollectedGroup$ElementSet", "filled", "I", false)
def t_Set : Nat → FieldType := fun k => match k with
  | 0 => .array (.boolean)
  | 1 => .array (.int)
  | _ => .int
theorem n_Set : ∀ a, a < 3 → ∀ b, b < 3 → a ≠ b → (F_Set a).2.1 ≠ (F_Set b).2.1 := by decide +kernel
theorem t_Set_ok : ∀ k, k < 3 → parseFieldDescriptor (F_Set k).2.2.1 = some (t_Set k) := by decide +kernel
def F_Sub : u_T := fun k => match k with
  | 0 => ("CollectedGroup$Subgroup", "group", "LCollectedGroup$Collector;", true)
  | 1 => ("CollectedGroup$Subgroup", "elements", "LCollectedGroup$ElementSet;", true)
  | 2 => ("CollectedGroup$Subgroup", "basis", "[I", true)
  | _ => ("CollectedGroup$Subgroup", "basisLength", "I", false)
def t_Sub : Nat → FieldType := fun k => match k with
  | 0 => .object "CollectedGroup$Collector"
  | 1 => .object "CollectedGroup$ElementSet"
  | 2 => .array (.int)
  | _ => .int
theorem n_Sub : ∀ a, a < 4 → ∀ b, b < 4 → a ≠ b → (F_Sub a).2.1 ≠ (F_Sub b).2.1 := by decide +kernel
theorem t_Sub_ok : ∀ k, k < 4 → parseFieldDescriptor (F_Sub k).2.2.1 = some (t_Sub k) := by decide +kernel
def F_Top : u_T := fun k => match k with
  | 0 => ("CollectedGroup", "group", "LCollectedGroup$Collector;", true)
  | 1 => ("CollectedGroup", "places", "[LCollectedGroup$Subgroup;", true)
  | 2 => ("CollectedGroup", "whole", "LCollectedGroup$Subgroup;", true)
  | 3 => ("CollectedGroup", "term", "LCollectedGroup$Subgroup;", true)
  | 4 => ("CollectedGroup", "result", "LCollectedGroup$Subgroup;", true)
  | 5 => ("CollectedGroup", "kindred", "LCollectedGroup$ElementSet;", true)
  | _ => ("CollectedGroup", "relationsFixed", "Z", false)
def t_Top : Nat → FieldType := fun k => match k with
  | 0 => .object "CollectedGroup$Collector"
  | 1 => .array (.object "CollectedGroup$Subgroup")
  | 2 => .object "CollectedGroup$Subgroup"
  | 3 => .object "CollectedGroup$Subgroup"
  | 4 => .object "CollectedGroup$Subgroup"
  | 5 => .object "CollectedGroup$ElementSet"
  | _ => .boolean
theorem n_Top : ∀ a, a < 7 → ∀ b, b < 7 → a ≠ b → (F_Top a).2.1 ≠ (F_Top b).2.1 := by decide +kernel
theorem t_Top_ok : ∀ k, k < 7 → parseFieldDescriptor (F_Top k).2.2.1 = some (t_Top k) := by decide +kernel
def F_Mod : u_T := fun k => match k with
  | 0 => ("CollectedGroupModel", "generators", "I", true)
  | 1 => ("CollectedGroupModel", "size", "I", true)
  | 2 => ("CollectedGroupModel", "orders", "[I", true)
  | 3 => ("CollectedGroupModel", "weight", "[I", true)
  | 4 => ("CollectedGroupModel", "powers", "[I", true)
  | 5 => ("CollectedGroupModel", "turned", "[I", true)
  | 6 => ("CollectedGroupModel", "isFixed", "Z", false)
  | 7 => ("CollectedGroupModel", "table", "[I", true)
  | 8 => ("CollectedGroupModel", "once", "[I", true)
  | 9 => ("CollectedGroupModel", "many", "[I", true)
  | 10 => ("CollectedGroupModel", "inverses", "[I", true)
  | 11 => ("CollectedGroupModel", "places", "[Z", true)
  | 12 => ("CollectedGroupModel", "work", "[Z", true)
  | _ => ("CollectedGroupModel", "other", "[Z", true)
def t_Mod : Nat → FieldType := fun k => match k with
  | 0 => .int
  | 1 => .int
  | 2 => .array (.int)
  | 3 => .array (.int)
  | 4 => .array (.int)
  | 5 => .array (.int)
  | 6 => .boolean
  | 7 => .array (.int)
  | 8 => .array (.int)
  | 9 => .array (.int)
  | 10 => .array (.int)
  | 11 => .array (.boolean)
  | 12 => .array (.boolean)
  | _ => .array (.boolean)
theorem n_Mod : ∀ a, a < 14 → ∀ b, b < 14 → a ≠ b → (F_Mod a).2.1 ≠ (F_Mod b).2.1 := by decide +kernel
theorem t_Mod_ok : ∀ k, k < 14 → parseFieldDescriptor (F_Mod k).2.2.1 = some (t_Mod k) := by decide +kernel
abbrev CLS : List vw_C := [(R_Col, F_Col, 8), (R_Set, F_Set, 3), (R_Sub, F_Sub, 4), (R_Top, F_Top, 7), (R_Mod, F_Mod, 14)]
theorem hw_words : WALL.all goodWord = true := List.all_eq_true.mpr (fun w h => (List.mem_filter.mp h).2)
theorem hw_wi {w : Cond} (i : Nat) (h : lw_tbl[i]? = some w) (g : goodWord w = true) : w ∈ WALL := List.mem_filter.mpr ⟨List.mem_of_getElem? h, g⟩
end
section
set_option maxRecDepth 100000 in
theorem wi_0 : Cond.selects "CollectedGroup$Collector" ⟨"CollectedGroup$Collector", "fillMoves", "(I)V"⟩ ⟨"CollectedGroup$Collector", "fillMoves", "(I)V"⟩ ∈ WALL := hw_wi 0 rfl rfl
set_option maxRecDepth 100000 in
theorem wi_1 : Cond.selects "CollectedGroup$Collector" ⟨"CollectedGroup$Collector", "movedOnce", "(II)I"⟩ ⟨"CollectedGroup$Collector", "movedOnce", "(II)I"⟩ ∈ WALL := hw_wi 1 rfl rfl
set_option maxRecDepth 100000 in
theorem wi_2 : Cond.selects "CollectedGroup$Collector" ⟨"CollectedGroup$Collector", "multiplyFrom", "(III)I"⟩ ⟨"CollectedGroup$Collector", "multiplyFrom", "(III)I"⟩ ∈ WALL := hw_wi 2 rfl rfl
set_option maxRecDepth 100000 in
theorem wi_3 : Cond.selects "CollectedGroup$Collector" ⟨"CollectedGroup$Collector", "fillCarries", "(I)V"⟩ ⟨"CollectedGroup$Collector", "fillCarries", "(I)V"⟩ ∈ WALL := hw_wi 3 rfl rfl
set_option maxRecDepth 100000 in
theorem wi_4 : Cond.selects "CollectedGroup$Collector" ⟨"CollectedGroup$Collector", "moveKeepsProducts", "(I)Z"⟩ ⟨"CollectedGroup$Collector", "moveKeepsProducts", "(I)Z"⟩ ∈ WALL := hw_wi 4 rfl rfl
set_option maxRecDepth 100000 in
theorem wi_5 : Cond.selects "CollectedGroup$Collector" ⟨"CollectedGroup$Collector", "moveKeepsPower", "(I)Z"⟩ ⟨"CollectedGroup$Collector", "moveKeepsPower", "(I)Z"⟩ ∈ WALL := hw_wi 5 rfl rfl
set_option maxRecDepth 100000 in
theorem wi_6 : Cond.selects "CollectedGroup$Collector" ⟨"CollectedGroup$Collector", "fullTurnIsPower", "(I)Z"⟩ ⟨"CollectedGroup$Collector", "fullTurnIsPower", "(I)Z"⟩ ∈ WALL := hw_wi 6 rfl rfl
set_option maxRecDepth 100000 in
theorem wi_7 : Cond.selects "CollectedGroup" ⟨"CollectedGroup", "fillWhole", "()V"⟩ ⟨"CollectedGroup", "fillWhole", "()V"⟩ ∈ WALL := hw_wi 7 rfl rfl
set_option maxRecDepth 100000 in
theorem wi_8 : Cond.selects "CollectedGroup" ⟨"CollectedGroup", "isElement", "(I)Z"⟩ ⟨"CollectedGroup", "isElement", "(I)Z"⟩ ∈ WALL := hw_wi 8 rfl rfl
set_option maxRecDepth 100000 in
theorem wi_9 : Cond.selects "CollectedGroup" ⟨"CollectedGroup", "isPlace", "(I)Z"⟩ ⟨"CollectedGroup", "isPlace", "(I)Z"⟩ ∈ WALL := hw_wi 9 rfl rfl
set_option maxRecDepth 100000 in
theorem wi_10 : Cond.selects "CollectedGroup$Subgroup" ⟨"CollectedGroup$Subgroup", "includeConjugates", "(ILCollectedGroup$Subgroup;)V"⟩ ⟨"CollectedGroup$Subgroup", "includeConjugates", "(ILCollectedGroup$Subgroup;)V"⟩ ∈ WALL := hw_wi 10 rfl rfl
set_option maxRecDepth 100000 in
theorem wi_11 : Cond.selects "CollectedGroup" ⟨"CollectedGroup", "seriesAmount", "(ILCollectedGroup$Subgroup;)I"⟩ ⟨"CollectedGroup", "seriesAmount", "(ILCollectedGroup$Subgroup;)I"⟩ ∈ WALL := hw_wi 11 rfl rfl
set_option maxRecDepth 100000 in
theorem wi_12 : Cond.selects "CollectedGroup" ⟨"CollectedGroup", "addClass", "(I)V"⟩ ⟨"CollectedGroup", "addClass", "(I)V"⟩ ∈ WALL := hw_wi 12 rfl rfl
set_option maxRecDepth 100000 in
theorem wi_13 : Cond.selects "CollectedGroupModel" ⟨"CollectedGroupModel", "isGenerator", "(I)Z"⟩ ⟨"CollectedGroupModel", "isGenerator", "(I)Z"⟩ ∈ WALL := hw_wi 13 rfl rfl
set_option maxRecDepth 100000 in
theorem wi_14 : Cond.selects "CollectedGroupModel" ⟨"CollectedGroupModel", "build", "()Z"⟩ ⟨"CollectedGroupModel", "build", "()Z"⟩ ∈ WALL := hw_wi 14 rfl rfl
set_option maxRecDepth 100000 in
theorem wi_15 : Cond.selects "CollectedGroupModel" ⟨"CollectedGroupModel", "letters", "(II)I"⟩ ⟨"CollectedGroupModel", "letters", "(II)I"⟩ ∈ WALL := hw_wi 15 rfl rfl
set_option maxRecDepth 100000 in
theorem wi_16 : Cond.selects "CollectedGroupModel" ⟨"CollectedGroupModel", "of", "(II)I"⟩ ⟨"CollectedGroupModel", "of", "(II)I"⟩ ∈ WALL := hw_wi 16 rfl rfl
set_option maxRecDepth 100000 in
theorem wi_17 : Cond.selects "CollectedGroupModel" ⟨"CollectedGroupModel", "turns", "(I)Z"⟩ ⟨"CollectedGroupModel", "turns", "(I)Z"⟩ ∈ WALL := hw_wi 17 rfl rfl
set_option maxRecDepth 100000 in
theorem wi_18 : Cond.selects "CollectedGroupModel" ⟨"CollectedGroupModel", "widen", "(I)V"⟩ ⟨"CollectedGroupModel", "widen", "(I)V"⟩ ∈ WALL := hw_wi 18 rfl rfl
set_option maxRecDepth 100000 in
theorem wi_19 : Cond.selects "CollectedGroupModel" ⟨"CollectedGroupModel", "enter", "(IIII)V"⟩ ⟨"CollectedGroupModel", "enter", "(IIII)V"⟩ ∈ WALL := hw_wi 19 rfl rfl
set_option maxRecDepth 100000 in
theorem wi_20 : Cond.selects "CollectedGroupModel" ⟨"CollectedGroupModel", "is", "(I)Z"⟩ ⟨"CollectedGroupModel", "is", "(I)Z"⟩ ∈ WALL := hw_wi 20 rfl rfl
set_option maxRecDepth 100000 in
theorem wi_21 : Cond.selects "CollectedGroupModel" ⟨"CollectedGroupModel", "by", "(II)I"⟩ ⟨"CollectedGroupModel", "by", "(II)I"⟩ ∈ WALL := hw_wi 21 rfl rfl
set_option maxRecDepth 100000 in
theorem wi_22 : Cond.selects "CollectedGroupModel" ⟨"CollectedGroupModel", "bracket", "(II)I"⟩ ⟨"CollectedGroupModel", "bracket", "(II)I"⟩ ∈ WALL := hw_wi 22 rfl rfl
set_option maxRecDepth 100000 in
theorem wi_23 : Cond.selects "CollectedGroupModel" ⟨"CollectedGroupModel", "isPlace", "(I)Z"⟩ ⟨"CollectedGroupModel", "isPlace", "(I)Z"⟩ ∈ WALL := hw_wi 23 rfl rfl
set_option maxRecDepth 100000 in
theorem wi_24 : Cond.selects "CollectedGroupModel" ⟨"CollectedGroupModel", "take", "(I)V"⟩ ⟨"CollectedGroupModel", "take", "(I)V"⟩ ∈ WALL := hw_wi 24 rfl rfl
set_option maxRecDepth 100000 in
theorem wi_25 : Cond.selects "CollectedGroupModel" ⟨"CollectedGroupModel", "put", "(I)I"⟩ ⟨"CollectedGroupModel", "put", "(I)I"⟩ ∈ WALL := hw_wi 25 rfl rfl
set_option maxRecDepth 100000 in
theorem wi_26 : Cond.selects "CollectedGroupModel" ⟨"CollectedGroupModel", "close", "()V"⟩ ⟨"CollectedGroupModel", "close", "()V"⟩ ∈ WALL := hw_wi 26 rfl rfl
set_option maxRecDepth 100000 in
theorem wi_27 : Cond.selects "CollectedGroupModel" ⟨"CollectedGroupModel", "worked", "()I"⟩ ⟨"CollectedGroupModel", "worked", "()I"⟩ ∈ WALL := hw_wi 27 rfl rfl
set_option maxRecDepth 100000 in
theorem wi_28 : Cond.selects "CollectedGroupModel" ⟨"CollectedGroupModel", "series", "(IZ)I"⟩ ⟨"CollectedGroupModel", "series", "(IZ)I"⟩ ∈ WALL := hw_wi 28 rfl rfl
set_option maxRecDepth 100000 in
theorem wi_29 : Cond.selects "CollectedGroupModel" ⟨"CollectedGroupModel", "least", "(I)I"⟩ ⟨"CollectedGroupModel", "least", "(I)I"⟩ ∈ WALL := hw_wi 29 rfl rfl
set_option maxRecDepth 100000 in
theorem wi_30 : Cond.selects "CollectedGroupModel" ⟨"CollectedGroupModel", "relatives", "(I)I"⟩ ⟨"CollectedGroupModel", "relatives", "(I)I"⟩ ∈ WALL := hw_wi 30 rfl rfl
set_option maxRecDepth 100000 in
theorem wi_31 : Cond.initialized "CollectedGroupLaw" ∈ WALL := hw_wi 31 rfl rfl
set_option maxRecDepth 100000 in
theorem wi_32 : Cond.initialized "CollectedGroup" ∈ WALL := hw_wi 32 rfl rfl
set_option maxRecDepth 100000 in
theorem wi_33 : Cond.initialized "CollectedGroup$Collector" ∈ WALL := hw_wi 33 rfl rfl
set_option maxRecDepth 100000 in
theorem wi_34 : Cond.initialized "java/util/Arrays" ∈ WALL := hw_wi 34 rfl rfl
set_option maxRecDepth 100000 in
theorem wi_35 : Cond.initialized "java/lang/Math" ∈ WALL := hw_wi 35 rfl rfl
set_option maxRecDepth 100000 in
theorem wi_36 : Cond.initialized "java/lang/System" ∈ WALL := hw_wi 36 rfl rfl
set_option maxRecDepth 100000 in
theorem wi_37 : Cond.initialized "CollectedGroup$Subgroup" ∈ WALL := hw_wi 37 rfl rfl
set_option maxRecDepth 100000 in
theorem wi_38 : Cond.initialized "CollectedGroup$ElementSet" ∈ WALL := hw_wi 38 rfl rfl
set_option maxRecDepth 100000 in
theorem wi_39 : Cond.initialized "CollectedGroupModel" ∈ WALL := hw_wi 39 rfl rfl
set_option maxRecDepth 100000 in
theorem wi_40 : Cond.classLink "CollectedGroupLaw" 7 "CollectedGroup" ∈ WALL := hw_wi 40 rfl rfl
set_option maxRecDepth 100000 in
theorem wi_41 : Cond.instantiable "CollectedGroup" 7 ∈ WALL := hw_wi 41 rfl rfl
set_option maxRecDepth 100000 in
theorem wi_42 : Cond.methodLink "CollectedGroupLaw" 15 ⟨"CollectedGroup", "<init>", "(I)V"⟩ ∈ WALL := hw_wi 42 rfl rfl
set_option maxRecDepth 100000 in
theorem wi_43 : Cond.instanceMethod ⟨"CollectedGroup", "<init>", "(I)V"⟩ ∈ WALL := hw_wi 43 rfl rfl
set_option maxRecDepth 100000 in
theorem wi_44 : Cond.code ⟨"CollectedGroup", "<init>", "(I)V"⟩ prog_1_method_1_code 3 none ∈ WALL := hw_wi 44 rfl rfl
set_option maxRecDepth 100000 in
theorem wi_45 : Cond.methodLink "CollectedGroup" 1 ⟨"java/lang/Object", "<init>", "()V"⟩ ∈ WALL := hw_wi 45 rfl rfl
set_option maxRecDepth 100000 in
theorem wi_46 : Cond.instanceMethod ⟨"java/lang/Object", "<init>", "()V"⟩ ∈ WALL := hw_wi 46 rfl rfl
set_option maxRecDepth 100000 in
theorem wi_47 : Cond.code ⟨"java/lang/Object", "<init>", "()V"⟩ object_method_1_code 1 none ∈ WALL := hw_wi 47 rfl rfl
set_option maxRecDepth 100000 in
theorem wi_48 : Cond.classLink "CollectedGroup" 7 "CollectedGroup$Collector" ∈ WALL := hw_wi 48 rfl rfl
set_option maxRecDepth 100000 in
theorem wi_49 : Cond.instantiable "CollectedGroup$Collector" 8 ∈ WALL := hw_wi 49 rfl rfl
set_option maxRecDepth 100000 in
theorem wi_50 : Cond.methodLink "CollectedGroup" 9 ⟨"CollectedGroup", "primeDigits", "(I)[I"⟩ ∈ WALL := hw_wi 50 rfl rfl
set_option maxRecDepth 100000 in
theorem wi_51 : Cond.static ⟨"CollectedGroup", "primeDigits", "(I)[I"⟩ ∈ WALL := hw_wi 51 rfl rfl
set_option maxRecDepth 100000 in
theorem wi_52 : Cond.code ⟨"CollectedGroup", "primeDigits", "(I)[I"⟩ prog_1_method_32_code 6 (some (.array .int)) ∈ WALL := hw_wi 52 rfl rfl
set_option maxRecDepth 100000 in
theorem wi_53 : Cond.methodLink "CollectedGroup" 162 ⟨"CollectedGroup", "isPrimeDigit", "(I)Z"⟩ ∈ WALL := hw_wi 53 rfl rfl
set_option maxRecDepth 100000 in
theorem wi_54 : Cond.static ⟨"CollectedGroup", "isPrimeDigit", "(I)Z"⟩ ∈ WALL := hw_wi 54 rfl rfl
set_option maxRecDepth 100000 in
theorem wi_55 : Cond.code ⟨"CollectedGroup", "isPrimeDigit", "(I)Z"⟩ prog_1_method_33_code 1 (some .boolean) ∈ WALL := hw_wi 55 rfl rfl
set_option maxRecDepth 100000 in
theorem wi_56 : Cond.methodLink "CollectedGroup" 165 ⟨"java/util/Arrays", "copyOf", "([II)[I"⟩ ∈ WALL := hw_wi 56 rfl rfl
set_option maxRecDepth 100000 in
theorem wi_57 : Cond.static ⟨"java/util/Arrays", "copyOf", "([II)[I"⟩ ∈ WALL := hw_wi 57 rfl rfl
set_option maxRecDepth 100000 in
theorem wi_58 : Cond.code ⟨"java/util/Arrays", "copyOf", "([II)[I"⟩ prog_10_method_123_code 3 (some (.array .int)) ∈ WALL := hw_wi 58 rfl rfl
set_option maxRecDepth 100000 in
theorem wi_59 : Cond.methodLink "java/util/Arrays" 316 ⟨"[I", "clone", "()Ljava/lang/Object;"⟩ ∈ WALL := hw_wi 59 rfl rfl
set_option maxRecDepth 100000 in
theorem wi_60 : Cond.sameMethod "[I" "java/lang/Object" "clone" "()Ljava/lang/Object;" ∈ WALL := hw_wi 60 rfl rfl
set_option maxRecDepth 100000 in
theorem wi_61 : Cond.native ⟨"java/lang/Object", "clone", "()Ljava/lang/Object;"⟩ ∈ WALL := hw_wi 61 rfl rfl
set_option maxRecDepth 100000 in
theorem wi_62 : Cond.instanceMethod ⟨"java/lang/Object", "clone", "()Ljava/lang/Object;"⟩ ∈ WALL := hw_wi 62 rfl rfl
set_option maxRecDepth 100000 in
theorem wi_63 : Cond.selects "[I" ⟨"[I", "clone", "()Ljava/lang/Object;"⟩ ⟨"java/lang/Object", "clone", "()Ljava/lang/Object;"⟩ ∈ WALL := hw_wi 63 rfl rfl
set_option maxRecDepth 100000 in
theorem wi_65 : Cond.classLink "java/util/Arrays" 317 "[I" ∈ WALL := hw_wi 65 rfl rfl
set_option maxRecDepth 100000 in
theorem wi_66 : Cond.methodLink "java/util/Arrays" 304 ⟨"java/lang/Math", "min", "(II)I"⟩ ∈ WALL := hw_wi 66 rfl rfl
set_option maxRecDepth 100000 in
theorem wi_67 : Cond.static ⟨"java/lang/Math", "min", "(II)I"⟩ ∈ WALL := hw_wi 67 rfl rfl
set_option maxRecDepth 100000 in
theorem wi_68 : Cond.code ⟨"java/lang/Math", "min", "(II)I"⟩ prog_8_method_69_code 2 (some .int) ∈ WALL := hw_wi 68 rfl rfl
set_option maxRecDepth 100000 in
theorem wi_69 : Cond.methodLink "java/util/Arrays" 150 ⟨"java/lang/System", "arraycopy", "(Ljava/lang/Object;ILjava/lang/Object;II)V"⟩ ∈ WALL := hw_wi 69 rfl rfl
set_option maxRecDepth 100000 in
theorem wi_70 : Cond.static ⟨"java/lang/System", "arraycopy", "(Ljava/lang/Object;ILjava/lang/Object;II)V"⟩ ∈ WALL := hw_wi 70 rfl rfl
set_option maxRecDepth 100000 in
theorem wi_71 : Cond.native ⟨"java/lang/System", "arraycopy", "(Ljava/lang/Object;ILjava/lang/Object;II)V"⟩ ∈ WALL := hw_wi 71 rfl rfl
set_option maxRecDepth 100000 in
theorem wi_72 : Cond.methodLink "CollectedGroup" 15 ⟨"CollectedGroup$Collector", "<init>", "([I)V"⟩ ∈ WALL := hw_wi 72 rfl rfl
set_option maxRecDepth 100000 in
theorem wi_73 : Cond.instanceMethod ⟨"CollectedGroup$Collector", "<init>", "([I)V"⟩ ∈ WALL := hw_wi 73 rfl rfl
set_option maxRecDepth 100000 in
theorem wi_74 : Cond.code ⟨"CollectedGroup$Collector", "<init>", "([I)V"⟩ prog_2_method_1_code 5 none ∈ WALL := hw_wi 74 rfl rfl
set_option maxRecDepth 100000 in
theorem wi_75 : Cond.methodLink "CollectedGroup$Collector" 1 ⟨"java/lang/Object", "<init>", "()V"⟩ ∈ WALL := hw_wi 75 rfl rfl
set_option maxRecDepth 100000 in
theorem wi_76 : Cond.classLink "CollectedGroup$Collector" 23 "[[I" ∈ WALL := hw_wi 76 rfl rfl
set_option maxRecDepth 100000 in
theorem wi_78 : Cond.classLink "CollectedGroup$Collector" 28 "[I" ∈ WALL := hw_wi 78 rfl rfl
set_option maxRecDepth 100000 in
theorem wi_79 : Cond.fieldLink "CollectedGroup$Collector" 7 "CollectedGroup$Collector" "letters" "I" ∈ WALL := hw_wi 79 rfl rfl
set_option maxRecDepth 100000 in
theorem wi_80 : Cond.fieldLink "CollectedGroup$Collector" 35 "CollectedGroup$Collector" "elements" "I" ∈ WALL := hw_wi 80 rfl rfl
set_option maxRecDepth 100000 in
theorem wi_81 : Cond.fieldLink "CollectedGroup$Collector" 13 "CollectedGroup$Collector" "orders" "[I" ∈ WALL := hw_wi 81 rfl rfl
set_option maxRecDepth 100000 in
theorem wi_82 : Cond.fieldLink "CollectedGroup$Collector" 17 "CollectedGroup$Collector" "weights" "[I" ∈ WALL := hw_wi 82 rfl rfl
set_option maxRecDepth 100000 in
theorem wi_83 : Cond.fieldLink "CollectedGroup$Collector" 20 "CollectedGroup$Collector" "powers" "[I" ∈ WALL := hw_wi 83 rfl rfl
set_option maxRecDepth 100000 in
theorem wi_84 : Cond.fieldLink "CollectedGroup$Collector" 25 "CollectedGroup$Collector" "conjugates" "[[I" ∈ WALL := hw_wi 84 rfl rfl
set_option maxRecDepth 100000 in
theorem wi_85 : Cond.fieldLink "CollectedGroup$Collector" 29 "CollectedGroup$Collector" "moved" "[[I" ∈ WALL := hw_wi 85 rfl rfl
set_option maxRecDepth 100000 in
theorem wi_86 : Cond.fieldLink "CollectedGroup$Collector" 32 "CollectedGroup$Collector" "carried" "[[I" ∈ WALL := hw_wi 86 rfl rfl
set_option maxRecDepth 100000 in
theorem wi_87 : Cond.laysFinal "CollectedGroup$Collector" "CollectedGroup$Collector" "letters" "I" ∈ WALL := hw_wi 87 rfl rfl
set_option maxRecDepth 100000 in
theorem wi_88 : Cond.soleField "CollectedGroup$Collector" "letters" ∈ WALL := hw_wi 88 rfl rfl
set_option maxRecDepth 100000 in
theorem wi_89 : Cond.laysFinal "CollectedGroup$Collector" "CollectedGroup$Collector" "elements" "I" ∈ WALL := hw_wi 89 rfl rfl
set_option maxRecDepth 100000 in
theorem wi_90 : Cond.soleField "CollectedGroup$Collector" "elements" ∈ WALL := hw_wi 90 rfl rfl
set_option maxRecDepth 100000 in
theorem wi_91 : Cond.laysFinal "CollectedGroup$Collector" "CollectedGroup$Collector" "orders" "[I" ∈ WALL := hw_wi 91 rfl rfl
set_option maxRecDepth 100000 in
theorem wi_92 : Cond.soleField "CollectedGroup$Collector" "orders" ∈ WALL := hw_wi 92 rfl rfl
set_option maxRecDepth 100000 in
theorem wi_93 : Cond.laysFinal "CollectedGroup$Collector" "CollectedGroup$Collector" "weights" "[I" ∈ WALL := hw_wi 93 rfl rfl
set_option maxRecDepth 100000 in
theorem wi_94 : Cond.soleField "CollectedGroup$Collector" "weights" ∈ WALL := hw_wi 94 rfl rfl
set_option maxRecDepth 100000 in
theorem wi_95 : Cond.laysFinal "CollectedGroup$Collector" "CollectedGroup$Collector" "powers" "[I" ∈ WALL := hw_wi 95 rfl rfl
set_option maxRecDepth 100000 in
theorem wi_96 : Cond.soleField "CollectedGroup$Collector" "powers" ∈ WALL := hw_wi 96 rfl rfl
set_option maxRecDepth 100000 in
theorem wi_97 : Cond.laysFinal "CollectedGroup$Collector" "CollectedGroup$Collector" "conjugates" "[[I" ∈ WALL := hw_wi 97 rfl rfl
set_option maxRecDepth 100000 in
theorem wi_98 : Cond.soleField "CollectedGroup$Collector" "conjugates" ∈ WALL := hw_wi 98 rfl rfl
set_option maxRecDepth 100000 in
theorem wi_99 : Cond.laysFinal "CollectedGroup$Collector" "CollectedGroup$Collector" "moved" "[[I" ∈ WALL := hw_wi 99 rfl rfl
set_option maxRecDepth 100000 in
theorem wi_100 : Cond.soleField "CollectedGroup$Collector" "moved" ∈ WALL := hw_wi 100 rfl rfl
set_option maxRecDepth 100000 in
theorem wi_101 : Cond.laysFinal "CollectedGroup$Collector" "CollectedGroup$Collector" "carried" "[[I" ∈ WALL := hw_wi 101 rfl rfl
set_option maxRecDepth 100000 in
theorem wi_102 : Cond.soleField "CollectedGroup$Collector" "carried" ∈ WALL := hw_wi 102 rfl rfl
set_option maxRecDepth 100000 in
theorem wi_103 : Cond.superclass "CollectedGroup$Collector" "java/lang/Object" ∈ WALL := hw_wi 103 rfl rfl
set_option maxRecDepth 100000 in
theorem wi_104 : Cond.arrayClass .int ∈ WALL := hw_wi 104 rfl rfl
set_option maxRecDepth 100000 in
theorem wi_105 : Cond.classLink "CollectedGroup" 22 "CollectedGroup$Subgroup" ∈ WALL := hw_wi 105 rfl rfl
set_option maxRecDepth 100000 in
theorem wi_107 : Cond.instantiable "CollectedGroup$Subgroup" 4 ∈ WALL := hw_wi 107 rfl rfl
set_option maxRecDepth 100000 in
theorem wi_108 : Cond.methodLink "CollectedGroup" 28 ⟨"CollectedGroup$Subgroup", "<init>", "(LCollectedGroup$Collector;)V"⟩ ∈ WALL := hw_wi 108 rfl rfl
set_option maxRecDepth 100000 in
theorem wi_109 : Cond.instanceMethod ⟨"CollectedGroup$Subgroup", "<init>", "(LCollectedGroup$Collector;)V"⟩ ∈ WALL := hw_wi 109 rfl rfl
set_option maxRecDepth 100000 in
theorem wi_110 : Cond.code ⟨"CollectedGroup$Subgroup", "<init>", "(LCollectedGroup$Collector;)V"⟩ prog_4_method_1_code 2 none ∈ WALL := hw_wi 110 rfl rfl
set_option maxRecDepth 100000 in
theorem wi_111 : Cond.methodLink "CollectedGroup$Subgroup" 3 ⟨"java/lang/Object", "<init>", "()V"⟩ ∈ WALL := hw_wi 111 rfl rfl
set_option maxRecDepth 100000 in
theorem wi_112 : Cond.classLink "CollectedGroup$Subgroup" 15 "CollectedGroup$ElementSet" ∈ WALL := hw_wi 112 rfl rfl
set_option maxRecDepth 100000 in
theorem wi_113 : Cond.instantiable "CollectedGroup$ElementSet" 3 ∈ WALL := hw_wi 113 rfl rfl
set_option maxRecDepth 100000 in
theorem wi_114 : Cond.methodLink "CollectedGroup$Subgroup" 17 ⟨"CollectedGroup$Collector", "elementCount", "()I"⟩ ∈ WALL := hw_wi 114 rfl rfl
set_option maxRecDepth 100000 in
theorem wi_115 : Cond.instanceMethod ⟨"CollectedGroup$Collector", "elementCount", "()I"⟩ ∈ WALL := hw_wi 115 rfl rfl
set_option maxRecDepth 100000 in
theorem wi_116 : Cond.selects "CollectedGroup$Collector" ⟨"CollectedGroup$Collector", "elementCount", "()I"⟩ ⟨"CollectedGroup$Collector", "elementCount", "()I"⟩ ∈ WALL := hw_wi 116 rfl rfl
set_option maxRecDepth 100000 in
theorem wi_117 : Cond.code ⟨"CollectedGroup$Collector", "elementCount", "()I"⟩ prog_2_method_3_code 1 (some .int) ∈ WALL := hw_wi 117 rfl rfl
set_option maxRecDepth 100000 in
theorem wi_118 : Cond.methodLink "CollectedGroup$Subgroup" 23 ⟨"CollectedGroup$ElementSet", "<init>", "(I)V"⟩ ∈ WALL := hw_wi 118 rfl rfl
set_option maxRecDepth 100000 in
theorem wi_119 : Cond.instanceMethod ⟨"CollectedGroup$ElementSet", "<init>", "(I)V"⟩ ∈ WALL := hw_wi 119 rfl rfl
set_option maxRecDepth 100000 in
theorem wi_120 : Cond.code ⟨"CollectedGroup$ElementSet", "<init>", "(I)V"⟩ prog_3_method_1_code 2 none ∈ WALL := hw_wi 120 rfl rfl
set_option maxRecDepth 100000 in
theorem wi_121 : Cond.methodLink "CollectedGroup$ElementSet" 3 ⟨"java/lang/Object", "<init>", "()V"⟩ ∈ WALL := hw_wi 121 rfl rfl
set_option maxRecDepth 100000 in
theorem wi_122 : Cond.fieldLink "CollectedGroup$ElementSet" 9 "CollectedGroup$ElementSet" "marks" "[Z" ∈ WALL := hw_wi 122 rfl rfl
set_option maxRecDepth 100000 in
theorem wi_123 : Cond.fieldLink "CollectedGroup$ElementSet" 15 "CollectedGroup$ElementSet" "members" "[I" ∈ WALL := hw_wi 123 rfl rfl
set_option maxRecDepth 100000 in
theorem wi_124 : Cond.fieldLink "CollectedGroup$ElementSet" 19 "CollectedGroup$ElementSet" "filled" "I" ∈ WALL := hw_wi 124 rfl rfl
set_option maxRecDepth 100000 in
theorem wi_125 : Cond.laysFinal "CollectedGroup$ElementSet" "CollectedGroup$ElementSet" "marks" "[Z" ∈ WALL := hw_wi 125 rfl rfl
set_option maxRecDepth 100000 in
theorem wi_126 : Cond.soleField "CollectedGroup$ElementSet" "marks" ∈ WALL := hw_wi 126 rfl rfl
set_option maxRecDepth 100000 in
theorem wi_127 : Cond.laysFinal "CollectedGroup$ElementSet" "CollectedGroup$ElementSet" "members" "[I" ∈ WALL := hw_wi 127 rfl rfl
set_option maxRecDepth 100000 in
theorem wi_128 : Cond.soleField "CollectedGroup$ElementSet" "members" ∈ WALL := hw_wi 128 rfl rfl
set_option maxRecDepth 100000 in
theorem wi_129 : Cond.lays "CollectedGroup$ElementSet" "CollectedGroup$ElementSet" "filled" "I" ∈ WALL := hw_wi 129 rfl rfl
set_option maxRecDepth 100000 in
theorem wi_130 : Cond.soleField "CollectedGroup$ElementSet" "filled" ∈ WALL := hw_wi 130 rfl rfl
set_option maxRecDepth 100000 in
theorem wi_131 : Cond.superclass "CollectedGroup$ElementSet" "java/lang/Object" ∈ WALL := hw_wi 131 rfl rfl
set_option maxRecDepth 100000 in
theorem wi_132 : Cond.arrayClass .boolean ∈ WALL := hw_wi 132 rfl rfl
set_option maxRecDepth 100000 in
theorem wi_133 : Cond.methodLink "CollectedGroup$Subgroup" 38 ⟨"CollectedGroup$ElementSet", "add", "(I)V"⟩ ∈ WALL := hw_wi 133 rfl rfl
set_option maxRecDepth 100000 in
theorem wi_134 : Cond.instanceMethod ⟨"CollectedGroup$ElementSet", "add", "(I)V"⟩ ∈ WALL := hw_wi 134 rfl rfl
set_option maxRecDepth 100000 in
theorem wi_135 : Cond.selects "CollectedGroup$ElementSet" ⟨"CollectedGroup$ElementSet", "add", "(I)V"⟩ ⟨"CollectedGroup$ElementSet", "add", "(I)V"⟩ ∈ WALL := hw_wi 135 rfl rfl
set_option maxRecDepth 100000 in
theorem wi_136 : Cond.code ⟨"CollectedGroup$ElementSet", "add", "(I)V"⟩ prog_3_method_3_code 2 none ∈ WALL := hw_wi 136 rfl rfl
set_option maxRecDepth 100000 in
theorem wi_137 : Cond.fieldLink "CollectedGroup$Subgroup" 9 "CollectedGroup$Subgroup" "group" "LCollectedGroup$Collector;" ∈ WALL := hw_wi 137 rfl rfl
set_option maxRecDepth 100000 in
theorem wi_138 : Cond.fieldLink "CollectedGroup$Subgroup" 26 "CollectedGroup$Subgroup" "elements" "LCollectedGroup$ElementSet;" ∈ WALL := hw_wi 138 rfl rfl
set_option maxRecDepth 100000 in
theorem wi_139 : Cond.fieldLink "CollectedGroup$Subgroup" 30 "CollectedGroup$Subgroup" "basis" "[I" ∈ WALL := hw_wi 139 rfl rfl
set_option maxRecDepth 100000 in
theorem wi_140 : Cond.fieldLink "CollectedGroup$Subgroup" 34 "CollectedGroup$Subgroup" "basisLength" "I" ∈ WALL := hw_wi 140 rfl rfl
set_option maxRecDepth 100000 in
theorem wi_141 : Cond.laysFinal "CollectedGroup$Subgroup" "CollectedGroup$Subgroup" "group" "LCollectedGroup$Collector;" ∈ WALL := hw_wi 141 rfl rfl
set_option maxRecDepth 100000 in
theorem wi_142 : Cond.soleField "CollectedGroup$Subgroup" "group" ∈ WALL := hw_wi 142 rfl rfl
set_option maxRecDepth 100000 in
theorem wi_143 : Cond.laysFinal "CollectedGroup$Subgroup" "CollectedGroup$Subgroup" "elements" "LCollectedGroup$ElementSet;" ∈ WALL := hw_wi 143 rfl rfl
set_option maxRecDepth 100000 in
theorem wi_144 : Cond.soleField "CollectedGroup$Subgroup" "elements" ∈ WALL := hw_wi 144 rfl rfl
set_option maxRecDepth 100000 in
theorem wi_145 : Cond.laysFinal "CollectedGroup$Subgroup" "CollectedGroup$Subgroup" "basis" "[I" ∈ WALL := hw_wi 145 rfl rfl
set_option maxRecDepth 100000 in
theorem wi_146 : Cond.soleField "CollectedGroup$Subgroup" "basis" ∈ WALL := hw_wi 146 rfl rfl
set_option maxRecDepth 100000 in
theorem wi_147 : Cond.lays "CollectedGroup$Subgroup" "CollectedGroup$Subgroup" "basisLength" "I" ∈ WALL := hw_wi 147 rfl rfl
set_option maxRecDepth 100000 in
theorem wi_148 : Cond.soleField "CollectedGroup$Subgroup" "basisLength" ∈ WALL := hw_wi 148 rfl rfl
set_option maxRecDepth 100000 in
theorem wi_149 : Cond.superclass "CollectedGroup$Subgroup" "java/lang/Object" ∈ WALL := hw_wi 149 rfl rfl
set_option maxRecDepth 100000 in
theorem wi_150 : Cond.classLink "CollectedGroup" 41 "CollectedGroup$ElementSet" ∈ WALL := hw_wi 150 rfl rfl
set_option maxRecDepth 100000 in
theorem wi_151 : Cond.methodLink "CollectedGroup" 43 ⟨"CollectedGroup$Collector", "elementCount", "()I"⟩ ∈ WALL := hw_wi 151 rfl rfl
set_option maxRecDepth 100000 in
theorem wi_152 : Cond.methodLink "CollectedGroup" 47 ⟨"CollectedGroup$ElementSet", "<init>", "(I)V"⟩ ∈ WALL := hw_wi 152 rfl rfl
set_option maxRecDepth 100000 in
theorem wi_153 : Cond.fieldLink "CollectedGroup" 18 "CollectedGroup" "group" "LCollectedGroup$Collector;" ∈ WALL := hw_wi 153 rfl rfl
set_option maxRecDepth 100000 in
theorem wi_154 : Cond.fieldLink "CollectedGroup" 24 "CollectedGroup" "places" "[LCollectedGroup$Subgroup;" ∈ WALL := hw_wi 154 rfl rfl
set_option maxRecDepth 100000 in
theorem wi_155 : Cond.fieldLink "CollectedGroup" 31 "CollectedGroup" "whole" "LCollectedGroup$Subgroup;" ∈ WALL := hw_wi 155 rfl rfl
set_option maxRecDepth 100000 in
theorem wi_156 : Cond.fieldLink "CollectedGroup" 35 "CollectedGroup" "term" "LCollectedGroup$Subgroup;" ∈ WALL := hw_wi 156 rfl rfl
set_option maxRecDepth 100000 in
theorem wi_157 : Cond.fieldLink "CollectedGroup" 38 "CollectedGroup" "result" "LCollectedGroup$Subgroup;" ∈ WALL := hw_wi 157 rfl rfl
set_option maxRecDepth 100000 in
theorem wi_158 : Cond.fieldLink "CollectedGroup" 50 "CollectedGroup" "kindred" "LCollectedGroup$ElementSet;" ∈ WALL := hw_wi 158 rfl rfl
set_option maxRecDepth 100000 in
theorem wi_159 : Cond.fieldLink "CollectedGroup" 54 "CollectedGroup" "relationsFixed" "Z" ∈ WALL := hw_wi 159 rfl rfl
set_option maxRecDepth 100000 in
theorem wi_160 : Cond.laysFinal "CollectedGroup" "CollectedGroup" "group" "LCollectedGroup$Collector;" ∈ WALL := hw_wi 160 rfl rfl
set_option maxRecDepth 100000 in
theorem wi_161 : Cond.soleField "CollectedGroup" "group" ∈ WALL := hw_wi 161 rfl rfl
set_option maxRecDepth 100000 in
theorem wi_162 : Cond.laysFinal "CollectedGroup" "CollectedGroup" "places" "[LCollectedGroup$Subgroup;" ∈ WALL := hw_wi 162 rfl rfl
set_option maxRecDepth 100000 in
theorem wi_163 : Cond.soleField "CollectedGroup" "places" ∈ WALL := hw_wi 163 rfl rfl
set_option maxRecDepth 100000 in
theorem wi_164 : Cond.laysFinal "CollectedGroup" "CollectedGroup" "whole" "LCollectedGroup$Subgroup;" ∈ WALL := hw_wi 164 rfl rfl
set_option maxRecDepth 100000 in
theorem wi_165 : Cond.soleField "CollectedGroup" "whole" ∈ WALL := hw_wi 165 rfl rfl
set_option maxRecDepth 100000 in
theorem wi_166 : Cond.laysFinal "CollectedGroup" "CollectedGroup" "term" "LCollectedGroup$Subgroup;" ∈ WALL := hw_wi 166 rfl rfl
set_option maxRecDepth 100000 in
theorem wi_167 : Cond.soleField "CollectedGroup" "term" ∈ WALL := hw_wi 167 rfl rfl
set_option maxRecDepth 100000 in
theorem wi_168 : Cond.laysFinal "CollectedGroup" "CollectedGroup" "result" "LCollectedGroup$Subgroup;" ∈ WALL := hw_wi 168 rfl rfl
set_option maxRecDepth 100000 in
theorem wi_169 : Cond.soleField "CollectedGroup" "result" ∈ WALL := hw_wi 169 rfl rfl
set_option maxRecDepth 100000 in
theorem wi_170 : Cond.laysFinal "CollectedGroup" "CollectedGroup" "kindred" "LCollectedGroup$ElementSet;" ∈ WALL := hw_wi 170 rfl rfl
set_option maxRecDepth 100000 in
theorem wi_171 : Cond.soleField "CollectedGroup" "kindred" ∈ WALL := hw_wi 171 rfl rfl
set_option maxRecDepth 100000 in
theorem wi_172 : Cond.lays "CollectedGroup" "CollectedGroup" "relationsFixed" "Z" ∈ WALL := hw_wi 172 rfl rfl
set_option maxRecDepth 100000 in
theorem wi_173 : Cond.soleField "CollectedGroup" "relationsFixed" ∈ WALL := hw_wi 173 rfl rfl
set_option maxRecDepth 100000 in
theorem wi_174 : Cond.superclass "CollectedGroup" "java/lang/Object" ∈ WALL := hw_wi 174 rfl rfl
set_option maxRecDepth 100000 in
theorem wi_175 : Cond.methodLink "CollectedGroupLaw" 21 ⟨"CollectedGroup", "generators", "()I"⟩ ∈ WALL := hw_wi 175 rfl rfl
set_option maxRecDepth 100000 in
theorem wi_176 : Cond.instanceMethod ⟨"CollectedGroup", "generators", "()I"⟩ ∈ WALL := hw_wi 176 rfl rfl
set_option maxRecDepth 100000 in
theorem wi_177 : Cond.selects "CollectedGroup" ⟨"CollectedGroup", "generators", "()I"⟩ ⟨"CollectedGroup", "generators", "()I"⟩ ∈ WALL := hw_wi 177 rfl rfl
set_option maxRecDepth 100000 in
theorem wi_178 : Cond.code ⟨"CollectedGroup", "generators", "()I"⟩ prog_1_method_2_code 1 (some .int) ∈ WALL := hw_wi 178 rfl rfl
set_option maxRecDepth 100000 in
theorem wi_179 : Cond.methodLink "CollectedGroup" 58 ⟨"CollectedGroup$Collector", "letterCount", "()I"⟩ ∈ WALL := hw_wi 179 rfl rfl
set_option maxRecDepth 100000 in
theorem wi_180 : Cond.instanceMethod ⟨"CollectedGroup$Collector", "letterCount", "()I"⟩ ∈ WALL := hw_wi 180 rfl rfl
set_option maxRecDepth 100000 in
theorem wi_181 : Cond.selects "CollectedGroup$Collector" ⟨"CollectedGroup$Collector", "letterCount", "()I"⟩ ⟨"CollectedGroup$Collector", "letterCount", "()I"⟩ ∈ WALL := hw_wi 181 rfl rfl
set_option maxRecDepth 100000 in
theorem wi_182 : Cond.code ⟨"CollectedGroup$Collector", "letterCount", "()I"⟩ prog_2_method_2_code 1 (some .int) ∈ WALL := hw_wi 182 rfl rfl
set_option maxRecDepth 100000 in
theorem wi_183 : Cond.methodLink "CollectedGroupLaw" 26 ⟨"CollectedGroup", "size", "()I"⟩ ∈ WALL := hw_wi 183 rfl rfl
set_option maxRecDepth 100000 in
theorem wi_184 : Cond.instanceMethod ⟨"CollectedGroup", "size", "()I"⟩ ∈ WALL := hw_wi 184 rfl rfl
set_option maxRecDepth 100000 in
theorem wi_185 : Cond.selects "CollectedGroup" ⟨"CollectedGroup", "size", "()I"⟩ ⟨"CollectedGroup", "size", "()I"⟩ ∈ WALL := hw_wi 185 rfl rfl
set_option maxRecDepth 100000 in
theorem wi_186 : Cond.code ⟨"CollectedGroup", "size", "()I"⟩ prog_1_method_3_code 1 (some .int) ∈ WALL := hw_wi 186 rfl rfl
set_option maxRecDepth 100000 in
theorem wi_187 : Cond.methodLink "CollectedGroupLaw" 30 ⟨"CollectedGroup", "generator", "(I)I"⟩ ∈ WALL := hw_wi 187 rfl rfl
set_option maxRecDepth 100000 in
theorem wi_188 : Cond.instanceMethod ⟨"CollectedGroup", "generator", "(I)I"⟩ ∈ WALL := hw_wi 188 rfl rfl
set_option maxRecDepth 100000 in
theorem wi_189 : Cond.selects "CollectedGroup" ⟨"CollectedGroup", "generator", "(I)I"⟩ ⟨"CollectedGroup", "generator", "(I)I"⟩ ∈ WALL := hw_wi 189 rfl rfl
set_option maxRecDepth 100000 in
theorem wi_190 : Cond.code ⟨"CollectedGroup", "generator", "(I)I"⟩ prog_1_method_4_code 2 (some .int) ∈ WALL := hw_wi 190 rfl rfl
set_option maxRecDepth 100000 in
theorem wi_191 : Cond.methodLink "CollectedGroup" 61 ⟨"CollectedGroup$Collector", "isLetter", "(I)Z"⟩ ∈ WALL := hw_wi 191 rfl rfl
set_option maxRecDepth 100000 in
theorem wi_192 : Cond.instanceMethod ⟨"CollectedGroup$Collector", "isLetter", "(I)Z"⟩ ∈ WALL := hw_wi 192 rfl rfl
set_option maxRecDepth 100000 in
theorem wi_193 : Cond.selects "CollectedGroup$Collector" ⟨"CollectedGroup$Collector", "isLetter", "(I)Z"⟩ ⟨"CollectedGroup$Collector", "isLetter", "(I)Z"⟩ ∈ WALL := hw_wi 193 rfl rfl
set_option maxRecDepth 100000 in
theorem wi_194 : Cond.code ⟨"CollectedGroup$Collector", "isLetter", "(I)Z"⟩ prog_2_method_4_code 2 (some .boolean) ∈ WALL := hw_wi 194 rfl rfl
set_option maxRecDepth 100000 in
theorem wi_195 : Cond.methodLink "CollectedGroup" 65 ⟨"CollectedGroup$Collector", "letter", "(I)I"⟩ ∈ WALL := hw_wi 195 rfl rfl
set_option maxRecDepth 100000 in
theorem wi_196 : Cond.instanceMethod ⟨"CollectedGroup$Collector", "letter", "(I)I"⟩ ∈ WALL := hw_wi 196 rfl rfl
set_option maxRecDepth 100000 in
theorem wi_197 : Cond.selects "CollectedGroup$Collector" ⟨"CollectedGroup$Collector", "letter", "(I)I"⟩ ⟨"CollectedGroup$Collector", "letter", "(I)I"⟩ ∈ WALL := hw_wi 197 rfl rfl
set_option maxRecDepth 100000 in
theorem wi_198 : Cond.code ⟨"CollectedGroup$Collector", "letter", "(I)I"⟩ prog_2_method_5_code 2 (some .int) ∈ WALL := hw_wi 198 rfl rfl
set_option maxRecDepth 100000 in
theorem wi_199 : Cond.methodLink "CollectedGroupLaw" 35 ⟨"CollectedGroup", "power", "(II)Z"⟩ ∈ WALL := hw_wi 199 rfl rfl
set_option maxRecDepth 100000 in
theorem wi_200 : Cond.instanceMethod ⟨"CollectedGroup", "power", "(II)Z"⟩ ∈ WALL := hw_wi 200 rfl rfl
set_option maxRecDepth 100000 in
theorem wi_201 : Cond.selects "CollectedGroup" ⟨"CollectedGroup", "power", "(II)Z"⟩ ⟨"CollectedGroup", "power", "(II)Z"⟩ ∈ WALL := hw_wi 201 rfl rfl
set_option maxRecDepth 100000 in
theorem wi_202 : Cond.code ⟨"CollectedGroup", "power", "(II)Z"⟩ prog_1_method_5_code 3 (some .boolean) ∈ WALL := hw_wi 202 rfl rfl
set_option maxRecDepth 100000 in
theorem wi_203 : Cond.methodLink "CollectedGroup" 69 ⟨"CollectedGroup$Collector", "isWordBehind", "(II)Z"⟩ ∈ WALL := hw_wi 203 rfl rfl
set_option maxRecDepth 100000 in
theorem wi_204 : Cond.instanceMethod ⟨"CollectedGroup$Collector", "isWordBehind", "(II)Z"⟩ ∈ WALL := hw_wi 204 rfl rfl
set_option maxRecDepth 100000 in
theorem wi_205 : Cond.selects "CollectedGroup$Collector" ⟨"CollectedGroup$Collector", "isWordBehind", "(II)Z"⟩ ⟨"CollectedGroup$Collector", "isWordBehind", "(II)Z"⟩ ∈ WALL := hw_wi 205 rfl rfl
set_option maxRecDepth 100000 in
theorem wi_206 : Cond.code ⟨"CollectedGroup$Collector", "isWordBehind", "(II)Z"⟩ prog_2_method_6_code 3 (some .boolean) ∈ WALL := hw_wi 206 rfl rfl
set_option maxRecDepth 100000 in
theorem wi_207 : Cond.methodLink "CollectedGroup$Collector" 38 ⟨"CollectedGroup$Collector", "isLetter", "(I)Z"⟩ ∈ WALL := hw_wi 207 rfl rfl
set_option maxRecDepth 100000 in
theorem wi_208 : Cond.methodLink "CollectedGroup" 73 ⟨"CollectedGroup$Collector", "setPower", "(II)V"⟩ ∈ WALL := hw_wi 208 rfl rfl
set_option maxRecDepth 100000 in
theorem wi_209 : Cond.instanceMethod ⟨"CollectedGroup$Collector", "setPower", "(II)V"⟩ ∈ WALL := hw_wi 209 rfl rfl
set_option maxRecDepth 100000 in
theorem wi_210 : Cond.selects "CollectedGroup$Collector" ⟨"CollectedGroup$Collector", "setPower", "(II)V"⟩ ⟨"CollectedGroup$Collector", "setPower", "(II)V"⟩ ∈ WALL := hw_wi 210 rfl rfl
set_option maxRecDepth 100000 in
theorem wi_211 : Cond.code ⟨"CollectedGroup$Collector", "setPower", "(II)V"⟩ prog_2_method_7_code 3 none ∈ WALL := hw_wi 211 rfl rfl
set_option maxRecDepth 100000 in
theorem wi_212 : Cond.methodLink "CollectedGroupLaw" 40 ⟨"CollectedGroup", "conjugate", "(III)Z"⟩ ∈ WALL := hw_wi 212 rfl rfl
set_option maxRecDepth 100000 in
theorem wi_213 : Cond.instanceMethod ⟨"CollectedGroup", "conjugate", "(III)Z"⟩ ∈ WALL := hw_wi 213 rfl rfl
set_option maxRecDepth 100000 in
theorem wi_214 : Cond.selects "CollectedGroup" ⟨"CollectedGroup", "conjugate", "(III)Z"⟩ ⟨"CollectedGroup", "conjugate", "(III)Z"⟩ ∈ WALL := hw_wi 214 rfl rfl
set_option maxRecDepth 100000 in
theorem wi_215 : Cond.code ⟨"CollectedGroup", "conjugate", "(III)Z"⟩ prog_1_method_6_code 4 (some .boolean) ∈ WALL := hw_wi 215 rfl rfl
set_option maxRecDepth 100000 in
theorem wi_216 : Cond.methodLink "CollectedGroup" 77 ⟨"CollectedGroup$Collector", "setConjugate", "(III)V"⟩ ∈ WALL := hw_wi 216 rfl rfl
set_option maxRecDepth 100000 in
theorem wi_217 : Cond.instanceMethod ⟨"CollectedGroup$Collector", "setConjugate", "(III)V"⟩ ∈ WALL := hw_wi 217 rfl rfl
set_option maxRecDepth 100000 in
theorem wi_218 : Cond.selects "CollectedGroup$Collector" ⟨"CollectedGroup$Collector", "setConjugate", "(III)V"⟩ ⟨"CollectedGroup$Collector", "setConjugate", "(III)V"⟩ ∈ WALL := hw_wi 218 rfl rfl
set_option maxRecDepth 100000 in
theorem wi_219 : Cond.code ⟨"CollectedGroup$Collector", "setConjugate", "(III)V"⟩ prog_2_method_8_code 4 none ∈ WALL := hw_wi 219 rfl rfl
set_option maxRecDepth 100000 in
theorem wi_220 : Cond.methodLink "CollectedGroupLaw" 45 ⟨"CollectedGroup", "fix", "()Z"⟩ ∈ WALL := hw_wi 220 rfl rfl
set_option maxRecDepth 100000 in
theorem wi_221 : Cond.instanceMethod ⟨"CollectedGroup", "fix", "()Z"⟩ ∈ WALL := hw_wi 221 rfl rfl
set_option maxRecDepth 100000 in
theorem wi_222 : Cond.selects "CollectedGroup" ⟨"CollectedGroup", "fix", "()Z"⟩ ⟨"CollectedGroup", "fix", "()Z"⟩ ∈ WALL := hw_wi 222 rfl rfl
set_option maxRecDepth 100000 in
theorem wi_223 : Cond.code ⟨"CollectedGroup", "fix", "()Z"⟩ prog_1_method_7_code 2 (some .boolean) ∈ WALL := hw_wi 223 rfl rfl
set_option maxRecDepth 100000 in
theorem wi_224 : Cond.methodLink "CollectedGroup" 81 ⟨"CollectedGroup$Collector", "build", "()Z"⟩ ∈ WALL := hw_wi 224 rfl rfl
set_option maxRecDepth 100000 in
theorem wi_225 : Cond.instanceMethod ⟨"CollectedGroup$Collector", "build", "()Z"⟩ ∈ WALL := hw_wi 225 rfl rfl
set_option maxRecDepth 100000 in
theorem wi_226 : Cond.selects "CollectedGroup$Collector" ⟨"CollectedGroup$Collector", "build", "()Z"⟩ ⟨"CollectedGroup$Collector", "build", "()Z"⟩ ∈ WALL := hw_wi 226 rfl rfl
set_option maxRecDepth 100000 in
theorem wi_227 : Cond.code ⟨"CollectedGroup$Collector", "build", "()Z"⟩ prog_2_method_9_code 2 (some .boolean) ∈ WALL := hw_wi 227 rfl rfl
set_option maxRecDepth 100000 in
theorem wi_228 : Cond.methodLink "CollectedGroup$Collector" 42 ⟨"CollectedGroup$Collector", "fillMoves", "(I)V"⟩ ∈ WALL := hw_wi 228 rfl rfl
set_option maxRecDepth 100000 in
theorem wi_230 : Cond.instanceMethod ⟨"CollectedGroup$Collector", "fillMoves", "(I)V"⟩ ∈ WALL := hw_wi 230 rfl rfl
set_option maxRecDepth 100000 in
theorem wi_231 : Cond.code ⟨"CollectedGroup$Collector", "fillMoves", "(I)V"⟩ prog_2_method_18_code 5 none ∈ WALL := hw_wi 231 rfl rfl
set_option maxRecDepth 100000 in
theorem wi_232 : Cond.methodLink "CollectedGroup$Collector" 73 ⟨"CollectedGroup$Collector", "movedOnce", "(II)I"⟩ ∈ WALL := hw_wi 232 rfl rfl
set_option maxRecDepth 100000 in
theorem wi_234 : Cond.instanceMethod ⟨"CollectedGroup$Collector", "movedOnce", "(II)I"⟩ ∈ WALL := hw_wi 234 rfl rfl
set_option maxRecDepth 100000 in
theorem wi_235 : Cond.code ⟨"CollectedGroup$Collector", "movedOnce", "(II)I"⟩ prog_2_method_19_code 6 (some .int) ∈ WALL := hw_wi 235 rfl rfl
set_option maxRecDepth 100000 in
theorem wi_236 : Cond.methodLink "CollectedGroup$Collector" 58 ⟨"CollectedGroup$Collector", "multiplyFrom", "(III)I"⟩ ∈ WALL := hw_wi 236 rfl rfl
set_option maxRecDepth 100000 in
theorem wi_238 : Cond.instanceMethod ⟨"CollectedGroup$Collector", "multiplyFrom", "(III)I"⟩ ∈ WALL := hw_wi 238 rfl rfl
set_option maxRecDepth 100000 in
theorem wi_239 : Cond.code ⟨"CollectedGroup$Collector", "multiplyFrom", "(III)I"⟩ prog_2_method_17_code 12 (some .int) ∈ WALL := hw_wi 239 rfl rfl
set_option maxRecDepth 100000 in
theorem wi_240 : Cond.methodLink "CollectedGroup$Collector" 46 ⟨"CollectedGroup$Collector", "fillCarries", "(I)V"⟩ ∈ WALL := hw_wi 240 rfl rfl
set_option maxRecDepth 100000 in
theorem wi_242 : Cond.instanceMethod ⟨"CollectedGroup$Collector", "fillCarries", "(I)V"⟩ ∈ WALL := hw_wi 242 rfl rfl
set_option maxRecDepth 100000 in
theorem wi_243 : Cond.code ⟨"CollectedGroup$Collector", "fillCarries", "(I)V"⟩ prog_2_method_20_code 4 none ∈ WALL := hw_wi 243 rfl rfl
set_option maxRecDepth 100000 in
theorem wi_244 : Cond.methodLink "CollectedGroup$Collector" 49 ⟨"CollectedGroup$Collector", "moveKeepsProducts", "(I)Z"⟩ ∈ WALL := hw_wi 244 rfl rfl
set_option maxRecDepth 100000 in
theorem wi_246 : Cond.instanceMethod ⟨"CollectedGroup$Collector", "moveKeepsProducts", "(I)Z"⟩ ∈ WALL := hw_wi 246 rfl rfl
set_option maxRecDepth 100000 in
theorem wi_247 : Cond.code ⟨"CollectedGroup$Collector", "moveKeepsProducts", "(I)Z"⟩ prog_2_method_21_code 8 (some .boolean) ∈ WALL := hw_wi 247 rfl rfl
set_option maxRecDepth 100000 in
theorem wi_248 : Cond.methodLink "CollectedGroup$Collector" 52 ⟨"CollectedGroup$Collector", "moveKeepsPower", "(I)Z"⟩ ∈ WALL := hw_wi 248 rfl rfl
set_option maxRecDepth 100000 in
theorem wi_250 : Cond.instanceMethod ⟨"CollectedGroup$Collector", "moveKeepsPower", "(I)Z"⟩ ∈ WALL := hw_wi 250 rfl rfl
set_option maxRecDepth 100000 in
theorem wi_251 : Cond.code ⟨"CollectedGroup$Collector", "moveKeepsPower", "(I)Z"⟩ prog_2_method_22_code 2 (some .boolean) ∈ WALL := hw_wi 251 rfl rfl
set_option maxRecDepth 100000 in
theorem wi_252 : Cond.methodLink "CollectedGroup$Collector" 55 ⟨"CollectedGroup$Collector", "fullTurnIsPower", "(I)Z"⟩ ∈ WALL := hw_wi 252 rfl rfl
set_option maxRecDepth 100000 in
theorem wi_254 : Cond.instanceMethod ⟨"CollectedGroup$Collector", "fullTurnIsPower", "(I)Z"⟩ ∈ WALL := hw_wi 254 rfl rfl
set_option maxRecDepth 100000 in
theorem wi_255 : Cond.code ⟨"CollectedGroup$Collector", "fullTurnIsPower", "(I)Z"⟩ prog_2_method_23_code 7 (some .boolean) ∈ WALL := hw_wi 255 rfl rfl
set_option maxRecDepth 100000 in
theorem wi_256 : Cond.methodLink "CollectedGroup" 85 ⟨"CollectedGroup$Subgroup", "reset", "()V"⟩ ∈ WALL := hw_wi 256 rfl rfl
set_option maxRecDepth 100000 in
theorem wi_257 : Cond.instanceMethod ⟨"CollectedGroup$Subgroup", "reset", "()V"⟩ ∈ WALL := hw_wi 257 rfl rfl
set_option maxRecDepth 100000 in
theorem wi_258 : Cond.selects "CollectedGroup$Subgroup" ⟨"CollectedGroup$Subgroup", "reset", "()V"⟩ ⟨"CollectedGroup$Subgroup", "reset", "()V"⟩ ∈ WALL := hw_wi 258 rfl rfl
set_option maxRecDepth 100000 in
theorem wi_259 : Cond.code ⟨"CollectedGroup$Subgroup", "reset", "()V"⟩ prog_4_method_4_code 1 none ∈ WALL := hw_wi 259 rfl rfl
set_option maxRecDepth 100000 in
theorem wi_260 : Cond.methodLink "CollectedGroup$Subgroup" 48 ⟨"CollectedGroup$ElementSet", "empty", "()V"⟩ ∈ WALL := hw_wi 260 rfl rfl
set_option maxRecDepth 100000 in
theorem wi_261 : Cond.instanceMethod ⟨"CollectedGroup$ElementSet", "empty", "()V"⟩ ∈ WALL := hw_wi 261 rfl rfl
set_option maxRecDepth 100000 in
theorem wi_262 : Cond.selects "CollectedGroup$ElementSet" ⟨"CollectedGroup$ElementSet", "empty", "()V"⟩ ⟨"CollectedGroup$ElementSet", "empty", "()V"⟩ ∈ WALL := hw_wi 262 rfl rfl
set_option maxRecDepth 100000 in
theorem wi_263 : Cond.code ⟨"CollectedGroup$ElementSet", "empty", "()V"⟩ prog_3_method_2_code 2 none ∈ WALL := hw_wi 263 rfl rfl
set_option maxRecDepth 100000 in
theorem wi_264 : Cond.methodLink "CollectedGroup" 88 ⟨"CollectedGroup", "fillWhole", "()V"⟩ ∈ WALL := hw_wi 264 rfl rfl
set_option maxRecDepth 100000 in
theorem wi_266 : Cond.instanceMethod ⟨"CollectedGroup", "fillWhole", "()V"⟩ ∈ WALL := hw_wi 266 rfl rfl
set_option maxRecDepth 100000 in
theorem wi_267 : Cond.code ⟨"CollectedGroup", "fillWhole", "()V"⟩ prog_1_method_29_code 2 none ∈ WALL := hw_wi 267 rfl rfl
set_option maxRecDepth 100000 in
theorem wi_268 : Cond.methodLink "CollectedGroup" 121 ⟨"CollectedGroup$Subgroup", "include", "(I)V"⟩ ∈ WALL := hw_wi 268 rfl rfl
set_option maxRecDepth 100000 in
theorem wi_269 : Cond.instanceMethod ⟨"CollectedGroup$Subgroup", "include", "(I)V"⟩ ∈ WALL := hw_wi 269 rfl rfl
set_option maxRecDepth 100000 in
theorem wi_270 : Cond.selects "CollectedGroup$Subgroup" ⟨"CollectedGroup$Subgroup", "include", "(I)V"⟩ ⟨"CollectedGroup$Subgroup", "include", "(I)V"⟩ ∈ WALL := hw_wi 270 rfl rfl
set_option maxRecDepth 100000 in
theorem wi_271 : Cond.code ⟨"CollectedGroup$Subgroup", "include", "(I)V"⟩ prog_4_method_5_code 4 none ∈ WALL := hw_wi 271 rfl rfl
set_option maxRecDepth 100000 in
theorem wi_272 : Cond.methodLink "CollectedGroup$Subgroup" 44 ⟨"CollectedGroup$ElementSet", "holds", "(I)Z"⟩ ∈ WALL := hw_wi 272 rfl rfl
set_option maxRecDepth 100000 in
theorem wi_273 : Cond.instanceMethod ⟨"CollectedGroup$ElementSet", "holds", "(I)Z"⟩ ∈ WALL := hw_wi 273 rfl rfl
set_option maxRecDepth 100000 in
theorem wi_274 : Cond.selects "CollectedGroup$ElementSet" ⟨"CollectedGroup$ElementSet", "holds", "(I)Z"⟩ ⟨"CollectedGroup$ElementSet", "holds", "(I)Z"⟩ ∈ WALL := hw_wi 274 rfl rfl
set_option maxRecDepth 100000 in
theorem wi_275 : Cond.code ⟨"CollectedGroup$ElementSet", "holds", "(I)Z"⟩ prog_3_method_4_code 2 (some .boolean) ∈ WALL := hw_wi 275 rfl rfl
set_option maxRecDepth 100000 in
theorem wi_276 : Cond.methodLink "CollectedGroup$Subgroup" 41 ⟨"CollectedGroup$ElementSet", "amount", "()I"⟩ ∈ WALL := hw_wi 276 rfl rfl
set_option maxRecDepth 100000 in
theorem wi_277 : Cond.instanceMethod ⟨"CollectedGroup$ElementSet", "amount", "()I"⟩ ∈ WALL := hw_wi 277 rfl rfl
set_option maxRecDepth 100000 in
theorem wi_278 : Cond.selects "CollectedGroup$ElementSet" ⟨"CollectedGroup$ElementSet", "amount", "()I"⟩ ⟨"CollectedGroup$ElementSet", "amount", "()I"⟩ ∈ WALL := hw_wi 278 rfl rfl
set_option maxRecDepth 100000 in
theorem wi_279 : Cond.code ⟨"CollectedGroup$ElementSet", "amount", "()I"⟩ prog_3_method_5_code 1 (some .int) ∈ WALL := hw_wi 279 rfl rfl
set_option maxRecDepth 100000 in
theorem wi_280 : Cond.methodLink "CollectedGroup$Subgroup" 51 ⟨"CollectedGroup$ElementSet", "member", "(I)I"⟩ ∈ WALL := hw_wi 280 rfl rfl
set_option maxRecDepth 100000 in
theorem wi_281 : Cond.instanceMethod ⟨"CollectedGroup$ElementSet", "member", "(I)I"⟩ ∈ WALL := hw_wi 281 rfl rfl
set_option maxRecDepth 100000 in
theorem wi_282 : Cond.selects "CollectedGroup$ElementSet" ⟨"CollectedGroup$ElementSet", "member", "(I)I"⟩ ⟨"CollectedGroup$ElementSet", "member", "(I)I"⟩ ∈ WALL := hw_wi 282 rfl rfl
set_option maxRecDepth 100000 in
theorem wi_283 : Cond.code ⟨"CollectedGroup$ElementSet", "member", "(I)I"⟩ prog_3_method_6_code 2 (some .int) ∈ WALL := hw_wi 283 rfl rfl
set_option maxRecDepth 100000 in
theorem wi_284 : Cond.methodLink "CollectedGroup$Subgroup" 55 ⟨"CollectedGroup$Collector", "multiply", "(II)I"⟩ ∈ WALL := hw_wi 284 rfl rfl
set_option maxRecDepth 100000 in
theorem wi_285 : Cond.instanceMethod ⟨"CollectedGroup$Collector", "multiply", "(II)I"⟩ ∈ WALL := hw_wi 285 rfl rfl
set_option maxRecDepth 100000 in
theorem wi_286 : Cond.selects "CollectedGroup$Collector" ⟨"CollectedGroup$Collector", "multiply", "(II)I"⟩ ⟨"CollectedGroup$Collector", "multiply", "(II)I"⟩ ∈ WALL := hw_wi 286 rfl rfl
set_option maxRecDepth 100000 in
theorem wi_287 : Cond.code ⟨"CollectedGroup$Collector", "multiply", "(II)I"⟩ prog_2_method_10_code 3 (some .int) ∈ WALL := hw_wi 287 rfl rfl
set_option maxRecDepth 100000 in
theorem wi_288 : Cond.methodLink "CollectedGroupLaw" 50 ⟨"CollectedGroup", "release", "()V"⟩ ∈ WALL := hw_wi 288 rfl rfl
set_option maxRecDepth 100000 in
theorem wi_289 : Cond.instanceMethod ⟨"CollectedGroup", "release", "()V"⟩ ∈ WALL := hw_wi 289 rfl rfl
set_option maxRecDepth 100000 in
theorem wi_290 : Cond.selects "CollectedGroup" ⟨"CollectedGroup", "release", "()V"⟩ ⟨"CollectedGroup", "release", "()V"⟩ ∈ WALL := hw_wi 290 rfl rfl
set_option maxRecDepth 100000 in
theorem wi_291 : Cond.code ⟨"CollectedGroup", "release", "()V"⟩ prog_1_method_8_code 1 none ∈ WALL := hw_wi 291 rfl rfl
set_option maxRecDepth 100000 in
theorem wi_292 : Cond.methodLink "CollectedGroupLaw" 54 ⟨"CollectedGroup", "fixed", "()Z"⟩ ∈ WALL := hw_wi 292 rfl rfl
set_option maxRecDepth 100000 in
theorem wi_293 : Cond.instanceMethod ⟨"CollectedGroup", "fixed", "()Z"⟩ ∈ WALL := hw_wi 293 rfl rfl
set_option maxRecDepth 100000 in
theorem wi_294 : Cond.selects "CollectedGroup" ⟨"CollectedGroup", "fixed", "()Z"⟩ ⟨"CollectedGroup", "fixed", "()Z"⟩ ∈ WALL := hw_wi 294 rfl rfl
set_option maxRecDepth 100000 in
theorem wi_295 : Cond.code ⟨"CollectedGroup", "fixed", "()Z"⟩ prog_1_method_9_code 1 (some .boolean) ∈ WALL := hw_wi 295 rfl rfl
set_option maxRecDepth 100000 in
theorem wi_296 : Cond.methodLink "CollectedGroupLaw" 58 ⟨"CollectedGroup", "product", "(II)I"⟩ ∈ WALL := hw_wi 296 rfl rfl
set_option maxRecDepth 100000 in
theorem wi_297 : Cond.instanceMethod ⟨"CollectedGroup", "product", "(II)I"⟩ ∈ WALL := hw_wi 297 rfl rfl
set_option maxRecDepth 100000 in
theorem wi_298 : Cond.selects "CollectedGroup" ⟨"CollectedGroup", "product", "(II)I"⟩ ⟨"CollectedGroup", "product", "(II)I"⟩ ∈ WALL := hw_wi 298 rfl rfl
set_option maxRecDepth 100000 in
theorem wi_299 : Cond.code ⟨"CollectedGroup", "product", "(II)I"⟩ prog_1_method_10_code 3 (some .int) ∈ WALL := hw_wi 299 rfl rfl
set_option maxRecDepth 100000 in
theorem wi_300 : Cond.methodLink "CollectedGroup" 91 ⟨"CollectedGroup", "isElement", "(I)Z"⟩ ∈ WALL := hw_wi 300 rfl rfl
set_option maxRecDepth 100000 in
theorem wi_302 : Cond.instanceMethod ⟨"CollectedGroup", "isElement", "(I)Z"⟩ ∈ WALL := hw_wi 302 rfl rfl
set_option maxRecDepth 100000 in
theorem wi_303 : Cond.code ⟨"CollectedGroup", "isElement", "(I)Z"⟩ prog_1_method_27_code 2 (some .boolean) ∈ WALL := hw_wi 303 rfl rfl
set_option maxRecDepth 100000 in
theorem wi_304 : Cond.methodLink "CollectedGroup" 94 ⟨"CollectedGroup$Collector", "multiply", "(II)I"⟩ ∈ WALL := hw_wi 304 rfl rfl
set_option maxRecDepth 100000 in
theorem wi_305 : Cond.methodLink "CollectedGroupLaw" 63 ⟨"CollectedGroup", "times", "(II)I"⟩ ∈ WALL := hw_wi 305 rfl rfl
set_option maxRecDepth 100000 in
theorem wi_306 : Cond.instanceMethod ⟨"CollectedGroup", "times", "(II)I"⟩ ∈ WALL := hw_wi 306 rfl rfl
set_option maxRecDepth 100000 in
theorem wi_307 : Cond.selects "CollectedGroup" ⟨"CollectedGroup", "times", "(II)I"⟩ ⟨"CollectedGroup", "times", "(II)I"⟩ ∈ WALL := hw_wi 307 rfl rfl
set_option maxRecDepth 100000 in
theorem wi_308 : Cond.code ⟨"CollectedGroup", "times", "(II)I"⟩ prog_1_method_11_code 3 (some .int) ∈ WALL := hw_wi 308 rfl rfl
set_option maxRecDepth 100000 in
theorem wi_309 : Cond.methodLink "CollectedGroup" 98 ⟨"CollectedGroup$Collector", "orderOf", "(I)I"⟩ ∈ WALL := hw_wi 309 rfl rfl
set_option maxRecDepth 100000 in
theorem wi_310 : Cond.instanceMethod ⟨"CollectedGroup$Collector", "orderOf", "(I)I"⟩ ∈ WALL := hw_wi 310 rfl rfl
set_option maxRecDepth 100000 in
theorem wi_311 : Cond.selects "CollectedGroup$Collector" ⟨"CollectedGroup$Collector", "orderOf", "(I)I"⟩ ⟨"CollectedGroup$Collector", "orderOf", "(I)I"⟩ ∈ WALL := hw_wi 311 rfl rfl
set_option maxRecDepth 100000 in
theorem wi_312 : Cond.code ⟨"CollectedGroup$Collector", "orderOf", "(I)I"⟩ prog_2_method_14_code 4 (some .int) ∈ WALL := hw_wi 312 rfl rfl
set_option maxRecDepth 100000 in
theorem wi_313 : Cond.methodLink "CollectedGroup$Collector" 66 ⟨"CollectedGroup$Collector", "multiply", "(II)I"⟩ ∈ WALL := hw_wi 313 rfl rfl
set_option maxRecDepth 100000 in
theorem wi_314 : Cond.methodLink "CollectedGroup" 101 ⟨"java/lang/Math", "floorMod", "(II)I"⟩ ∈ WALL := hw_wi 314 rfl rfl
set_option maxRecDepth 100000 in
theorem wi_315 : Cond.static ⟨"java/lang/Math", "floorMod", "(II)I"⟩ ∈ WALL := hw_wi 315 rfl rfl
set_option maxRecDepth 100000 in
theorem wi_316 : Cond.code ⟨"java/lang/Math", "floorMod", "(II)I"⟩ prog_8_method_50_code 3 (some .int) ∈ WALL := hw_wi 316 rfl rfl
set_option maxRecDepth 100000 in
theorem wi_317 : Cond.methodLink "CollectedGroup" 106 ⟨"CollectedGroup$Collector", "multiple", "(II)I"⟩ ∈ WALL := hw_wi 317 rfl rfl
set_option maxRecDepth 100000 in
theorem wi_318 : Cond.instanceMethod ⟨"CollectedGroup$Collector", "multiple", "(II)I"⟩ ∈ WALL := hw_wi 318 rfl rfl
set_option maxRecDepth 100000 in
theorem wi_319 : Cond.selects "CollectedGroup$Collector" ⟨"CollectedGroup$Collector", "multiple", "(II)I"⟩ ⟨"CollectedGroup$Collector", "multiple", "(II)I"⟩ ∈ WALL := hw_wi 319 rfl rfl
set_option maxRecDepth 100000 in
theorem wi_320 : Cond.code ⟨"CollectedGroup$Collector", "multiple", "(II)I"⟩ prog_2_method_15_code 5 (some .int) ∈ WALL := hw_wi 320 rfl rfl
set_option maxRecDepth 100000 in
theorem wi_321 : Cond.methodLink "CollectedGroupLaw" 67 ⟨"CollectedGroup", "conjugated", "(II)I"⟩ ∈ WALL := hw_wi 321 rfl rfl
set_option maxRecDepth 100000 in
theorem wi_322 : Cond.instanceMethod ⟨"CollectedGroup", "conjugated", "(II)I"⟩ ∈ WALL := hw_wi 322 rfl rfl
set_option maxRecDepth 100000 in
theorem wi_323 : Cond.selects "CollectedGroup" ⟨"CollectedGroup", "conjugated", "(II)I"⟩ ⟨"CollectedGroup", "conjugated", "(II)I"⟩ ∈ WALL := hw_wi 323 rfl rfl
set_option maxRecDepth 100000 in
theorem wi_324 : Cond.code ⟨"CollectedGroup", "conjugated", "(II)I"⟩ prog_1_method_12_code 3 (some .int) ∈ WALL := hw_wi 324 rfl rfl
set_option maxRecDepth 100000 in
theorem wi_325 : Cond.methodLink "CollectedGroup" 109 ⟨"CollectedGroup$Collector", "conjugateOf", "(II)I"⟩ ∈ WALL := hw_wi 325 rfl rfl
set_option maxRecDepth 100000 in
theorem wi_326 : Cond.instanceMethod ⟨"CollectedGroup$Collector", "conjugateOf", "(II)I"⟩ ∈ WALL := hw_wi 326 rfl rfl
set_option maxRecDepth 100000 in
theorem wi_327 : Cond.selects "CollectedGroup$Collector" ⟨"CollectedGroup$Collector", "conjugateOf", "(II)I"⟩ ⟨"CollectedGroup$Collector", "conjugateOf", "(II)I"⟩ ∈ WALL := hw_wi 327 rfl rfl
set_option maxRecDepth 100000 in
theorem wi_328 : Cond.code ⟨"CollectedGroup$Collector", "conjugateOf", "(II)I"⟩ prog_2_method_12_code 3 (some .int) ∈ WALL := hw_wi 328 rfl rfl
set_option maxRecDepth 100000 in
theorem wi_329 : Cond.methodLink "CollectedGroup$Collector" 62 ⟨"CollectedGroup$Collector", "inverseOf", "(I)I"⟩ ∈ WALL := hw_wi 329 rfl rfl
set_option maxRecDepth 100000 in
theorem wi_330 : Cond.instanceMethod ⟨"CollectedGroup$Collector", "inverseOf", "(I)I"⟩ ∈ WALL := hw_wi 330 rfl rfl
set_option maxRecDepth 100000 in
theorem wi_331 : Cond.selects "CollectedGroup$Collector" ⟨"CollectedGroup$Collector", "inverseOf", "(I)I"⟩ ⟨"CollectedGroup$Collector", "inverseOf", "(I)I"⟩ ∈ WALL := hw_wi 331 rfl rfl
set_option maxRecDepth 100000 in
theorem wi_332 : Cond.code ⟨"CollectedGroup$Collector", "inverseOf", "(I)I"⟩ prog_2_method_11_code 8 (some .int) ∈ WALL := hw_wi 332 rfl rfl
set_option maxRecDepth 100000 in
theorem wi_333 : Cond.methodLink "CollectedGroupLaw" 71 ⟨"CollectedGroup", "commutator", "(II)I"⟩ ∈ WALL := hw_wi 333 rfl rfl
set_option maxRecDepth 100000 in
theorem wi_334 : Cond.instanceMethod ⟨"CollectedGroup", "commutator", "(II)I"⟩ ∈ WALL := hw_wi 334 rfl rfl
set_option maxRecDepth 100000 in
theorem wi_335 : Cond.selects "CollectedGroup" ⟨"CollectedGroup", "commutator", "(II)I"⟩ ⟨"CollectedGroup", "commutator", "(II)I"⟩ ∈ WALL := hw_wi 335 rfl rfl
set_option maxRecDepth 100000 in
theorem wi_336 : Cond.code ⟨"CollectedGroup", "commutator", "(II)I"⟩ prog_1_method_13_code 3 (some .int) ∈ WALL := hw_wi 336 rfl rfl
set_option maxRecDepth 100000 in
theorem wi_337 : Cond.methodLink "CollectedGroup" 112 ⟨"CollectedGroup$Collector", "commutatorOf", "(II)I"⟩ ∈ WALL := hw_wi 337 rfl rfl
set_option maxRecDepth 100000 in
theorem wi_338 : Cond.instanceMethod ⟨"CollectedGroup$Collector", "commutatorOf", "(II)I"⟩ ∈ WALL := hw_wi 338 rfl rfl
set_option maxRecDepth 100000 in
theorem wi_339 : Cond.selects "CollectedGroup$Collector" ⟨"CollectedGroup$Collector", "commutatorOf", "(II)I"⟩ ⟨"CollectedGroup$Collector", "commutatorOf", "(II)I"⟩ ∈ WALL := hw_wi 339 rfl rfl
set_option maxRecDepth 100000 in
theorem wi_340 : Cond.code ⟨"CollectedGroup$Collector", "commutatorOf", "(II)I"⟩ prog_2_method_13_code 3 (some .int) ∈ WALL := hw_wi 340 rfl rfl
set_option maxRecDepth 100000 in
theorem wi_341 : Cond.methodLink "CollectedGroup$Collector" 70 ⟨"CollectedGroup$Collector", "conjugateOf", "(II)I"⟩ ∈ WALL := hw_wi 341 rfl rfl
set_option maxRecDepth 100000 in
theorem wi_342 : Cond.methodLink "CollectedGroupLaw" 75 ⟨"CollectedGroup", "order", "(I)I"⟩ ∈ WALL := hw_wi 342 rfl rfl
set_option maxRecDepth 100000 in
theorem wi_343 : Cond.instanceMethod ⟨"CollectedGroup", "order", "(I)I"⟩ ∈ WALL := hw_wi 343 rfl rfl
set_option maxRecDepth 100000 in
theorem wi_344 : Cond.selects "CollectedGroup" ⟨"CollectedGroup", "order", "(I)I"⟩ ⟨"CollectedGroup", "order", "(I)I"⟩ ∈ WALL := hw_wi 344 rfl rfl
set_option maxRecDepth 100000 in
theorem wi_345 : Cond.code ⟨"CollectedGroup", "order", "(I)I"⟩ prog_1_method_14_code 2 (some .int) ∈ WALL := hw_wi 345 rfl rfl
set_option maxRecDepth 100000 in
theorem wi_346 : Cond.methodLink "CollectedGroupLaw" 79 ⟨"CollectedGroup", "clear", "(I)I"⟩ ∈ WALL := hw_wi 346 rfl rfl
set_option maxRecDepth 100000 in
theorem wi_347 : Cond.instanceMethod ⟨"CollectedGroup", "clear", "(I)I"⟩ ∈ WALL := hw_wi 347 rfl rfl
set_option maxRecDepth 100000 in
theorem wi_348 : Cond.selects "CollectedGroup" ⟨"CollectedGroup", "clear", "(I)I"⟩ ⟨"CollectedGroup", "clear", "(I)I"⟩ ∈ WALL := hw_wi 348 rfl rfl
set_option maxRecDepth 100000 in
theorem wi_349 : Cond.code ⟨"CollectedGroup", "clear", "(I)I"⟩ prog_1_method_15_code 2 (some .int) ∈ WALL := hw_wi 349 rfl rfl
set_option maxRecDepth 100000 in
theorem wi_350 : Cond.methodLink "CollectedGroup" 115 ⟨"CollectedGroup", "isPlace", "(I)Z"⟩ ∈ WALL := hw_wi 350 rfl rfl
set_option maxRecDepth 100000 in
theorem wi_352 : Cond.instanceMethod ⟨"CollectedGroup", "isPlace", "(I)Z"⟩ ∈ WALL := hw_wi 352 rfl rfl
set_option maxRecDepth 100000 in
theorem wi_353 : Cond.code ⟨"CollectedGroup", "isPlace", "(I)Z"⟩ prog_1_method_28_code 2 (some .boolean) ∈ WALL := hw_wi 353 rfl rfl
set_option maxRecDepth 100000 in
theorem wi_354 : Cond.methodLink "CollectedGroup" 118 ⟨"CollectedGroup$Subgroup", "amount", "()I"⟩ ∈ WALL := hw_wi 354 rfl rfl
set_option maxRecDepth 100000 in
theorem wi_355 : Cond.instanceMethod ⟨"CollectedGroup$Subgroup", "amount", "()I"⟩ ∈ WALL := hw_wi 355 rfl rfl
set_option maxRecDepth 100000 in
theorem wi_356 : Cond.selects "CollectedGroup$Subgroup" ⟨"CollectedGroup$Subgroup", "amount", "()I"⟩ ⟨"CollectedGroup$Subgroup", "amount", "()I"⟩ ∈ WALL := hw_wi 356 rfl rfl
set_option maxRecDepth 100000 in
theorem wi_357 : Cond.code ⟨"CollectedGroup$Subgroup", "amount", "()I"⟩ prog_4_method_2_code 1 (some .int) ∈ WALL := hw_wi 357 rfl rfl
set_option maxRecDepth 100000 in
theorem wi_358 : Cond.methodLink "CollectedGroupLaw" 83 ⟨"CollectedGroup", "join", "(II)I"⟩ ∈ WALL := hw_wi 358 rfl rfl
set_option maxRecDepth 100000 in
theorem wi_359 : Cond.instanceMethod ⟨"CollectedGroup", "join", "(II)I"⟩ ∈ WALL := hw_wi 359 rfl rfl
set_option maxRecDepth 100000 in
theorem wi_360 : Cond.selects "CollectedGroup" ⟨"CollectedGroup", "join", "(II)I"⟩ ⟨"CollectedGroup", "join", "(II)I"⟩ ∈ WALL := hw_wi 360 rfl rfl
set_option maxRecDepth 100000 in
theorem wi_361 : Cond.code ⟨"CollectedGroup", "join", "(II)I"⟩ prog_1_method_16_code 3 (some .int) ∈ WALL := hw_wi 361 rfl rfl
set_option maxRecDepth 100000 in
theorem wi_362 : Cond.methodLink "CollectedGroupLaw" 87 ⟨"CollectedGroup", "spread", "(I)I"⟩ ∈ WALL := hw_wi 362 rfl rfl
set_option maxRecDepth 100000 in
theorem wi_363 : Cond.instanceMethod ⟨"CollectedGroup", "spread", "(I)I"⟩ ∈ WALL := hw_wi 363 rfl rfl
set_option maxRecDepth 100000 in
theorem wi_364 : Cond.selects "CollectedGroup" ⟨"CollectedGroup", "spread", "(I)I"⟩ ⟨"CollectedGroup", "spread", "(I)I"⟩ ∈ WALL := hw_wi 364 rfl rfl
set_option maxRecDepth 100000 in
theorem wi_365 : Cond.code ⟨"CollectedGroup", "spread", "(I)I"⟩ prog_1_method_17_code 2 (some .int) ∈ WALL := hw_wi 365 rfl rfl
set_option maxRecDepth 100000 in
theorem wi_366 : Cond.methodLink "CollectedGroup" 124 ⟨"CollectedGroup$Subgroup", "includeAllConjugates", "(LCollectedGroup$Subgroup;)V"⟩ ∈ WALL := hw_wi 366 rfl rfl
set_option maxRecDepth 100000 in
theorem wi_367 : Cond.instanceMethod ⟨"CollectedGroup$Subgroup", "includeAllConjugates", "(LCollectedGroup$Subgroup;)V"⟩ ∈ WALL := hw_wi 367 rfl rfl
set_option maxRecDepth 100000 in
theorem wi_368 : Cond.selects "CollectedGroup$Subgroup" ⟨"CollectedGroup$Subgroup", "includeAllConjugates", "(LCollectedGroup$Subgroup;)V"⟩ ⟨"CollectedGroup$Subgroup", "includeAllConjugates", "(LCollectedGroup$Subgroup;)V"⟩ ∈ WALL := hw_wi 368 rfl rfl
set_option maxRecDepth 100000 in
theorem wi_369 : Cond.code ⟨"CollectedGroup$Subgroup", "includeAllConjugates", "(LCollectedGroup$Subgroup;)V"⟩ prog_4_method_6_code 3 none ∈ WALL := hw_wi 369 rfl rfl
set_option maxRecDepth 100000 in
theorem wi_370 : Cond.methodLink "CollectedGroup$Subgroup" 59 ⟨"CollectedGroup$Subgroup", "includeConjugates", "(ILCollectedGroup$Subgroup;)V"⟩ ∈ WALL := hw_wi 370 rfl rfl
set_option maxRecDepth 100000 in
theorem wi_372 : Cond.instanceMethod ⟨"CollectedGroup$Subgroup", "includeConjugates", "(ILCollectedGroup$Subgroup;)V"⟩ ∈ WALL := hw_wi 372 rfl rfl
set_option maxRecDepth 100000 in
theorem wi_373 : Cond.code ⟨"CollectedGroup$Subgroup", "includeConjugates", "(ILCollectedGroup$Subgroup;)V"⟩ prog_4_method_9_code 4 none ∈ WALL := hw_wi 373 rfl rfl
set_option maxRecDepth 100000 in
theorem wi_374 : Cond.methodLink "CollectedGroup$Subgroup" 78 ⟨"CollectedGroup$Collector", "conjugateOf", "(II)I"⟩ ∈ WALL := hw_wi 374 rfl rfl
set_option maxRecDepth 100000 in
theorem wi_375 : Cond.methodLink "CollectedGroup$Subgroup" 69 ⟨"CollectedGroup$Subgroup", "include", "(I)V"⟩ ∈ WALL := hw_wi 375 rfl rfl
set_option maxRecDepth 100000 in
theorem wi_376 : Cond.methodLink "CollectedGroupLaw" 91 ⟨"CollectedGroup", "commute", "(III)I"⟩ ∈ WALL := hw_wi 376 rfl rfl
set_option maxRecDepth 100000 in
theorem wi_377 : Cond.instanceMethod ⟨"CollectedGroup", "commute", "(III)I"⟩ ∈ WALL := hw_wi 377 rfl rfl
set_option maxRecDepth 100000 in
theorem wi_378 : Cond.selects "CollectedGroup" ⟨"CollectedGroup", "commute", "(III)I"⟩ ⟨"CollectedGroup", "commute", "(III)I"⟩ ∈ WALL := hw_wi 378 rfl rfl
set_option maxRecDepth 100000 in
theorem wi_379 : Cond.code ⟨"CollectedGroup", "commute", "(III)I"⟩ prog_1_method_18_code 4 (some .int) ∈ WALL := hw_wi 379 rfl rfl
set_option maxRecDepth 100000 in
theorem wi_380 : Cond.methodLink "CollectedGroup" 128 ⟨"CollectedGroup$Subgroup", "becomeCommutators", "(LCollectedGroup$Subgroup;LCollectedGroup$Subgroup;)V"⟩ ∈ WALL := hw_wi 380 rfl rfl
set_option maxRecDepth 100000 in
theorem wi_381 : Cond.instanceMethod ⟨"CollectedGroup$Subgroup", "becomeCommutators", "(LCollectedGroup$Subgroup;LCollectedGroup$Subgroup;)V"⟩ ∈ WALL := hw_wi 381 rfl rfl
set_option maxRecDepth 100000 in
theorem wi_382 : Cond.selects "CollectedGroup$Subgroup" ⟨"CollectedGroup$Subgroup", "becomeCommutators", "(LCollectedGroup$Subgroup;LCollectedGroup$Subgroup;)V"⟩ ⟨"CollectedGroup$Subgroup", "becomeCommutators", "(LCollectedGroup$Subgroup;LCollectedGroup$Subgroup;)V"⟩ ∈ WALL := hw_wi 382 rfl rfl
set_option maxRecDepth 100000 in
theorem wi_383 : Cond.code ⟨"CollectedGroup$Subgroup", "becomeCommutators", "(LCollectedGroup$Subgroup;LCollectedGroup$Subgroup;)V"⟩ prog_4_method_7_code 5 none ∈ WALL := hw_wi 383 rfl rfl
set_option maxRecDepth 100000 in
theorem wi_384 : Cond.methodLink "CollectedGroup$Subgroup" 63 ⟨"CollectedGroup$Subgroup", "reset", "()V"⟩ ∈ WALL := hw_wi 384 rfl rfl
set_option maxRecDepth 100000 in
theorem wi_385 : Cond.methodLink "CollectedGroup$Subgroup" 66 ⟨"CollectedGroup$Collector", "commutatorOf", "(II)I"⟩ ∈ WALL := hw_wi 385 rfl rfl
set_option maxRecDepth 100000 in
theorem wi_386 : Cond.methodLink "CollectedGroup" 132 ⟨"CollectedGroup$Subgroup", "becomeCopy", "(LCollectedGroup$Subgroup;)V"⟩ ∈ WALL := hw_wi 386 rfl rfl
set_option maxRecDepth 100000 in
theorem wi_387 : Cond.instanceMethod ⟨"CollectedGroup$Subgroup", "becomeCopy", "(LCollectedGroup$Subgroup;)V"⟩ ∈ WALL := hw_wi 387 rfl rfl
set_option maxRecDepth 100000 in
theorem wi_388 : Cond.selects "CollectedGroup$Subgroup" ⟨"CollectedGroup$Subgroup", "becomeCopy", "(LCollectedGroup$Subgroup;)V"⟩ ⟨"CollectedGroup$Subgroup", "becomeCopy", "(LCollectedGroup$Subgroup;)V"⟩ ∈ WALL := hw_wi 388 rfl rfl
set_option maxRecDepth 100000 in
theorem wi_389 : Cond.code ⟨"CollectedGroup$Subgroup", "becomeCopy", "(LCollectedGroup$Subgroup;)V"⟩ prog_4_method_8_code 3 none ∈ WALL := hw_wi 389 rfl rfl
set_option maxRecDepth 100000 in
theorem wi_390 : Cond.methodLink "CollectedGroup$Subgroup" 72 ⟨"java/lang/System", "arraycopy", "(Ljava/lang/Object;ILjava/lang/Object;II)V"⟩ ∈ WALL := hw_wi 390 rfl rfl
set_option maxRecDepth 100000 in
theorem wi_391 : Cond.methodLink "CollectedGroupLaw" 96 ⟨"CollectedGroup", "count", "(I)I"⟩ ∈ WALL := hw_wi 391 rfl rfl
set_option maxRecDepth 100000 in
theorem wi_392 : Cond.instanceMethod ⟨"CollectedGroup", "count", "(I)I"⟩ ∈ WALL := hw_wi 392 rfl rfl
set_option maxRecDepth 100000 in
theorem wi_393 : Cond.selects "CollectedGroup" ⟨"CollectedGroup", "count", "(I)I"⟩ ⟨"CollectedGroup", "count", "(I)I"⟩ ∈ WALL := hw_wi 393 rfl rfl
set_option maxRecDepth 100000 in
theorem wi_394 : Cond.code ⟨"CollectedGroup", "count", "(I)I"⟩ prog_1_method_19_code 2 (some .int) ∈ WALL := hw_wi 394 rfl rfl
set_option maxRecDepth 100000 in
theorem wi_395 : Cond.methodLink "CollectedGroupLaw" 100 ⟨"CollectedGroup", "has", "(II)Z"⟩ ∈ WALL := hw_wi 395 rfl rfl
set_option maxRecDepth 100000 in
theorem wi_396 : Cond.instanceMethod ⟨"CollectedGroup", "has", "(II)Z"⟩ ∈ WALL := hw_wi 396 rfl rfl
set_option maxRecDepth 100000 in
theorem wi_397 : Cond.selects "CollectedGroup" ⟨"CollectedGroup", "has", "(II)Z"⟩ ⟨"CollectedGroup", "has", "(II)Z"⟩ ∈ WALL := hw_wi 397 rfl rfl
set_option maxRecDepth 100000 in
theorem wi_398 : Cond.code ⟨"CollectedGroup", "has", "(II)Z"⟩ prog_1_method_20_code 3 (some .boolean) ∈ WALL := hw_wi 398 rfl rfl
set_option maxRecDepth 100000 in
theorem wi_399 : Cond.methodLink "CollectedGroup" 135 ⟨"CollectedGroup$Subgroup", "holds", "(I)Z"⟩ ∈ WALL := hw_wi 399 rfl rfl
set_option maxRecDepth 100000 in
theorem wi_400 : Cond.instanceMethod ⟨"CollectedGroup$Subgroup", "holds", "(I)Z"⟩ ∈ WALL := hw_wi 400 rfl rfl
set_option maxRecDepth 100000 in
theorem wi_401 : Cond.selects "CollectedGroup$Subgroup" ⟨"CollectedGroup$Subgroup", "holds", "(I)Z"⟩ ⟨"CollectedGroup$Subgroup", "holds", "(I)Z"⟩ ∈ WALL := hw_wi 401 rfl rfl
set_option maxRecDepth 100000 in
theorem wi_402 : Cond.code ⟨"CollectedGroup$Subgroup", "holds", "(I)Z"⟩ prog_4_method_3_code 2 (some .boolean) ∈ WALL := hw_wi 402 rfl rfl
set_option maxRecDepth 100000 in
theorem wi_403 : Cond.methodLink "CollectedGroupLaw" 104 ⟨"CollectedGroup", "derived", "(I)I"⟩ ∈ WALL := hw_wi 403 rfl rfl
set_option maxRecDepth 100000 in
theorem wi_404 : Cond.instanceMethod ⟨"CollectedGroup", "derived", "(I)I"⟩ ∈ WALL := hw_wi 404 rfl rfl
set_option maxRecDepth 100000 in
theorem wi_405 : Cond.selects "CollectedGroup" ⟨"CollectedGroup", "derived", "(I)I"⟩ ⟨"CollectedGroup", "derived", "(I)I"⟩ ∈ WALL := hw_wi 405 rfl rfl
set_option maxRecDepth 100000 in
theorem wi_406 : Cond.code ⟨"CollectedGroup", "derived", "(I)I"⟩ prog_1_method_21_code 2 (some .int) ∈ WALL := hw_wi 406 rfl rfl
set_option maxRecDepth 100000 in
theorem wi_407 : Cond.methodLink "CollectedGroup" 138 ⟨"CollectedGroup", "seriesAmount", "(ILCollectedGroup$Subgroup;)I"⟩ ∈ WALL := hw_wi 407 rfl rfl
set_option maxRecDepth 100000 in
theorem wi_409 : Cond.instanceMethod ⟨"CollectedGroup", "seriesAmount", "(ILCollectedGroup$Subgroup;)I"⟩ ∈ WALL := hw_wi 409 rfl rfl
set_option maxRecDepth 100000 in
theorem wi_410 : Cond.code ⟨"CollectedGroup", "seriesAmount", "(ILCollectedGroup$Subgroup;)I"⟩ prog_1_method_30_code 4 (some .int) ∈ WALL := hw_wi 410 rfl rfl
set_option maxRecDepth 100000 in
theorem wi_411 : Cond.methodLink "CollectedGroupLaw" 108 ⟨"CollectedGroup", "lower", "(I)I"⟩ ∈ WALL := hw_wi 411 rfl rfl
set_option maxRecDepth 100000 in
theorem wi_412 : Cond.instanceMethod ⟨"CollectedGroup", "lower", "(I)I"⟩ ∈ WALL := hw_wi 412 rfl rfl
set_option maxRecDepth 100000 in
theorem wi_413 : Cond.selects "CollectedGroup" ⟨"CollectedGroup", "lower", "(I)I"⟩ ⟨"CollectedGroup", "lower", "(I)I"⟩ ∈ WALL := hw_wi 413 rfl rfl
set_option maxRecDepth 100000 in
theorem wi_414 : Cond.code ⟨"CollectedGroup", "lower", "(I)I"⟩ prog_1_method_22_code 2 (some .int) ∈ WALL := hw_wi 414 rfl rfl
set_option maxRecDepth 100000 in
theorem wi_415 : Cond.methodLink "CollectedGroupLaw" 112 ⟨"CollectedGroup", "centre", "()I"⟩ ∈ WALL := hw_wi 415 rfl rfl
set_option maxRecDepth 100000 in
theorem wi_416 : Cond.instanceMethod ⟨"CollectedGroup", "centre", "()I"⟩ ∈ WALL := hw_wi 416 rfl rfl
set_option maxRecDepth 100000 in
theorem wi_417 : Cond.selects "CollectedGroup" ⟨"CollectedGroup", "centre", "()I"⟩ ⟨"CollectedGroup", "centre", "()I"⟩ ∈ WALL := hw_wi 417 rfl rfl
set_option maxRecDepth 100000 in
theorem wi_418 : Cond.code ⟨"CollectedGroup", "centre", "()I"⟩ prog_1_method_23_code 3 (some .int) ∈ WALL := hw_wi 418 rfl rfl
set_option maxRecDepth 100000 in
theorem wi_419 : Cond.methodLink "CollectedGroup" 142 ⟨"CollectedGroup$Collector", "isCentral", "(I)Z"⟩ ∈ WALL := hw_wi 419 rfl rfl
set_option maxRecDepth 100000 in
theorem wi_420 : Cond.instanceMethod ⟨"CollectedGroup$Collector", "isCentral", "(I)Z"⟩ ∈ WALL := hw_wi 420 rfl rfl
set_option maxRecDepth 100000 in
theorem wi_421 : Cond.selects "CollectedGroup$Collector" ⟨"CollectedGroup$Collector", "isCentral", "(I)Z"⟩ ⟨"CollectedGroup$Collector", "isCentral", "(I)Z"⟩ ∈ WALL := hw_wi 421 rfl rfl
set_option maxRecDepth 100000 in
theorem wi_422 : Cond.code ⟨"CollectedGroup$Collector", "isCentral", "(I)Z"⟩ prog_2_method_16_code 3 (some .boolean) ∈ WALL := hw_wi 422 rfl rfl
set_option maxRecDepth 100000 in
theorem wi_423 : Cond.methodLink "CollectedGroupLaw" 116 ⟨"CollectedGroup", "classes", "()I"⟩ ∈ WALL := hw_wi 423 rfl rfl
set_option maxRecDepth 100000 in
theorem wi_424 : Cond.instanceMethod ⟨"CollectedGroup", "classes", "()I"⟩ ∈ WALL := hw_wi 424 rfl rfl
set_option maxRecDepth 100000 in
theorem wi_425 : Cond.selects "CollectedGroup" ⟨"CollectedGroup", "classes", "()I"⟩ ⟨"CollectedGroup", "classes", "()I"⟩ ∈ WALL := hw_wi 425 rfl rfl
set_option maxRecDepth 100000 in
theorem wi_426 : Cond.code ⟨"CollectedGroup", "classes", "()I"⟩ prog_1_method_24_code 3 (some .int) ∈ WALL := hw_wi 426 rfl rfl
set_option maxRecDepth 100000 in
theorem wi_427 : Cond.methodLink "CollectedGroup" 145 ⟨"CollectedGroup$ElementSet", "empty", "()V"⟩ ∈ WALL := hw_wi 427 rfl rfl
set_option maxRecDepth 100000 in
theorem wi_428 : Cond.methodLink "CollectedGroup" 148 ⟨"CollectedGroup$ElementSet", "holds", "(I)Z"⟩ ∈ WALL := hw_wi 428 rfl rfl
set_option maxRecDepth 100000 in
theorem wi_429 : Cond.methodLink "CollectedGroup" 149 ⟨"CollectedGroup", "addClass", "(I)V"⟩ ∈ WALL := hw_wi 429 rfl rfl
set_option maxRecDepth 100000 in
theorem wi_431 : Cond.instanceMethod ⟨"CollectedGroup", "addClass", "(I)V"⟩ ∈ WALL := hw_wi 431 rfl rfl
set_option maxRecDepth 100000 in
theorem wi_432 : Cond.code ⟨"CollectedGroup", "addClass", "(I)V"⟩ prog_1_method_31_code 5 none ∈ WALL := hw_wi 432 rfl rfl
set_option maxRecDepth 100000 in
theorem wi_433 : Cond.methodLink "CollectedGroup" 152 ⟨"CollectedGroup$ElementSet", "amount", "()I"⟩ ∈ WALL := hw_wi 433 rfl rfl
set_option maxRecDepth 100000 in
theorem wi_434 : Cond.methodLink "CollectedGroup" 156 ⟨"CollectedGroup$ElementSet", "add", "(I)V"⟩ ∈ WALL := hw_wi 434 rfl rfl
set_option maxRecDepth 100000 in
theorem wi_435 : Cond.methodLink "CollectedGroup" 159 ⟨"CollectedGroup$ElementSet", "member", "(I)I"⟩ ∈ WALL := hw_wi 435 rfl rfl
set_option maxRecDepth 100000 in
theorem wi_436 : Cond.methodLink "CollectedGroupLaw" 120 ⟨"CollectedGroup", "kin", "(I)I"⟩ ∈ WALL := hw_wi 436 rfl rfl
set_option maxRecDepth 100000 in
theorem wi_437 : Cond.instanceMethod ⟨"CollectedGroup", "kin", "(I)I"⟩ ∈ WALL := hw_wi 437 rfl rfl
set_option maxRecDepth 100000 in
theorem wi_438 : Cond.selects "CollectedGroup" ⟨"CollectedGroup", "kin", "(I)I"⟩ ⟨"CollectedGroup", "kin", "(I)I"⟩ ∈ WALL := hw_wi 438 rfl rfl
set_option maxRecDepth 100000 in
theorem wi_439 : Cond.code ⟨"CollectedGroup", "kin", "(I)I"⟩ prog_1_method_25_code 2 (some .int) ∈ WALL := hw_wi 439 rfl rfl
set_option maxRecDepth 100000 in
theorem wi_440 : Cond.methodLink "CollectedGroupLaw" 124 ⟨"CollectedGroup", "head", "(I)I"⟩ ∈ WALL := hw_wi 440 rfl rfl
set_option maxRecDepth 100000 in
theorem wi_441 : Cond.instanceMethod ⟨"CollectedGroup", "head", "(I)I"⟩ ∈ WALL := hw_wi 441 rfl rfl
set_option maxRecDepth 100000 in
theorem wi_442 : Cond.selects "CollectedGroup" ⟨"CollectedGroup", "head", "(I)I"⟩ ⟨"CollectedGroup", "head", "(I)I"⟩ ∈ WALL := hw_wi 442 rfl rfl
set_option maxRecDepth 100000 in
theorem wi_443 : Cond.code ⟨"CollectedGroup", "head", "(I)I"⟩ prog_1_method_26_code 2 (some .int) ∈ WALL := hw_wi 443 rfl rfl
set_option maxRecDepth 100000 in
theorem wi_444 : Cond.methodLink "CollectedGroup" 153 ⟨"CollectedGroup$ElementSet", "least", "()I"⟩ ∈ WALL := hw_wi 444 rfl rfl
set_option maxRecDepth 100000 in
theorem wi_445 : Cond.instanceMethod ⟨"CollectedGroup$ElementSet", "least", "()I"⟩ ∈ WALL := hw_wi 445 rfl rfl
set_option maxRecDepth 100000 in
theorem wi_446 : Cond.selects "CollectedGroup$ElementSet" ⟨"CollectedGroup$ElementSet", "least", "()I"⟩ ⟨"CollectedGroup$ElementSet", "least", "()I"⟩ ∈ WALL := hw_wi 446 rfl rfl
set_option maxRecDepth 100000 in
theorem wi_447 : Cond.code ⟨"CollectedGroup$ElementSet", "least", "()I"⟩ prog_3_method_7_code 2 (some .int) ∈ WALL := hw_wi 447 rfl rfl
set_option maxRecDepth 100000 in
theorem wi_448 : Cond.methodLink "CollectedGroupLaw" 9 ⟨"CollectedGroupLaw", "cell", "([II)I"⟩ ∈ WALL := hw_wi 448 rfl rfl
set_option maxRecDepth 100000 in
theorem wi_449 : Cond.static ⟨"CollectedGroupLaw", "cell", "([II)I"⟩ ∈ WALL := hw_wi 449 rfl rfl
set_option maxRecDepth 100000 in
theorem wi_450 : Cond.code ⟨"CollectedGroupLaw", "cell", "([II)I"⟩ method_2_code 2 (some .int) ∈ WALL := hw_wi 450 rfl rfl
set_option maxRecDepth 100000 in
theorem wi_451 : Cond.classLink "CollectedGroupLaw" 18 "CollectedGroupModel" ∈ WALL := hw_wi 451 rfl rfl
set_option maxRecDepth 100000 in
theorem wi_452 : Cond.instantiable "CollectedGroupModel" 14 ∈ WALL := hw_wi 452 rfl rfl
set_option maxRecDepth 100000 in
theorem wi_453 : Cond.methodLink "CollectedGroupLaw" 20 ⟨"CollectedGroupModel", "<init>", "(I)V"⟩ ∈ WALL := hw_wi 453 rfl rfl
set_option maxRecDepth 100000 in
theorem wi_454 : Cond.instanceMethod ⟨"CollectedGroupModel", "<init>", "(I)V"⟩ ∈ WALL := hw_wi 454 rfl rfl
set_option maxRecDepth 100000 in
theorem wi_455 : Cond.code ⟨"CollectedGroupModel", "<init>", "(I)V"⟩ prog_6_method_1_code 9 none ∈ WALL := hw_wi 455 rfl rfl
set_option maxRecDepth 100000 in
theorem wi_456 : Cond.methodLink "CollectedGroupModel" 1 ⟨"java/lang/Object", "<init>", "()V"⟩ ∈ WALL := hw_wi 456 rfl rfl
set_option maxRecDepth 100000 in
theorem wi_457 : Cond.fieldLink "CollectedGroupModel" 44 "CollectedGroupModel" "generators" "I" ∈ WALL := hw_wi 457 rfl rfl
set_option maxRecDepth 100000 in
theorem wi_458 : Cond.fieldLink "CollectedGroupModel" 48 "CollectedGroupModel" "size" "I" ∈ WALL := hw_wi 458 rfl rfl
set_option maxRecDepth 100000 in
theorem wi_459 : Cond.fieldLink "CollectedGroupModel" 7 "CollectedGroupModel" "orders" "[I" ∈ WALL := hw_wi 459 rfl rfl
set_option maxRecDepth 100000 in
theorem wi_460 : Cond.fieldLink "CollectedGroupModel" 13 "CollectedGroupModel" "weight" "[I" ∈ WALL := hw_wi 460 rfl rfl
set_option maxRecDepth 100000 in
theorem wi_461 : Cond.fieldLink "CollectedGroupModel" 16 "CollectedGroupModel" "powers" "[I" ∈ WALL := hw_wi 461 rfl rfl
set_option maxRecDepth 100000 in
theorem wi_462 : Cond.fieldLink "CollectedGroupModel" 19 "CollectedGroupModel" "turned" "[I" ∈ WALL := hw_wi 462 rfl rfl
set_option maxRecDepth 100000 in
theorem wi_463 : Cond.fieldLink "CollectedGroupModel" 55 "CollectedGroupModel" "isFixed" "Z" ∈ WALL := hw_wi 463 rfl rfl
set_option maxRecDepth 100000 in
theorem wi_464 : Cond.fieldLink "CollectedGroupModel" 22 "CollectedGroupModel" "table" "[I" ∈ WALL := hw_wi 464 rfl rfl
set_option maxRecDepth 100000 in
theorem wi_465 : Cond.fieldLink "CollectedGroupModel" 25 "CollectedGroupModel" "once" "[I" ∈ WALL := hw_wi 465 rfl rfl
set_option maxRecDepth 100000 in
theorem wi_466 : Cond.fieldLink "CollectedGroupModel" 28 "CollectedGroupModel" "many" "[I" ∈ WALL := hw_wi 466 rfl rfl
set_option maxRecDepth 100000 in
theorem wi_467 : Cond.fieldLink "CollectedGroupModel" 31 "CollectedGroupModel" "inverses" "[I" ∈ WALL := hw_wi 467 rfl rfl
set_option maxRecDepth 100000 in
theorem wi_468 : Cond.fieldLink "CollectedGroupModel" 34 "CollectedGroupModel" "places" "[Z" ∈ WALL := hw_wi 468 rfl rfl
set_option maxRecDepth 100000 in
theorem wi_469 : Cond.fieldLink "CollectedGroupModel" 38 "CollectedGroupModel" "work" "[Z" ∈ WALL := hw_wi 469 rfl rfl
set_option maxRecDepth 100000 in
theorem wi_470 : Cond.fieldLink "CollectedGroupModel" 41 "CollectedGroupModel" "other" "[Z" ∈ WALL := hw_wi 470 rfl rfl
set_option maxRecDepth 100000 in
theorem wi_471 : Cond.laysFinal "CollectedGroupModel" "CollectedGroupModel" "generators" "I" ∈ WALL := hw_wi 471 rfl rfl
set_option maxRecDepth 100000 in
theorem wi_472 : Cond.soleField "CollectedGroupModel" "generators" ∈ WALL := hw_wi 472 rfl rfl
set_option maxRecDepth 100000 in
theorem wi_473 : Cond.laysFinal "CollectedGroupModel" "CollectedGroupModel" "size" "I" ∈ WALL := hw_wi 473 rfl rfl
set_option maxRecDepth 100000 in
theorem wi_474 : Cond.soleField "CollectedGroupModel" "size" ∈ WALL := hw_wi 474 rfl rfl
set_option maxRecDepth 100000 in
theorem wi_475 : Cond.laysFinal "CollectedGroupModel" "CollectedGroupModel" "orders" "[I" ∈ WALL := hw_wi 475 rfl rfl
set_option maxRecDepth 100000 in
theorem wi_476 : Cond.soleField "CollectedGroupModel" "orders" ∈ WALL := hw_wi 476 rfl rfl
set_option maxRecDepth 100000 in
theorem wi_477 : Cond.laysFinal "CollectedGroupModel" "CollectedGroupModel" "weight" "[I" ∈ WALL := hw_wi 477 rfl rfl
set_option maxRecDepth 100000 in
theorem wi_478 : Cond.soleField "CollectedGroupModel" "weight" ∈ WALL := hw_wi 478 rfl rfl
set_option maxRecDepth 100000 in
theorem wi_479 : Cond.laysFinal "CollectedGroupModel" "CollectedGroupModel" "powers" "[I" ∈ WALL := hw_wi 479 rfl rfl
set_option maxRecDepth 100000 in
theorem wi_480 : Cond.soleField "CollectedGroupModel" "powers" ∈ WALL := hw_wi 480 rfl rfl
set_option maxRecDepth 100000 in
theorem wi_481 : Cond.laysFinal "CollectedGroupModel" "CollectedGroupModel" "turned" "[I" ∈ WALL := hw_wi 481 rfl rfl
set_option maxRecDepth 100000 in
theorem wi_482 : Cond.soleField "CollectedGroupModel" "turned" ∈ WALL := hw_wi 482 rfl rfl
set_option maxRecDepth 100000 in
theorem wi_483 : Cond.lays "CollectedGroupModel" "CollectedGroupModel" "isFixed" "Z" ∈ WALL := hw_wi 483 rfl rfl
set_option maxRecDepth 100000 in
theorem wi_484 : Cond.soleField "CollectedGroupModel" "isFixed" ∈ WALL := hw_wi 484 rfl rfl
set_option maxRecDepth 100000 in
theorem wi_485 : Cond.laysFinal "CollectedGroupModel" "CollectedGroupModel" "table" "[I" ∈ WALL := hw_wi 485 rfl rfl
set_option maxRecDepth 100000 in
theorem wi_486 : Cond.soleField "CollectedGroupModel" "table" ∈ WALL := hw_wi 486 rfl rfl
set_option maxRecDepth 100000 in
theorem wi_487 : Cond.laysFinal "CollectedGroupModel" "CollectedGroupModel" "once" "[I" ∈ WALL := hw_wi 487 rfl rfl
set_option maxRecDepth 100000 in
theorem wi_488 : Cond.soleField "CollectedGroupModel" "once" ∈ WALL := hw_wi 488 rfl rfl
set_option maxRecDepth 100000 in
theorem wi_489 : Cond.laysFinal "CollectedGroupModel" "CollectedGroupModel" "many" "[I" ∈ WALL := hw_wi 489 rfl rfl
set_option maxRecDepth 100000 in
theorem wi_490 : Cond.soleField "CollectedGroupModel" "many" ∈ WALL := hw_wi 490 rfl rfl
set_option maxRecDepth 100000 in
theorem wi_491 : Cond.laysFinal "CollectedGroupModel" "CollectedGroupModel" "inverses" "[I" ∈ WALL := hw_wi 491 rfl rfl
set_option maxRecDepth 100000 in
theorem wi_492 : Cond.soleField "CollectedGroupModel" "inverses" ∈ WALL := hw_wi 492 rfl rfl
set_option maxRecDepth 100000 in
theorem wi_493 : Cond.laysFinal "CollectedGroupModel" "CollectedGroupModel" "places" "[Z" ∈ WALL := hw_wi 493 rfl rfl
set_option maxRecDepth 100000 in
theorem wi_494 : Cond.soleField "CollectedGroupModel" "places" ∈ WALL := hw_wi 494 rfl rfl
set_option maxRecDepth 100000 in
theorem wi_495 : Cond.laysFinal "CollectedGroupModel" "CollectedGroupModel" "work" "[Z" ∈ WALL := hw_wi 495 rfl rfl
set_option maxRecDepth 100000 in
theorem wi_496 : Cond.soleField "CollectedGroupModel" "work" ∈ WALL := hw_wi 496 rfl rfl
set_option maxRecDepth 100000 in
theorem wi_497 : Cond.laysFinal "CollectedGroupModel" "CollectedGroupModel" "other" "[Z" ∈ WALL := hw_wi 497 rfl rfl
set_option maxRecDepth 100000 in
theorem wi_498 : Cond.soleField "CollectedGroupModel" "other" ∈ WALL := hw_wi 498 rfl rfl
set_option maxRecDepth 100000 in
theorem wi_499 : Cond.superclass "CollectedGroupModel" "java/lang/Object" ∈ WALL := hw_wi 499 rfl rfl
set_option maxRecDepth 100000 in
theorem wi_500 : Cond.methodLink "CollectedGroupLaw" 25 ⟨"CollectedGroupModel", "generators", "()I"⟩ ∈ WALL := hw_wi 500 rfl rfl
set_option maxRecDepth 100000 in
theorem wi_501 : Cond.instanceMethod ⟨"CollectedGroupModel", "generators", "()I"⟩ ∈ WALL := hw_wi 501 rfl rfl
set_option maxRecDepth 100000 in
theorem wi_502 : Cond.selects "CollectedGroupModel" ⟨"CollectedGroupModel", "generators", "()I"⟩ ⟨"CollectedGroupModel", "generators", "()I"⟩ ∈ WALL := hw_wi 502 rfl rfl
set_option maxRecDepth 100000 in
theorem wi_503 : Cond.code ⟨"CollectedGroupModel", "generators", "()I"⟩ prog_6_method_3_code 1 (some .int) ∈ WALL := hw_wi 503 rfl rfl
set_option maxRecDepth 100000 in
theorem wi_504 : Cond.methodLink "CollectedGroupLaw" 29 ⟨"CollectedGroupModel", "size", "()I"⟩ ∈ WALL := hw_wi 504 rfl rfl
set_option maxRecDepth 100000 in
theorem wi_505 : Cond.instanceMethod ⟨"CollectedGroupModel", "size", "()I"⟩ ∈ WALL := hw_wi 505 rfl rfl
set_option maxRecDepth 100000 in
theorem wi_506 : Cond.selects "CollectedGroupModel" ⟨"CollectedGroupModel", "size", "()I"⟩ ⟨"CollectedGroupModel", "size", "()I"⟩ ∈ WALL := hw_wi 506 rfl rfl
set_option maxRecDepth 100000 in
theorem wi_507 : Cond.code ⟨"CollectedGroupModel", "size", "()I"⟩ prog_6_method_4_code 1 (some .int) ∈ WALL := hw_wi 507 rfl rfl
set_option maxRecDepth 100000 in
theorem wi_508 : Cond.methodLink "CollectedGroupLaw" 34 ⟨"CollectedGroupModel", "generator", "(I)I"⟩ ∈ WALL := hw_wi 508 rfl rfl
set_option maxRecDepth 100000 in
theorem wi_509 : Cond.instanceMethod ⟨"CollectedGroupModel", "generator", "(I)I"⟩ ∈ WALL := hw_wi 509 rfl rfl
set_option maxRecDepth 100000 in
theorem wi_510 : Cond.selects "CollectedGroupModel" ⟨"CollectedGroupModel", "generator", "(I)I"⟩ ⟨"CollectedGroupModel", "generator", "(I)I"⟩ ∈ WALL := hw_wi 510 rfl rfl
set_option maxRecDepth 100000 in
theorem wi_511 : Cond.code ⟨"CollectedGroupModel", "generator", "(I)I"⟩ prog_6_method_5_code 2 (some .int) ∈ WALL := hw_wi 511 rfl rfl
set_option maxRecDepth 100000 in
theorem wi_512 : Cond.methodLink "CollectedGroupModel" 51 ⟨"CollectedGroupModel", "isGenerator", "(I)Z"⟩ ∈ WALL := hw_wi 512 rfl rfl
set_option maxRecDepth 100000 in
theorem wi_514 : Cond.instanceMethod ⟨"CollectedGroupModel", "isGenerator", "(I)Z"⟩ ∈ WALL := hw_wi 514 rfl rfl
set_option maxRecDepth 100000 in
theorem wi_515 : Cond.code ⟨"CollectedGroupModel", "isGenerator", "(I)Z"⟩ prog_6_method_2_code 2 (some .boolean) ∈ WALL := hw_wi 515 rfl rfl
set_option maxRecDepth 100000 in
theorem wi_516 : Cond.methodLink "CollectedGroupLaw" 39 ⟨"CollectedGroupModel", "power", "(II)Z"⟩ ∈ WALL := hw_wi 516 rfl rfl
set_option maxRecDepth 100000 in
theorem wi_517 : Cond.instanceMethod ⟨"CollectedGroupModel", "power", "(II)Z"⟩ ∈ WALL := hw_wi 517 rfl rfl
set_option maxRecDepth 100000 in
theorem wi_518 : Cond.selects "CollectedGroupModel" ⟨"CollectedGroupModel", "power", "(II)Z"⟩ ⟨"CollectedGroupModel", "power", "(II)Z"⟩ ∈ WALL := hw_wi 518 rfl rfl
set_option maxRecDepth 100000 in
theorem wi_519 : Cond.code ⟨"CollectedGroupModel", "power", "(II)Z"⟩ prog_6_method_6_code 3 (some .boolean) ∈ WALL := hw_wi 519 rfl rfl
set_option maxRecDepth 100000 in
theorem wi_520 : Cond.methodLink "CollectedGroupLaw" 44 ⟨"CollectedGroupModel", "conjugate", "(III)Z"⟩ ∈ WALL := hw_wi 520 rfl rfl
set_option maxRecDepth 100000 in
theorem wi_521 : Cond.instanceMethod ⟨"CollectedGroupModel", "conjugate", "(III)Z"⟩ ∈ WALL := hw_wi 521 rfl rfl
set_option maxRecDepth 100000 in
theorem wi_522 : Cond.selects "CollectedGroupModel" ⟨"CollectedGroupModel", "conjugate", "(III)Z"⟩ ⟨"CollectedGroupModel", "conjugate", "(III)Z"⟩ ∈ WALL := hw_wi 522 rfl rfl
set_option maxRecDepth 100000 in
theorem wi_523 : Cond.code ⟨"CollectedGroupModel", "conjugate", "(III)Z"⟩ prog_6_method_7_code 4 (some .boolean) ∈ WALL := hw_wi 523 rfl rfl
set_option maxRecDepth 100000 in
theorem wi_524 : Cond.methodLink "CollectedGroupLaw" 49 ⟨"CollectedGroupModel", "fix", "()Z"⟩ ∈ WALL := hw_wi 524 rfl rfl
set_option maxRecDepth 100000 in
theorem wi_525 : Cond.instanceMethod ⟨"CollectedGroupModel", "fix", "()Z"⟩ ∈ WALL := hw_wi 525 rfl rfl
set_option maxRecDepth 100000 in
theorem wi_526 : Cond.selects "CollectedGroupModel" ⟨"CollectedGroupModel", "fix", "()Z"⟩ ⟨"CollectedGroupModel", "fix", "()Z"⟩ ∈ WALL := hw_wi 526 rfl rfl
set_option maxRecDepth 100000 in
theorem wi_527 : Cond.code ⟨"CollectedGroupModel", "fix", "()Z"⟩ prog_6_method_14_code 3 (some .boolean) ∈ WALL := hw_wi 527 rfl rfl
set_option maxRecDepth 100000 in
theorem wi_528 : Cond.methodLink "CollectedGroupModel" 77 ⟨"CollectedGroupModel", "build", "()Z"⟩ ∈ WALL := hw_wi 528 rfl rfl
set_option maxRecDepth 100000 in
theorem wi_530 : Cond.instanceMethod ⟨"CollectedGroupModel", "build", "()Z"⟩ ∈ WALL := hw_wi 530 rfl rfl
set_option maxRecDepth 100000 in
theorem wi_531 : Cond.code ⟨"CollectedGroupModel", "build", "()Z"⟩ prog_6_method_13_code 4 (some .boolean) ∈ WALL := hw_wi 531 rfl rfl
set_option maxRecDepth 100000 in
theorem wi_532 : Cond.methodLink "CollectedGroupModel" 67 ⟨"CollectedGroupModel", "letters", "(II)I"⟩ ∈ WALL := hw_wi 532 rfl rfl
set_option maxRecDepth 100000 in
theorem wi_534 : Cond.instanceMethod ⟨"CollectedGroupModel", "letters", "(II)I"⟩ ∈ WALL := hw_wi 534 rfl rfl
set_option maxRecDepth 100000 in
theorem wi_535 : Cond.code ⟨"CollectedGroupModel", "letters", "(II)I"⟩ prog_6_method_9_code 7 (some .int) ∈ WALL := hw_wi 535 rfl rfl
set_option maxRecDepth 100000 in
theorem wi_536 : Cond.methodLink "CollectedGroupModel" 59 ⟨"CollectedGroupModel", "of", "(II)I"⟩ ∈ WALL := hw_wi 536 rfl rfl
set_option maxRecDepth 100000 in
theorem wi_538 : Cond.instanceMethod ⟨"CollectedGroupModel", "of", "(II)I"⟩ ∈ WALL := hw_wi 538 rfl rfl
set_option maxRecDepth 100000 in
theorem wi_539 : Cond.code ⟨"CollectedGroupModel", "of", "(II)I"⟩ prog_6_method_8_code 3 (some .int) ∈ WALL := hw_wi 539 rfl rfl
set_option maxRecDepth 100000 in
theorem wi_540 : Cond.methodLink "CollectedGroupModel" 70 ⟨"CollectedGroupModel", "turns", "(I)Z"⟩ ∈ WALL := hw_wi 540 rfl rfl
set_option maxRecDepth 100000 in
theorem wi_542 : Cond.instanceMethod ⟨"CollectedGroupModel", "turns", "(I)Z"⟩ ∈ WALL := hw_wi 542 rfl rfl
set_option maxRecDepth 100000 in
theorem wi_543 : Cond.code ⟨"CollectedGroupModel", "turns", "(I)Z"⟩ prog_6_method_10_code 8 (some .boolean) ∈ WALL := hw_wi 543 rfl rfl
set_option maxRecDepth 100000 in
theorem wi_544 : Cond.methodLink "CollectedGroupModel" 73 ⟨"CollectedGroupModel", "widen", "(I)V"⟩ ∈ WALL := hw_wi 544 rfl rfl
set_option maxRecDepth 100000 in
theorem wi_546 : Cond.instanceMethod ⟨"CollectedGroupModel", "widen", "(I)V"⟩ ∈ WALL := hw_wi 546 rfl rfl
set_option maxRecDepth 100000 in
theorem wi_547 : Cond.code ⟨"CollectedGroupModel", "widen", "(I)V"⟩ prog_6_method_11_code 6 none ∈ WALL := hw_wi 547 rfl rfl
set_option maxRecDepth 100000 in
theorem wi_548 : Cond.methodLink "CollectedGroupModel" 63 ⟨"CollectedGroupModel", "enter", "(IIII)V"⟩ ∈ WALL := hw_wi 548 rfl rfl
set_option maxRecDepth 100000 in
theorem wi_550 : Cond.instanceMethod ⟨"CollectedGroupModel", "enter", "(IIII)V"⟩ ∈ WALL := hw_wi 550 rfl rfl
set_option maxRecDepth 100000 in
theorem wi_551 : Cond.code ⟨"CollectedGroupModel", "enter", "(IIII)V"⟩ prog_6_method_12_code 10 none ∈ WALL := hw_wi 551 rfl rfl
set_option maxRecDepth 100000 in
theorem wi_552 : Cond.methodLink "CollectedGroupLaw" 53 ⟨"CollectedGroupModel", "release", "()V"⟩ ∈ WALL := hw_wi 552 rfl rfl
set_option maxRecDepth 100000 in
theorem wi_553 : Cond.instanceMethod ⟨"CollectedGroupModel", "release", "()V"⟩ ∈ WALL := hw_wi 553 rfl rfl
set_option maxRecDepth 100000 in
theorem wi_554 : Cond.selects "CollectedGroupModel" ⟨"CollectedGroupModel", "release", "()V"⟩ ⟨"CollectedGroupModel", "release", "()V"⟩ ∈ WALL := hw_wi 554 rfl rfl
set_option maxRecDepth 100000 in
theorem wi_555 : Cond.code ⟨"CollectedGroupModel", "release", "()V"⟩ prog_6_method_15_code 1 none ∈ WALL := hw_wi 555 rfl rfl
set_option maxRecDepth 100000 in
theorem wi_556 : Cond.methodLink "CollectedGroupLaw" 57 ⟨"CollectedGroupModel", "fixed", "()Z"⟩ ∈ WALL := hw_wi 556 rfl rfl
set_option maxRecDepth 100000 in
theorem wi_557 : Cond.instanceMethod ⟨"CollectedGroupModel", "fixed", "()Z"⟩ ∈ WALL := hw_wi 557 rfl rfl
set_option maxRecDepth 100000 in
theorem wi_558 : Cond.selects "CollectedGroupModel" ⟨"CollectedGroupModel", "fixed", "()Z"⟩ ⟨"CollectedGroupModel", "fixed", "()Z"⟩ ∈ WALL := hw_wi 558 rfl rfl
set_option maxRecDepth 100000 in
theorem wi_559 : Cond.code ⟨"CollectedGroupModel", "fixed", "()Z"⟩ prog_6_method_16_code 1 (some .boolean) ∈ WALL := hw_wi 559 rfl rfl
set_option maxRecDepth 100000 in
theorem wi_560 : Cond.methodLink "CollectedGroupLaw" 62 ⟨"CollectedGroupModel", "product", "(II)I"⟩ ∈ WALL := hw_wi 560 rfl rfl
set_option maxRecDepth 100000 in
theorem wi_561 : Cond.instanceMethod ⟨"CollectedGroupModel", "product", "(II)I"⟩ ∈ WALL := hw_wi 561 rfl rfl
set_option maxRecDepth 100000 in
theorem wi_562 : Cond.selects "CollectedGroupModel" ⟨"CollectedGroupModel", "product", "(II)I"⟩ ⟨"CollectedGroupModel", "product", "(II)I"⟩ ∈ WALL := hw_wi 562 rfl rfl
set_option maxRecDepth 100000 in
theorem wi_563 : Cond.code ⟨"CollectedGroupModel", "product", "(II)I"⟩ prog_6_method_18_code 3 (some .int) ∈ WALL := hw_wi 563 rfl rfl
set_option maxRecDepth 100000 in
theorem wi_564 : Cond.methodLink "CollectedGroupModel" 81 ⟨"CollectedGroupModel", "is", "(I)Z"⟩ ∈ WALL := hw_wi 564 rfl rfl
set_option maxRecDepth 100000 in
theorem wi_566 : Cond.instanceMethod ⟨"CollectedGroupModel", "is", "(I)Z"⟩ ∈ WALL := hw_wi 566 rfl rfl
set_option maxRecDepth 100000 in
theorem wi_567 : Cond.code ⟨"CollectedGroupModel", "is", "(I)Z"⟩ prog_6_method_17_code 2 (some .boolean) ∈ WALL := hw_wi 567 rfl rfl
set_option maxRecDepth 100000 in
theorem wi_568 : Cond.methodLink "CollectedGroupLaw" 78 ⟨"CollectedGroupModel", "order", "(I)I"⟩ ∈ WALL := hw_wi 568 rfl rfl
set_option maxRecDepth 100000 in
theorem wi_569 : Cond.instanceMethod ⟨"CollectedGroupModel", "order", "(I)I"⟩ ∈ WALL := hw_wi 569 rfl rfl
set_option maxRecDepth 100000 in
theorem wi_570 : Cond.selects "CollectedGroupModel" ⟨"CollectedGroupModel", "order", "(I)I"⟩ ⟨"CollectedGroupModel", "order", "(I)I"⟩ ∈ WALL := hw_wi 570 rfl rfl
set_option maxRecDepth 100000 in
theorem wi_571 : Cond.code ⟨"CollectedGroupModel", "order", "(I)I"⟩ prog_6_method_19_code 4 (some .int) ∈ WALL := hw_wi 571 rfl rfl
set_option maxRecDepth 100000 in
theorem wi_572 : Cond.methodLink "CollectedGroupLaw" 66 ⟨"CollectedGroupModel", "times", "(II)I"⟩ ∈ WALL := hw_wi 572 rfl rfl
set_option maxRecDepth 100000 in
theorem wi_573 : Cond.instanceMethod ⟨"CollectedGroupModel", "times", "(II)I"⟩ ∈ WALL := hw_wi 573 rfl rfl
set_option maxRecDepth 100000 in
theorem wi_574 : Cond.selects "CollectedGroupModel" ⟨"CollectedGroupModel", "times", "(II)I"⟩ ⟨"CollectedGroupModel", "times", "(II)I"⟩ ∈ WALL := hw_wi 574 rfl rfl
set_option maxRecDepth 100000 in
theorem wi_575 : Cond.code ⟨"CollectedGroupModel", "times", "(II)I"⟩ prog_6_method_20_code 7 (some .int) ∈ WALL := hw_wi 575 rfl rfl
set_option maxRecDepth 100000 in
theorem wi_576 : Cond.methodLink "CollectedGroupModel" 84 ⟨"CollectedGroupModel", "order", "(I)I"⟩ ∈ WALL := hw_wi 576 rfl rfl
set_option maxRecDepth 100000 in
theorem wi_577 : Cond.methodLink "CollectedGroupLaw" 70 ⟨"CollectedGroupModel", "conjugated", "(II)I"⟩ ∈ WALL := hw_wi 577 rfl rfl
set_option maxRecDepth 100000 in
theorem wi_578 : Cond.instanceMethod ⟨"CollectedGroupModel", "conjugated", "(II)I"⟩ ∈ WALL := hw_wi 578 rfl rfl
set_option maxRecDepth 100000 in
theorem wi_579 : Cond.selects "CollectedGroupModel" ⟨"CollectedGroupModel", "conjugated", "(II)I"⟩ ⟨"CollectedGroupModel", "conjugated", "(II)I"⟩ ∈ WALL := hw_wi 579 rfl rfl
set_option maxRecDepth 100000 in
theorem wi_580 : Cond.code ⟨"CollectedGroupModel", "conjugated", "(II)I"⟩ prog_6_method_23_code 3 (some .int) ∈ WALL := hw_wi 580 rfl rfl
set_option maxRecDepth 100000 in
theorem wi_581 : Cond.methodLink "CollectedGroupModel" 88 ⟨"CollectedGroupModel", "by", "(II)I"⟩ ∈ WALL := hw_wi 581 rfl rfl
set_option maxRecDepth 100000 in
theorem wi_583 : Cond.instanceMethod ⟨"CollectedGroupModel", "by", "(II)I"⟩ ∈ WALL := hw_wi 583 rfl rfl
set_option maxRecDepth 100000 in
theorem wi_584 : Cond.code ⟨"CollectedGroupModel", "by", "(II)I"⟩ prog_6_method_21_code 3 (some .int) ∈ WALL := hw_wi 584 rfl rfl
set_option maxRecDepth 100000 in
theorem wi_585 : Cond.methodLink "CollectedGroupLaw" 74 ⟨"CollectedGroupModel", "commutator", "(II)I"⟩ ∈ WALL := hw_wi 585 rfl rfl
set_option maxRecDepth 100000 in
theorem wi_586 : Cond.instanceMethod ⟨"CollectedGroupModel", "commutator", "(II)I"⟩ ∈ WALL := hw_wi 586 rfl rfl
set_option maxRecDepth 100000 in
theorem wi_587 : Cond.selects "CollectedGroupModel" ⟨"CollectedGroupModel", "commutator", "(II)I"⟩ ⟨"CollectedGroupModel", "commutator", "(II)I"⟩ ∈ WALL := hw_wi 587 rfl rfl
set_option maxRecDepth 100000 in
theorem wi_588 : Cond.code ⟨"CollectedGroupModel", "commutator", "(II)I"⟩ prog_6_method_24_code 3 (some .int) ∈ WALL := hw_wi 588 rfl rfl
set_option maxRecDepth 100000 in
theorem wi_589 : Cond.methodLink "CollectedGroupModel" 91 ⟨"CollectedGroupModel", "bracket", "(II)I"⟩ ∈ WALL := hw_wi 589 rfl rfl
set_option maxRecDepth 100000 in
theorem wi_591 : Cond.instanceMethod ⟨"CollectedGroupModel", "bracket", "(II)I"⟩ ∈ WALL := hw_wi 591 rfl rfl
set_option maxRecDepth 100000 in
theorem wi_592 : Cond.code ⟨"CollectedGroupModel", "bracket", "(II)I"⟩ prog_6_method_22_code 3 (some .int) ∈ WALL := hw_wi 592 rfl rfl
set_option maxRecDepth 100000 in
theorem wi_593 : Cond.methodLink "CollectedGroupLaw" 82 ⟨"CollectedGroupModel", "clear", "(I)I"⟩ ∈ WALL := hw_wi 593 rfl rfl
set_option maxRecDepth 100000 in
theorem wi_594 : Cond.instanceMethod ⟨"CollectedGroupModel", "clear", "(I)I"⟩ ∈ WALL := hw_wi 594 rfl rfl
set_option maxRecDepth 100000 in
theorem wi_595 : Cond.selects "CollectedGroupModel" ⟨"CollectedGroupModel", "clear", "(I)I"⟩ ⟨"CollectedGroupModel", "clear", "(I)I"⟩ ∈ WALL := hw_wi 595 rfl rfl
set_option maxRecDepth 100000 in
theorem wi_596 : Cond.code ⟨"CollectedGroupModel", "clear", "(I)I"⟩ prog_6_method_30_code 3 (some .int) ∈ WALL := hw_wi 596 rfl rfl
set_option maxRecDepth 100000 in
theorem wi_597 : Cond.methodLink "CollectedGroupModel" 101 ⟨"CollectedGroupModel", "isPlace", "(I)Z"⟩ ∈ WALL := hw_wi 597 rfl rfl
set_option maxRecDepth 100000 in
theorem wi_599 : Cond.instanceMethod ⟨"CollectedGroupModel", "isPlace", "(I)Z"⟩ ∈ WALL := hw_wi 599 rfl rfl
set_option maxRecDepth 100000 in
theorem wi_600 : Cond.code ⟨"CollectedGroupModel", "isPlace", "(I)Z"⟩ prog_6_method_25_code 2 (some .boolean) ∈ WALL := hw_wi 600 rfl rfl
set_option maxRecDepth 100000 in
theorem wi_601 : Cond.methodLink "CollectedGroupLaw" 86 ⟨"CollectedGroupModel", "join", "(II)I"⟩ ∈ WALL := hw_wi 601 rfl rfl
set_option maxRecDepth 100000 in
theorem wi_602 : Cond.instanceMethod ⟨"CollectedGroupModel", "join", "(II)I"⟩ ∈ WALL := hw_wi 602 rfl rfl
set_option maxRecDepth 100000 in
theorem wi_603 : Cond.selects "CollectedGroupModel" ⟨"CollectedGroupModel", "join", "(II)I"⟩ ⟨"CollectedGroupModel", "join", "(II)I"⟩ ∈ WALL := hw_wi 603 rfl rfl
set_option maxRecDepth 100000 in
theorem wi_604 : Cond.code ⟨"CollectedGroupModel", "join", "(II)I"⟩ prog_6_method_31_code 3 (some .int) ∈ WALL := hw_wi 604 rfl rfl
set_option maxRecDepth 100000 in
theorem wi_605 : Cond.methodLink "CollectedGroupModel" 104 ⟨"CollectedGroupModel", "take", "(I)V"⟩ ∈ WALL := hw_wi 605 rfl rfl
set_option maxRecDepth 100000 in
theorem wi_607 : Cond.instanceMethod ⟨"CollectedGroupModel", "take", "(I)V"⟩ ∈ WALL := hw_wi 607 rfl rfl
set_option maxRecDepth 100000 in
theorem wi_608 : Cond.code ⟨"CollectedGroupModel", "take", "(I)V"⟩ prog_6_method_28_code 3 none ∈ WALL := hw_wi 608 rfl rfl
set_option maxRecDepth 100000 in
theorem wi_609 : Cond.methodLink "CollectedGroupModel" 107 ⟨"CollectedGroupModel", "put", "(I)I"⟩ ∈ WALL := hw_wi 609 rfl rfl
set_option maxRecDepth 100000 in
theorem wi_611 : Cond.instanceMethod ⟨"CollectedGroupModel", "put", "(I)I"⟩ ∈ WALL := hw_wi 611 rfl rfl
set_option maxRecDepth 100000 in
theorem wi_612 : Cond.code ⟨"CollectedGroupModel", "put", "(I)I"⟩ prog_6_method_29_code 3 (some .int) ∈ WALL := hw_wi 612 rfl rfl
set_option maxRecDepth 100000 in
theorem wi_613 : Cond.methodLink "CollectedGroupModel" 98 ⟨"CollectedGroupModel", "close", "()V"⟩ ∈ WALL := hw_wi 613 rfl rfl
set_option maxRecDepth 100000 in
theorem wi_615 : Cond.instanceMethod ⟨"CollectedGroupModel", "close", "()V"⟩ ∈ WALL := hw_wi 615 rfl rfl
set_option maxRecDepth 100000 in
theorem wi_616 : Cond.code ⟨"CollectedGroupModel", "close", "()V"⟩ prog_6_method_27_code 4 none ∈ WALL := hw_wi 616 rfl rfl
set_option maxRecDepth 100000 in
theorem wi_617 : Cond.methodLink "CollectedGroupModel" 94 ⟨"CollectedGroupModel", "worked", "()I"⟩ ∈ WALL := hw_wi 617 rfl rfl
set_option maxRecDepth 100000 in
theorem wi_619 : Cond.instanceMethod ⟨"CollectedGroupModel", "worked", "()I"⟩ ∈ WALL := hw_wi 619 rfl rfl
set_option maxRecDepth 100000 in
theorem wi_620 : Cond.code ⟨"CollectedGroupModel", "worked", "()I"⟩ prog_6_method_26_code 3 (some .int) ∈ WALL := hw_wi 620 rfl rfl
set_option maxRecDepth 100000 in
theorem wi_621 : Cond.methodLink "CollectedGroupLaw" 90 ⟨"CollectedGroupModel", "spread", "(I)I"⟩ ∈ WALL := hw_wi 621 rfl rfl
set_option maxRecDepth 100000 in
theorem wi_622 : Cond.instanceMethod ⟨"CollectedGroupModel", "spread", "(I)I"⟩ ∈ WALL := hw_wi 622 rfl rfl
set_option maxRecDepth 100000 in
theorem wi_623 : Cond.selects "CollectedGroupModel" ⟨"CollectedGroupModel", "spread", "(I)I"⟩ ⟨"CollectedGroupModel", "spread", "(I)I"⟩ ∈ WALL := hw_wi 623 rfl rfl
set_option maxRecDepth 100000 in
theorem wi_624 : Cond.code ⟨"CollectedGroupModel", "spread", "(I)I"⟩ prog_6_method_32_code 4 (some .int) ∈ WALL := hw_wi 624 rfl rfl
set_option maxRecDepth 100000 in
theorem wi_625 : Cond.methodLink "CollectedGroupLaw" 95 ⟨"CollectedGroupModel", "commute", "(III)I"⟩ ∈ WALL := hw_wi 625 rfl rfl
set_option maxRecDepth 100000 in
theorem wi_626 : Cond.instanceMethod ⟨"CollectedGroupModel", "commute", "(III)I"⟩ ∈ WALL := hw_wi 626 rfl rfl
set_option maxRecDepth 100000 in
theorem wi_627 : Cond.selects "CollectedGroupModel" ⟨"CollectedGroupModel", "commute", "(III)I"⟩ ⟨"CollectedGroupModel", "commute", "(III)I"⟩ ∈ WALL := hw_wi 627 rfl rfl
set_option maxRecDepth 100000 in
theorem wi_628 : Cond.code ⟨"CollectedGroupModel", "commute", "(III)I"⟩ prog_6_method_33_code 6 (some .int) ∈ WALL := hw_wi 628 rfl rfl
set_option maxRecDepth 100000 in
theorem wi_629 : Cond.methodLink "CollectedGroupLaw" 99 ⟨"CollectedGroupModel", "count", "(I)I"⟩ ∈ WALL := hw_wi 629 rfl rfl
set_option maxRecDepth 100000 in
theorem wi_630 : Cond.instanceMethod ⟨"CollectedGroupModel", "count", "(I)I"⟩ ∈ WALL := hw_wi 630 rfl rfl
set_option maxRecDepth 100000 in
theorem wi_631 : Cond.selects "CollectedGroupModel" ⟨"CollectedGroupModel", "count", "(I)I"⟩ ⟨"CollectedGroupModel", "count", "(I)I"⟩ ∈ WALL := hw_wi 631 rfl rfl
set_option maxRecDepth 100000 in
theorem wi_632 : Cond.code ⟨"CollectedGroupModel", "count", "(I)I"⟩ prog_6_method_34_code 2 (some .int) ∈ WALL := hw_wi 632 rfl rfl
set_option maxRecDepth 100000 in
theorem wi_633 : Cond.methodLink "CollectedGroupLaw" 103 ⟨"CollectedGroupModel", "has", "(II)Z"⟩ ∈ WALL := hw_wi 633 rfl rfl
set_option maxRecDepth 100000 in
theorem wi_634 : Cond.instanceMethod ⟨"CollectedGroupModel", "has", "(II)Z"⟩ ∈ WALL := hw_wi 634 rfl rfl
set_option maxRecDepth 100000 in
theorem wi_635 : Cond.selects "CollectedGroupModel" ⟨"CollectedGroupModel", "has", "(II)Z"⟩ ⟨"CollectedGroupModel", "has", "(II)Z"⟩ ∈ WALL := hw_wi 635 rfl rfl
set_option maxRecDepth 100000 in
theorem wi_636 : Cond.code ⟨"CollectedGroupModel", "has", "(II)Z"⟩ prog_6_method_35_code 3 (some .boolean) ∈ WALL := hw_wi 636 rfl rfl
set_option maxRecDepth 100000 in
theorem wi_637 : Cond.methodLink "CollectedGroupLaw" 107 ⟨"CollectedGroupModel", "derived", "(I)I"⟩ ∈ WALL := hw_wi 637 rfl rfl
set_option maxRecDepth 100000 in
theorem wi_638 : Cond.instanceMethod ⟨"CollectedGroupModel", "derived", "(I)I"⟩ ∈ WALL := hw_wi 638 rfl rfl
set_option maxRecDepth 100000 in
theorem wi_639 : Cond.selects "CollectedGroupModel" ⟨"CollectedGroupModel", "derived", "(I)I"⟩ ⟨"CollectedGroupModel", "derived", "(I)I"⟩ ∈ WALL := hw_wi 639 rfl rfl
set_option maxRecDepth 100000 in
theorem wi_640 : Cond.code ⟨"CollectedGroupModel", "derived", "(I)I"⟩ prog_6_method_37_code 2 (some .int) ∈ WALL := hw_wi 640 rfl rfl
set_option maxRecDepth 100000 in
theorem wi_641 : Cond.methodLink "CollectedGroupModel" 110 ⟨"CollectedGroupModel", "series", "(IZ)I"⟩ ∈ WALL := hw_wi 641 rfl rfl
set_option maxRecDepth 100000 in
theorem wi_643 : Cond.instanceMethod ⟨"CollectedGroupModel", "series", "(IZ)I"⟩ ∈ WALL := hw_wi 643 rfl rfl
set_option maxRecDepth 100000 in
theorem wi_644 : Cond.code ⟨"CollectedGroupModel", "series", "(IZ)I"⟩ prog_6_method_36_code 6 (some .int) ∈ WALL := hw_wi 644 rfl rfl
set_option maxRecDepth 100000 in
theorem wi_645 : Cond.methodLink "CollectedGroupLaw" 111 ⟨"CollectedGroupModel", "lower", "(I)I"⟩ ∈ WALL := hw_wi 645 rfl rfl
set_option maxRecDepth 100000 in
theorem wi_646 : Cond.instanceMethod ⟨"CollectedGroupModel", "lower", "(I)I"⟩ ∈ WALL := hw_wi 646 rfl rfl
set_option maxRecDepth 100000 in
theorem wi_647 : Cond.selects "CollectedGroupModel" ⟨"CollectedGroupModel", "lower", "(I)I"⟩ ⟨"CollectedGroupModel", "lower", "(I)I"⟩ ∈ WALL := hw_wi 647 rfl rfl
set_option maxRecDepth 100000 in
theorem wi_648 : Cond.code ⟨"CollectedGroupModel", "lower", "(I)I"⟩ prog_6_method_38_code 2 (some .int) ∈ WALL := hw_wi 648 rfl rfl
set_option maxRecDepth 100000 in
theorem wi_649 : Cond.methodLink "CollectedGroupLaw" 115 ⟨"CollectedGroupModel", "centre", "()I"⟩ ∈ WALL := hw_wi 649 rfl rfl
set_option maxRecDepth 100000 in
theorem wi_650 : Cond.instanceMethod ⟨"CollectedGroupModel", "centre", "()I"⟩ ∈ WALL := hw_wi 650 rfl rfl
set_option maxRecDepth 100000 in
theorem wi_651 : Cond.selects "CollectedGroupModel" ⟨"CollectedGroupModel", "centre", "()I"⟩ ⟨"CollectedGroupModel", "centre", "()I"⟩ ∈ WALL := hw_wi 651 rfl rfl
set_option maxRecDepth 100000 in
theorem wi_652 : Cond.code ⟨"CollectedGroupModel", "centre", "()I"⟩ prog_6_method_41_code 5 (some .int) ∈ WALL := hw_wi 652 rfl rfl
set_option maxRecDepth 100000 in
theorem wi_653 : Cond.methodLink "CollectedGroupLaw" 119 ⟨"CollectedGroupModel", "classes", "()I"⟩ ∈ WALL := hw_wi 653 rfl rfl
set_option maxRecDepth 100000 in
theorem wi_654 : Cond.instanceMethod ⟨"CollectedGroupModel", "classes", "()I"⟩ ∈ WALL := hw_wi 654 rfl rfl
set_option maxRecDepth 100000 in
theorem wi_655 : Cond.selects "CollectedGroupModel" ⟨"CollectedGroupModel", "classes", "()I"⟩ ⟨"CollectedGroupModel", "classes", "()I"⟩ ∈ WALL := hw_wi 655 rfl rfl
set_option maxRecDepth 100000 in
theorem wi_656 : Cond.code ⟨"CollectedGroupModel", "classes", "()I"⟩ prog_6_method_42_code 3 (some .int) ∈ WALL := hw_wi 656 rfl rfl
set_option maxRecDepth 100000 in
theorem wi_657 : Cond.methodLink "CollectedGroupModel" 114 ⟨"CollectedGroupModel", "least", "(I)I"⟩ ∈ WALL := hw_wi 657 rfl rfl
set_option maxRecDepth 100000 in
theorem wi_659 : Cond.instanceMethod ⟨"CollectedGroupModel", "least", "(I)I"⟩ ∈ WALL := hw_wi 659 rfl rfl
set_option maxRecDepth 100000 in
theorem wi_660 : Cond.code ⟨"CollectedGroupModel", "least", "(I)I"⟩ prog_6_method_39_code 5 (some .int) ∈ WALL := hw_wi 660 rfl rfl
set_option maxRecDepth 100000 in
theorem wi_661 : Cond.methodLink "CollectedGroupLaw" 123 ⟨"CollectedGroupModel", "kin", "(I)I"⟩ ∈ WALL := hw_wi 661 rfl rfl
set_option maxRecDepth 100000 in
theorem wi_662 : Cond.instanceMethod ⟨"CollectedGroupModel", "kin", "(I)I"⟩ ∈ WALL := hw_wi 662 rfl rfl
set_option maxRecDepth 100000 in
theorem wi_663 : Cond.selects "CollectedGroupModel" ⟨"CollectedGroupModel", "kin", "(I)I"⟩ ⟨"CollectedGroupModel", "kin", "(I)I"⟩ ∈ WALL := hw_wi 663 rfl rfl
set_option maxRecDepth 100000 in
theorem wi_664 : Cond.code ⟨"CollectedGroupModel", "kin", "(I)I"⟩ prog_6_method_43_code 2 (some .int) ∈ WALL := hw_wi 664 rfl rfl
set_option maxRecDepth 100000 in
theorem wi_665 : Cond.methodLink "CollectedGroupModel" 117 ⟨"CollectedGroupModel", "relatives", "(I)I"⟩ ∈ WALL := hw_wi 665 rfl rfl
set_option maxRecDepth 100000 in
theorem wi_667 : Cond.instanceMethod ⟨"CollectedGroupModel", "relatives", "(I)I"⟩ ∈ WALL := hw_wi 667 rfl rfl
set_option maxRecDepth 100000 in
theorem wi_668 : Cond.code ⟨"CollectedGroupModel", "relatives", "(I)I"⟩ prog_6_method_40_code 3 (some .int) ∈ WALL := hw_wi 668 rfl rfl
set_option maxRecDepth 100000 in
theorem wi_669 : Cond.methodLink "CollectedGroupLaw" 127 ⟨"CollectedGroupModel", "head", "(I)I"⟩ ∈ WALL := hw_wi 669 rfl rfl
set_option maxRecDepth 100000 in
theorem wi_670 : Cond.instanceMethod ⟨"CollectedGroupModel", "head", "(I)I"⟩ ∈ WALL := hw_wi 670 rfl rfl
set_option maxRecDepth 100000 in
theorem wi_671 : Cond.selects "CollectedGroupModel" ⟨"CollectedGroupModel", "head", "(I)I"⟩ ⟨"CollectedGroupModel", "head", "(I)I"⟩ ∈ WALL := hw_wi 671 rfl rfl
set_option maxRecDepth 100000 in
theorem wi_672 : Cond.code ⟨"CollectedGroupModel", "head", "(I)I"⟩ prog_6_method_44_code 2 (some .int) ∈ WALL := hw_wi 672 rfl rfl
end
section
theorem in_Col : ∀ w ∈ u_ws R_Col F_Col 8, w ∈ WALL := List.forall_mem_cons.mpr ⟨wi_87, List.forall_mem_cons.mpr ⟨wi_89, List.forall_mem_cons.mpr ⟨wi_91, List.forall_mem_cons.mpr ⟨wi_93, List.forall_mem_cons.mpr ⟨wi_95, List.forall_mem_cons.mpr ⟨wi_97, List.forall_mem_cons.mpr ⟨wi_99, List.forall_mem_cons.mpr ⟨wi_101, fun _ h => absurd h List.not_mem_nil⟩⟩⟩⟩⟩⟩⟩⟩
theorem in_Set : ∀ w ∈ u_ws R_Set F_Set 3, w ∈ WALL := List.forall_mem_cons.mpr ⟨wi_125, List.forall_mem_cons.mpr ⟨wi_127, List.forall_mem_cons.mpr ⟨wi_129, fun _ h => absurd h List.not_mem_nil⟩⟩⟩
theorem in_Sub : ∀ w ∈ u_ws R_Sub F_Sub 4, w ∈ WALL := List.forall_mem_cons.mpr ⟨wi_141, List.forall_mem_cons.mpr ⟨wi_143, List.forall_mem_cons.mpr ⟨wi_145, List.forall_mem_cons.mpr ⟨wi_147, fun _ h => absurd h List.not_mem_nil⟩⟩⟩⟩
theorem in_Top : ∀ w ∈ u_ws R_Top F_Top 7, w ∈ WALL := List.forall_mem_cons.mpr ⟨wi_160, List.forall_mem_cons.mpr ⟨wi_162, List.forall_mem_cons.mpr ⟨wi_164, List.forall_mem_cons.mpr ⟨wi_166, List.forall_mem_cons.mpr ⟨wi_168, List.forall_mem_cons.mpr ⟨wi_170, List.forall_mem_cons.mpr ⟨wi_172, fun _ h => absurd h List.not_mem_nil⟩⟩⟩⟩⟩⟩⟩
theorem in_Mod : ∀ w ∈ u_ws R_Mod F_Mod 14, w ∈ WALL := List.forall_mem_cons.mpr ⟨wi_471, List.forall_mem_cons.mpr ⟨wi_473, List.forall_mem_cons.mpr ⟨wi_475, List.forall_mem_cons.mpr ⟨wi_477, List.forall_mem_cons.mpr ⟨wi_479, List.forall_mem_cons.mpr ⟨wi_481, List.forall_mem_cons.mpr ⟨wi_483, List.forall_mem_cons.mpr ⟨wi_485, List.forall_mem_cons.mpr ⟨wi_487, List.forall_mem_cons.mpr ⟨wi_489, List.forall_mem_cons.mpr ⟨wi_491, List.forall_mem_cons.mpr ⟨wi_493, List.forall_mem_cons.mpr ⟨wi_495, List.forall_mem_cons.mpr ⟨wi_497, fun _ h => absurd h List.not_mem_nil⟩⟩⟩⟩⟩⟩⟩⟩⟩⟩⟩⟩⟩⟩
theorem cs_Sub_17 : Cond.methodLink R_Sub 17 y_Col_elementCount ∈ WALL ∧ Cond.instanceMethod y_Col_elementCount ∈ WALL ∧ Cond.selects R_Col y_Col_elementCount y_Col_elementCount ∈ WALL ∧ Cond.initialized (MethodName.cls y_Col_elementCount) ∈ WALL ∧ Cond.code y_Col_elementCount b_Col_elementCount 1 (some .int) ∈ WALL ∧ (MethodName.cls y_Col_elementCount ≠ "java/lang/invoke/MethodHandle" ∧ MethodName.cls y_Col_elementCount ≠ "java/lang/invoke/VarHandle" ∧ (parseMethodDescriptor (MethodName.desc y_Col_elementCount)).map (fun d => d.parameters.length) = some 0) := ⟨wi_114, wi_115, wi_116, wi_33, wi_117, by decide +kernel⟩
theorem cs_Sub_38 : Cond.methodLink R_Sub 38 y_Set_add ∈ WALL ∧ Cond.instanceMethod y_Set_add ∈ WALL ∧ Cond.selects R_Set y_Set_add y_Set_add ∈ WALL ∧ Cond.initialized (MethodName.cls y_Set_add) ∈ WALL ∧ Cond.code y_Set_add b_Set_add 2 none ∈ WALL ∧ (MethodName.cls y_Set_add ≠ "java/lang/invoke/MethodHandle" ∧ MethodName.cls y_Set_add ≠ "java/lang/invoke/VarHandle" ∧ (parseMethodDescriptor (MethodName.desc y_Set_add)).map (fun d => d.parameters.length) = some 1) := ⟨wi_133, wi_134, wi_135, wi_38, wi_136, by decide +kernel⟩
theorem cs_Top_43 : Cond.methodLink R_Top 43 y_Col_elementCount ∈ WALL ∧ Cond.instanceMethod y_Col_elementCount ∈ WALL ∧ Cond.selects R_Col y_Col_elementCount y_Col_elementCount ∈ WALL ∧ Cond.initialized (MethodName.cls y_Col_elementCount) ∈ WALL ∧ Cond.code y_Col_elementCount b_Col_elementCount 1 (some .int) ∈ WALL ∧ (MethodName.cls y_Col_elementCount ≠ "java/lang/invoke/MethodHandle" ∧ MethodName.cls y_Col_elementCount ≠ "java/lang/invoke/VarHandle" ∧ (parseMethodDescriptor (MethodName.desc y_Col_elementCount)).map (fun d => d.parameters.length) = some 0) := ⟨wi_151, wi_115, wi_116, wi_33, wi_117, by decide +kernel⟩
theorem cs_Law_21 : Cond.methodLink R_Law 21 y_Top_generators ∈ WALL ∧ Cond.instanceMethod y_Top_generators ∈ WALL ∧ Cond.selects R_Top y_Top_generators y_Top_generators ∈ WALL ∧ Cond.initialized (MethodName.cls y_Top_generators) ∈ WALL ∧ Cond.code y_Top_generators b_Top_generators 1 (some .int) ∈ WALL ∧ (MethodName.cls y_Top_generators ≠ "java/lang/invoke/MethodHandle" ∧ MethodName.cls y_Top_generators ≠ "java/lang/invoke/VarHandle" ∧ (parseMethodDescriptor (MethodName.desc y_Top_generators)).map (fun d => d.parameters.length) = some 0) := ⟨wi_175, wi_176, wi_177, wi_32, wi_178, by decide +kernel⟩
theorem cs_Top_58 : Cond.methodLink R_Top 58 y_Col_letterCount ∈ WALL ∧ Cond.instanceMethod y_Col_letterCount ∈ WALL ∧ Cond.selects R_Col y_Col_letterCount y_Col_letterCount ∈ WALL ∧ Cond.initialized (MethodName.cls y_Col_letterCount) ∈ WALL ∧ Cond.code y_Col_letterCount b_Col_letterCount 1 (some .int) ∈ WALL ∧ (MethodName.cls y_Col_letterCount ≠ "java/lang/invoke/MethodHandle" ∧ MethodName.cls y_Col_letterCount ≠ "java/lang/invoke/VarHandle" ∧ (parseMethodDescriptor (MethodName.desc y_Col_letterCount)).map (fun d => d.parameters.length) = some 0) := ⟨wi_179, wi_180, wi_181, wi_33, wi_182, by decide +kernel⟩
theorem cs_Law_26 : Cond.methodLink R_Law 26 y_Top_size ∈ WALL ∧ Cond.instanceMethod y_Top_size ∈ WALL ∧ Cond.selects R_Top y_Top_size y_Top_size ∈ WALL ∧ Cond.initialized (MethodName.cls y_Top_size) ∈ WALL ∧ Cond.code y_Top_size b_Top_size 1 (some .int) ∈ WALL ∧ (MethodName.cls y_Top_size ≠ "java/lang/invoke/MethodHandle" ∧ MethodName.cls y_Top_size ≠ "java/lang/invoke/VarHandle" ∧ (parseMethodDescriptor (MethodName.desc y_Top_size)).map (fun d => d.parameters.length) = some 0) := ⟨wi_183, wi_184, wi_185, wi_32, wi_186, by decide +kernel⟩
theorem cs_Law_30 : Cond.methodLink R_Law 30 y_Top_generator ∈ WALL ∧ Cond.instanceMethod y_Top_generator ∈ WALL ∧ Cond.selects R_Top y_Top_generator y_Top_generator ∈ WALL ∧ Cond.initialized (MethodName.cls y_Top_generator) ∈ WALL ∧ Cond.code y_Top_generator b_Top_generator 2 (some .int) ∈ WALL ∧ (MethodName.cls y_Top_generator ≠ "java/lang/invoke/MethodHandle" ∧ MethodName.cls y_Top_generator ≠ "java/lang/invoke/VarHandle" ∧ (parseMethodDescriptor (MethodName.desc y_Top_generator)).map (fun d => d.parameters.length) = some 1) := ⟨wi_187, wi_188, wi_189, wi_32, wi_190, by decide +kernel⟩
theorem cs_Top_61 : Cond.methodLink R_Top 61 y_Col_isLetter ∈ WALL ∧ Cond.instanceMethod y_Col_isLetter ∈ WALL ∧ Cond.selects R_Col y_Col_isLetter y_Col_isLetter ∈ WALL ∧ Cond.initialized (MethodName.cls y_Col_isLetter) ∈ WALL ∧ Cond.code y_Col_isLetter b_Col_isLetter 2 (some .boolean) ∈ WALL ∧ (MethodName.cls y_Col_isLetter ≠ "java/lang/invoke/MethodHandle" ∧ MethodName.cls y_Col_isLetter ≠ "java/lang/invoke/VarHandle" ∧ (parseMethodDescriptor (MethodName.desc y_Col_isLetter)).map (fun d => d.parameters.length) = some 1) := ⟨wi_191, wi_192, wi_193, wi_33, wi_194, by decide +kernel⟩
theorem cs_Top_65 : Cond.methodLink R_Top 65 y_Col_letter ∈ WALL ∧ Cond.instanceMethod y_Col_letter ∈ WALL ∧ Cond.selects R_Col y_Col_letter y_Col_letter ∈ WALL ∧ Cond.initialized (MethodName.cls y_Col_letter) ∈ WALL ∧ Cond.code y_Col_letter b_Col_letter 2 (some .int) ∈ WALL ∧ (MethodName.cls y_Col_letter ≠ "java/lang/invoke/MethodHandle" ∧ MethodName.cls y_Col_letter ≠ "java/lang/invoke/VarHandle" ∧ (parseMethodDescriptor (MethodName.desc y_Col_letter)).map (fun d => d.parameters.length) = some 1) := ⟨wi_195, wi_196, wi_197, wi_33, wi_198, by decide +kernel⟩
theorem cs_Law_35 : Cond.methodLink R_Law 35 y_Top_power ∈ WALL ∧ Cond.instanceMethod y_Top_power ∈ WALL ∧ Cond.selects R_Top y_Top_power y_Top_power ∈ WALL ∧ Cond.initialized (MethodName.cls y_Top_power) ∈ WALL ∧ Cond.code y_Top_power b_Top_power 3 (some .boolean) ∈ WALL ∧ (MethodName.cls y_Top_power ≠ "java/lang/invoke/MethodHandle" ∧ MethodName.cls y_Top_power ≠ "java/lang/invoke/VarHandle" ∧ (parseMethodDescriptor (MethodName.desc y_Top_power)).map (fun d => d.parameters.length) = some 2) := ⟨wi_199, wi_200, wi_201, wi_32, wi_202, by decide +kernel⟩
theorem cs_Top_69 : Cond.methodLink R_Top 69 y_Col_isWordBehind ∈ WALL ∧ Cond.instanceMethod y_Col_isWordBehind ∈ WALL ∧ Cond.selects R_Col y_Col_isWordBehind y_Col_isWordBehind ∈ WALL ∧ Cond.initialized (MethodName.cls y_Col_isWordBehind) ∈ WALL ∧ Cond.code y_Col_isWordBehind b_Col_isWordBehind 3 (some .boolean) ∈ WALL ∧ (MethodName.cls y_Col_isWordBehind ≠ "java/lang/invoke/MethodHandle" ∧ MethodName.cls y_Col_isWordBehind ≠ "java/lang/invoke/VarHandle" ∧ (parseMethodDescriptor (MethodName.desc y_Col_isWordBehind)).map (fun d => d.parameters.length) = some 2) := ⟨wi_203, wi_204, wi_205, wi_33, wi_206, by decide +kernel⟩
theorem cs_Col_38 : Cond.methodLink R_Col 38 y_Col_isLetter ∈ WALL ∧ Cond.instanceMethod y_Col_isLetter ∈ WALL ∧ Cond.selects R_Col y_Col_isLetter y_Col_isLetter ∈ WALL ∧ Cond.initialized (MethodName.cls y_Col_isLetter) ∈ WALL ∧ Cond.code y_Col_isLetter b_Col_isLetter 2 (some .boolean) ∈ WALL ∧ (MethodName.cls y_Col_isLetter ≠ "java/lang/invoke/MethodHandle" ∧ MethodName.cls y_Col_isLetter ≠ "java/lang/invoke/VarHandle" ∧ (parseMethodDescriptor (MethodName.desc y_Col_isLetter)).map (fun d => d.parameters.length) = some 1) := ⟨wi_207, wi_192, wi_193, wi_33, wi_194, by decide +kernel⟩
theorem cs_Top_73 : Cond.methodLink R_Top 73 y_Col_setPower ∈ WALL ∧ Cond.instanceMethod y_Col_setPower ∈ WALL ∧ Cond.selects R_Col y_Col_setPower y_Col_setPower ∈ WALL ∧ Cond.initialized (MethodName.cls y_Col_setPower) ∈ WALL ∧ Cond.code y_Col_setPower b_Col_setPower 3 none ∈ WALL ∧ (MethodName.cls y_Col_setPower ≠ "java/lang/invoke/MethodHandle" ∧ MethodName.cls y_Col_setPower ≠ "java/lang/invoke/VarHandle" ∧ (parseMethodDescriptor (MethodName.desc y_Col_setPower)).map (fun d => d.parameters.length) = some 2) := ⟨wi_208, wi_209, wi_210, wi_33, wi_211, by decide +kernel⟩
theorem cs_Law_40 : Cond.methodLink R_Law 40 y_Top_conjugate ∈ WALL ∧ Cond.instanceMethod y_Top_conjugate ∈ WALL ∧ Cond.selects R_Top y_Top_conjugate y_Top_conjugate ∈ WALL ∧ Cond.initialized (MethodName.cls y_Top_conjugate) ∈ WALL ∧ Cond.code y_Top_conjugate b_Top_conjugate 4 (some .boolean) ∈ WALL ∧ (MethodName.cls y_Top_conjugate ≠ "java/lang/invoke/MethodHandle" ∧ MethodName.cls y_Top_conjugate ≠ "java/lang/invoke/VarHandle" ∧ (parseMethodDescriptor (MethodName.desc y_Top_conjugate)).map (fun d => d.parameters.length) = some 3) := ⟨wi_212, wi_213, wi_214, wi_32, wi_215, by decide +kernel⟩
theorem cs_Top_77 : Cond.methodLink R_Top 77 y_Col_setConjugate ∈ WALL ∧ Cond.instanceMethod y_Col_setConjugate ∈ WALL ∧ Cond.selects R_Col y_Col_setConjugate y_Col_setConjugate ∈ WALL ∧ Cond.initialized (MethodName.cls y_Col_setConjugate) ∈ WALL ∧ Cond.code y_Col_setConjugate b_Col_setConjugate 4 none ∈ WALL ∧ (MethodName.cls y_Col_setConjugate ≠ "java/lang/invoke/MethodHandle" ∧ MethodName.cls y_Col_setConjugate ≠ "java/lang/invoke/VarHandle" ∧ (parseMethodDescriptor (MethodName.desc y_Col_setConjugate)).map (fun d => d.parameters.length) = some 3) := ⟨wi_216, wi_217, wi_218, wi_33, wi_219, by decide +kernel⟩
theorem cs_Law_45 : Cond.methodLink R_Law 45 y_Top_fix ∈ WALL ∧ Cond.instanceMethod y_Top_fix ∈ WALL ∧ Cond.selects R_Top y_Top_fix y_Top_fix ∈ WALL ∧ Cond.initialized (MethodName.cls y_Top_fix) ∈ WALL ∧ Cond.code y_Top_fix b_Top_fix 2 (some .boolean) ∈ WALL ∧ (MethodName.cls y_Top_fix ≠ "java/lang/invoke/MethodHandle" ∧ MethodName.cls y_Top_fix ≠ "java/lang/invoke/VarHandle" ∧ (parseMethodDescriptor (MethodName.desc y_Top_fix)).map (fun d => d.parameters.length) = some 0) := ⟨wi_220, wi_221, wi_222, wi_32, wi_223, by decide +kernel⟩
theorem cs_Top_81 : Cond.methodLink R_Top 81 y_Col_build ∈ WALL ∧ Cond.instanceMethod y_Col_build ∈ WALL ∧ Cond.selects R_Col y_Col_build y_Col_build ∈ WALL ∧ Cond.initialized (MethodName.cls y_Col_build) ∈ WALL ∧ Cond.code y_Col_build b_Col_build 2 (some .boolean) ∈ WALL ∧ (MethodName.cls y_Col_build ≠ "java/lang/invoke/MethodHandle" ∧ MethodName.cls y_Col_build ≠ "java/lang/invoke/VarHandle" ∧ (parseMethodDescriptor (MethodName.desc y_Col_build)).map (fun d => d.parameters.length) = some 0) := ⟨wi_224, wi_225, wi_226, wi_33, wi_227, by decide +kernel⟩
theorem cs_Col_42 : Cond.methodLink R_Col 42 y_Col_fillMoves ∈ WALL ∧ Cond.instanceMethod y_Col_fillMoves ∈ WALL ∧ Cond.selects R_Col y_Col_fillMoves y_Col_fillMoves ∈ WALL ∧ Cond.initialized (MethodName.cls y_Col_fillMoves) ∈ WALL ∧ Cond.code y_Col_fillMoves b_Col_fillMoves 5 none ∈ WALL ∧ (MethodName.cls y_Col_fillMoves ≠ "java/lang/invoke/MethodHandle" ∧ MethodName.cls y_Col_fillMoves ≠ "java/lang/invoke/VarHandle" ∧ (parseMethodDescriptor (MethodName.desc y_Col_fillMoves)).map (fun d => d.parameters.length) = some 1) := ⟨wi_228, wi_230, wi_0, wi_33, wi_231, by decide +kernel⟩
theorem cs_Col_73 : Cond.methodLink R_Col 73 y_Col_movedOnce ∈ WALL ∧ Cond.instanceMethod y_Col_movedOnce ∈ WALL ∧ Cond.selects R_Col y_Col_movedOnce y_Col_movedOnce ∈ WALL ∧ Cond.initialized (MethodName.cls y_Col_movedOnce) ∈ WALL ∧ Cond.code y_Col_movedOnce b_Col_movedOnce 6 (some .int) ∈ WALL ∧ (MethodName.cls y_Col_movedOnce ≠ "java/lang/invoke/MethodHandle" ∧ MethodName.cls y_Col_movedOnce ≠ "java/lang/invoke/VarHandle" ∧ (parseMethodDescriptor (MethodName.desc y_Col_movedOnce)).map (fun d => d.parameters.length) = some 2) := ⟨wi_232, wi_234, wi_1, wi_33, wi_235, by decide +kernel⟩
theorem cs_Col_58 : Cond.methodLink R_Col 58 y_Col_multiplyFrom ∈ WALL ∧ Cond.instanceMethod y_Col_multiplyFrom ∈ WALL ∧ Cond.selects R_Col y_Col_multiplyFrom y_Col_multiplyFrom ∈ WALL ∧ Cond.initialized (MethodName.cls y_Col_multiplyFrom) ∈ WALL ∧ Cond.code y_Col_multiplyFrom b_Col_multiplyFrom 12 (some .int) ∈ WALL ∧ (MethodName.cls y_Col_multiplyFrom ≠ "java/lang/invoke/MethodHandle" ∧ MethodName.cls y_Col_multiplyFrom ≠ "java/lang/invoke/VarHandle" ∧ (parseMethodDescriptor (MethodName.desc y_Col_multiplyFrom)).map (fun d => d.parameters.length) = some 3) := ⟨wi_236, wi_238, wi_2, wi_33, wi_239, by decide +kernel⟩
theorem cs_Col_46 : Cond.methodLink R_Col 46 y_Col_fillCarries ∈ WALL ∧ Cond.instanceMethod y_Col_fillCarries ∈ WALL ∧ Cond.selects R_Col y_Col_fillCarries y_Col_fillCarries ∈ WALL ∧ Cond.initialized (MethodName.cls y_Col_fillCarries) ∈ WALL ∧ Cond.code y_Col_fillCarries b_Col_fillCarries 4 none ∈ WALL ∧ (MethodName.cls y_Col_fillCarries ≠ "java/lang/invoke/MethodHandle" ∧ MethodName.cls y_Col_fillCarries ≠ "java/lang/invoke/VarHandle" ∧ (parseMethodDescriptor (MethodName.desc y_Col_fillCarries)).map (fun d => d.parameters.length) = some 1) := ⟨wi_240, wi_242, wi_3, wi_33, wi_243, by decide +kernel⟩
theorem cs_Col_49 : Cond.methodLink R_Col 49 y_Col_moveKeepsProducts ∈ WALL ∧ Cond.instanceMethod y_Col_moveKeepsProducts ∈ WALL ∧ Cond.selects R_Col y_Col_moveKeepsProducts y_Col_moveKeepsProducts ∈ WALL ∧ Cond.initialized (MethodName.cls y_Col_moveKeepsProducts) ∈ WALL ∧ Cond.code y_Col_moveKeepsProducts b_Col_moveKeepsProducts 8 (some .boolean) ∈ WALL ∧ (MethodName.cls y_Col_moveKeepsProducts ≠ "java/lang/invoke/MethodHandle" ∧ MethodName.cls y_Col_moveKeepsProducts ≠ "java/lang/invoke/VarHandle" ∧ (parseMethodDescriptor (MethodName.desc y_Col_moveKeepsProducts)).map (fun d => d.parameters.length) = some 1) := ⟨wi_244, wi_246, wi_4, wi_33, wi_247, by decide +kernel⟩
theorem cs_Col_52 : Cond.methodLink R_Col 52 y_Col_moveKeepsPower ∈ WALL ∧ Cond.instanceMethod y_Col_moveKeepsPower ∈ WALL ∧ Cond.selects R_Col y_Col_moveKeepsPower y_Col_moveKeepsPower ∈ WALL ∧ Cond.initialized (MethodName.cls y_Col_moveKeepsPower) ∈ WALL ∧ Cond.code y_Col_moveKeepsPower b_Col_moveKeepsPower 2 (some .boolean) ∈ WALL ∧ (MethodName.cls y_Col_moveKeepsPower ≠ "java/lang/invoke/MethodHandle" ∧ MethodName.cls y_Col_moveKeepsPower ≠ "java/lang/invoke/VarHandle" ∧ (parseMethodDescriptor (MethodName.desc y_Col_moveKeepsPower)).map (fun d => d.parameters.length) = some 1) := ⟨wi_248, wi_250, wi_5, wi_33, wi_251, by decide +kernel⟩
theorem cs_Col_55 : Cond.methodLink R_Col 55 y_Col_fullTurnIsPower ∈ WALL ∧ Cond.instanceMethod y_Col_fullTurnIsPower ∈ WALL ∧ Cond.selects R_Col y_Col_fullTurnIsPower y_Col_fullTurnIsPower ∈ WALL ∧ Cond.initialized (MethodName.cls y_Col_fullTurnIsPower) ∈ WALL ∧ Cond.code y_Col_fullTurnIsPower b_Col_fullTurnIsPower 7 (some .boolean) ∈ WALL ∧ (MethodName.cls y_Col_fullTurnIsPower ≠ "java/lang/invoke/MethodHandle" ∧ MethodName.cls y_Col_fullTurnIsPower ≠ "java/lang/invoke/VarHandle" ∧ (parseMethodDescriptor (MethodName.desc y_Col_fullTurnIsPower)).map (fun d => d.parameters.length) = some 1) := ⟨wi_252, wi_254, wi_6, wi_33, wi_255, by decide +kernel⟩
theorem cs_Top_85 : Cond.methodLink R_Top 85 y_Sub_reset ∈ WALL ∧ Cond.instanceMethod y_Sub_reset ∈ WALL ∧ Cond.selects R_Sub y_Sub_reset y_Sub_reset ∈ WALL ∧ Cond.initialized (MethodName.cls y_Sub_reset) ∈ WALL ∧ Cond.code y_Sub_reset b_Sub_reset 1 none ∈ WALL ∧ (MethodName.cls y_Sub_reset ≠ "java/lang/invoke/MethodHandle" ∧ MethodName.cls y_Sub_reset ≠ "java/lang/invoke/VarHandle" ∧ (parseMethodDescriptor (MethodName.desc y_Sub_reset)).map (fun d => d.parameters.length) = some 0) := ⟨wi_256, wi_257, wi_258, wi_37, wi_259, by decide +kernel⟩
theorem cs_Sub_48 : Cond.methodLink R_Sub 48 y_Set_empty ∈ WALL ∧ Cond.instanceMethod y_Set_empty ∈ WALL ∧ Cond.selects R_Set y_Set_empty y_Set_empty ∈ WALL ∧ Cond.initialized (MethodName.cls y_Set_empty) ∈ WALL ∧ Cond.code y_Set_empty b_Set_empty 2 none ∈ WALL ∧ (MethodName.cls y_Set_empty ≠ "java/lang/invoke/MethodHandle" ∧ MethodName.cls y_Set_empty ≠ "java/lang/invoke/VarHandle" ∧ (parseMethodDescriptor (MethodName.desc y_Set_empty)).map (fun d => d.parameters.length) = some 0) := ⟨wi_260, wi_261, wi_262, wi_38, wi_263, by decide +kernel⟩
theorem cs_Top_88 : Cond.methodLink R_Top 88 y_Top_fillWhole ∈ WALL ∧ Cond.instanceMethod y_Top_fillWhole ∈ WALL ∧ Cond.selects R_Top y_Top_fillWhole y_Top_fillWhole ∈ WALL ∧ Cond.initialized (MethodName.cls y_Top_fillWhole) ∈ WALL ∧ Cond.code y_Top_fillWhole b_Top_fillWhole 2 none ∈ WALL ∧ (MethodName.cls y_Top_fillWhole ≠ "java/lang/invoke/MethodHandle" ∧ MethodName.cls y_Top_fillWhole ≠ "java/lang/invoke/VarHandle" ∧ (parseMethodDescriptor (MethodName.desc y_Top_fillWhole)).map (fun d => d.parameters.length) = some 0) := ⟨wi_264, wi_266, wi_7, wi_32, wi_267, by decide +kernel⟩
theorem cs_Top_121 : Cond.methodLink R_Top 121 y_Sub_include ∈ WALL ∧ Cond.instanceMethod y_Sub_include ∈ WALL ∧ Cond.selects R_Sub y_Sub_include y_Sub_include ∈ WALL ∧ Cond.initialized (MethodName.cls y_Sub_include) ∈ WALL ∧ Cond.code y_Sub_include b_Sub_include 4 none ∈ WALL ∧ (MethodName.cls y_Sub_include ≠ "java/lang/invoke/MethodHandle" ∧ MethodName.cls y_Sub_include ≠ "java/lang/invoke/VarHandle" ∧ (parseMethodDescriptor (MethodName.desc y_Sub_include)).map (fun d => d.parameters.length) = some 1) := ⟨wi_268, wi_269, wi_270, wi_37, wi_271, by decide +kernel⟩
theorem cs_Sub_44 : Cond.methodLink R_Sub 44 y_Set_holds ∈ WALL ∧ Cond.instanceMethod y_Set_holds ∈ WALL ∧ Cond.selects R_Set y_Set_holds y_Set_holds ∈ WALL ∧ Cond.initialized (MethodName.cls y_Set_holds) ∈ WALL ∧ Cond.code y_Set_holds b_Set_holds 2 (some .boolean) ∈ WALL ∧ (MethodName.cls y_Set_holds ≠ "java/lang/invoke/MethodHandle" ∧ MethodName.cls y_Set_holds ≠ "java/lang/invoke/VarHandle" ∧ (parseMethodDescriptor (MethodName.desc y_Set_holds)).map (fun d => d.parameters.length) = some 1) := ⟨wi_272, wi_273, wi_274, wi_38, wi_275, by decide +kernel⟩
theorem cs_Sub_41 : Cond.methodLink R_Sub 41 y_Set_amount ∈ WALL ∧ Cond.instanceMethod y_Set_amount ∈ WALL ∧ Cond.selects R_Set y_Set_amount y_Set_amount ∈ WALL ∧ Cond.initialized (MethodName.cls y_Set_amount) ∈ WALL ∧ Cond.code y_Set_amount b_Set_amount 1 (some .int) ∈ WALL ∧ (MethodName.cls y_Set_amount ≠ "java/lang/invoke/MethodHandle" ∧ MethodName.cls y_Set_amount ≠ "java/lang/invoke/VarHandle" ∧ (parseMethodDescriptor (MethodName.desc y_Set_amount)).map (fun d => d.parameters.length) = some 0) := ⟨wi_276, wi_277, wi_278, wi_38, wi_279, by decide +kernel⟩
theorem cs_Sub_51 : Cond.methodLink R_Sub 51 y_Set_member ∈ WALL ∧ Cond.instanceMethod y_Set_member ∈ WALL ∧ Cond.selects R_Set y_Set_member y_Set_member ∈ WALL ∧ Cond.initialized (MethodName.cls y_Set_member) ∈ WALL ∧ Cond.code y_Set_member b_Set_member 2 (some .int) ∈ WALL ∧ (MethodName.cls y_Set_member ≠ "java/lang/invoke/MethodHandle" ∧ MethodName.cls y_Set_member ≠ "java/lang/invoke/VarHandle" ∧ (parseMethodDescriptor (MethodName.desc y_Set_member)).map (fun d => d.parameters.length) = some 1) := ⟨wi_280, wi_281, wi_282, wi_38, wi_283, by decide +kernel⟩
theorem cs_Sub_55 : Cond.methodLink R_Sub 55 y_Col_multiply ∈ WALL ∧ Cond.instanceMethod y_Col_multiply ∈ WALL ∧ Cond.selects R_Col y_Col_multiply y_Col_multiply ∈ WALL ∧ Cond.initialized (MethodName.cls y_Col_multiply) ∈ WALL ∧ Cond.code y_Col_multiply b_Col_multiply 3 (some .int) ∈ WALL ∧ (MethodName.cls y_Col_multiply ≠ "java/lang/invoke/MethodHandle" ∧ MethodName.cls y_Col_multiply ≠ "java/lang/invoke/VarHandle" ∧ (parseMethodDescriptor (MethodName.desc y_Col_multiply)).map (fun d => d.parameters.length) = some 2) := ⟨wi_284, wi_285, wi_286, wi_33, wi_287, by decide +kernel⟩
theorem cs_Law_50 : Cond.methodLink R_Law 50 y_Top_release ∈ WALL ∧ Cond.instanceMethod y_Top_release ∈ WALL ∧ Cond.selects R_Top y_Top_release y_Top_release ∈ WALL ∧ Cond.initialized (MethodName.cls y_Top_release) ∈ WALL ∧ Cond.code y_Top_release b_Top_release 1 none ∈ WALL ∧ (MethodName.cls y_Top_release ≠ "java/lang/invoke/MethodHandle" ∧ MethodName.cls y_Top_release ≠ "java/lang/invoke/VarHandle" ∧ (parseMethodDescriptor (MethodName.desc y_Top_release)).map (fun d => d.parameters.length) = some 0) := ⟨wi_288, wi_289, wi_290, wi_32, wi_291, by decide +kernel⟩
theorem cs_Law_54 : Cond.methodLink R_Law 54 y_Top_fixed ∈ WALL ∧ Cond.instanceMethod y_Top_fixed ∈ WALL ∧ Cond.selects R_Top y_Top_fixed y_Top_fixed ∈ WALL ∧ Cond.initialized (MethodName.cls y_Top_fixed) ∈ WALL ∧ Cond.code y_Top_fixed b_Top_fixed 1 (some .boolean) ∈ WALL ∧ (MethodName.cls y_Top_fixed ≠ "java/lang/invoke/MethodHandle" ∧ MethodName.cls y_Top_fixed ≠ "java/lang/invoke/VarHandle" ∧ (parseMethodDescriptor (MethodName.desc y_Top_fixed)).map (fun d => d.parameters.length) = some 0) := ⟨wi_292, wi_293, wi_294, wi_32, wi_295, by decide +kernel⟩
theorem cs_Law_58 : Cond.methodLink R_Law 58 y_Top_product ∈ WALL ∧ Cond.instanceMethod y_Top_product ∈ WALL ∧ Cond.selects R_Top y_Top_product y_Top_product ∈ WALL ∧ Cond.initialized (MethodName.cls y_Top_product) ∈ WALL ∧ Cond.code y_Top_product b_Top_product 3 (some .int) ∈ WALL ∧ (MethodName.cls y_Top_product ≠ "java/lang/invoke/MethodHandle" ∧ MethodName.cls y_Top_product ≠ "java/lang/invoke/VarHandle" ∧ (parseMethodDescriptor (MethodName.desc y_Top_product)).map (fun d => d.parameters.length) = some 2) := ⟨wi_296, wi_297, wi_298, wi_32, wi_299, by decide +kernel⟩
theorem cs_Top_91 : Cond.methodLink R_Top 91 y_Top_isElement ∈ WALL ∧ Cond.instanceMethod y_Top_isElement ∈ WALL ∧ Cond.selects R_Top y_Top_isElement y_Top_isElement ∈ WALL ∧ Cond.initialized (MethodName.cls y_Top_isElement) ∈ WALL ∧ Cond.code y_Top_isElement b_Top_isElement 2 (some .boolean) ∈ WALL ∧ (MethodName.cls y_Top_isElement ≠ "java/lang/invoke/MethodHandle" ∧ MethodName.cls y_Top_isElement ≠ "java/lang/invoke/VarHandle" ∧ (parseMethodDescriptor (MethodName.desc y_Top_isElement)).map (fun d => d.parameters.length) = some 1) := ⟨wi_300, wi_302, wi_8, wi_32, wi_303, by decide +kernel⟩
theorem cs_Top_94 : Cond.methodLink R_Top 94 y_Col_multiply ∈ WALL ∧ Cond.instanceMethod y_Col_multiply ∈ WALL ∧ Cond.selects R_Col y_Col_multiply y_Col_multiply ∈ WALL ∧ Cond.initialized (MethodName.cls y_Col_multiply) ∈ WALL ∧ Cond.code y_Col_multiply b_Col_multiply 3 (some .int) ∈ WALL ∧ (MethodName.cls y_Col_multiply ≠ "java/lang/invoke/MethodHandle" ∧ MethodName.cls y_Col_multiply ≠ "java/lang/invoke/VarHandle" ∧ (parseMethodDescriptor (MethodName.desc y_Col_multiply)).map (fun d => d.parameters.length) = some 2) := ⟨wi_304, wi_285, wi_286, wi_33, wi_287, by decide +kernel⟩
theorem cs_Law_63 : Cond.methodLink R_Law 63 y_Top_times ∈ WALL ∧ Cond.instanceMethod y_Top_times ∈ WALL ∧ Cond.selects R_Top y_Top_times y_Top_times ∈ WALL ∧ Cond.initialized (MethodName.cls y_Top_times) ∈ WALL ∧ Cond.code y_Top_times b_Top_times 3 (some .int) ∈ WALL ∧ (MethodName.cls y_Top_times ≠ "java/lang/invoke/MethodHandle" ∧ MethodName.cls y_Top_times ≠ "java/lang/invoke/VarHandle" ∧ (parseMethodDescriptor (MethodName.desc y_Top_times)).map (fun d => d.parameters.length) = some 2) := ⟨wi_305, wi_306, wi_307, wi_32, wi_308, by decide +kernel⟩
theorem cs_Top_98 : Cond.methodLink R_Top 98 y_Col_orderOf ∈ WALL ∧ Cond.instanceMethod y_Col_orderOf ∈ WALL ∧ Cond.selects R_Col y_Col_orderOf y_Col_orderOf ∈ WALL ∧ Cond.initialized (MethodName.cls y_Col_orderOf) ∈ WALL ∧ Cond.code y_Col_orderOf b_Col_orderOf 4 (some .int) ∈ WALL ∧ (MethodName.cls y_Col_orderOf ≠ "java/lang/invoke/MethodHandle" ∧ MethodName.cls y_Col_orderOf ≠ "java/lang/invoke/VarHandle" ∧ (parseMethodDescriptor (MethodName.desc y_Col_orderOf)).map (fun d => d.parameters.length) = some 1) := ⟨wi_309, wi_310, wi_311, wi_33, wi_312, by decide +kernel⟩
theorem cs_Col_66 : Cond.methodLink R_Col 66 y_Col_multiply ∈ WALL ∧ Cond.instanceMethod y_Col_multiply ∈ WALL ∧ Cond.selects R_Col y_Col_multiply y_Col_multiply ∈ WALL ∧ Cond.initialized (MethodName.cls y_Col_multiply) ∈ WALL ∧ Cond.code y_Col_multiply b_Col_multiply 3 (some .int) ∈ WALL ∧ (MethodName.cls y_Col_multiply ≠ "java/lang/invoke/MethodHandle" ∧ MethodName.cls y_Col_multiply ≠ "java/lang/invoke/VarHandle" ∧ (parseMethodDescriptor (MethodName.desc y_Col_multiply)).map (fun d => d.parameters.length) = some 2) := ⟨wi_313, wi_285, wi_286, wi_33, wi_287, by decide +kernel⟩
theorem cs_Top_106 : Cond.methodLink R_Top 106 y_Col_multiple ∈ WALL ∧ Cond.instanceMethod y_Col_multiple ∈ WALL ∧ Cond.selects R_Col y_Col_multiple y_Col_multiple ∈ WALL ∧ Cond.initialized (MethodName.cls y_Col_multiple) ∈ WALL ∧ Cond.code y_Col_multiple b_Col_multiple 5 (some .int) ∈ WALL ∧ (MethodName.cls y_Col_multiple ≠ "java/lang/invoke/MethodHandle" ∧ MethodName.cls y_Col_multiple ≠ "java/lang/invoke/VarHandle" ∧ (parseMethodDescriptor (MethodName.desc y_Col_multiple)).map (fun d => d.parameters.length) = some 2) := ⟨wi_317, wi_318, wi_319, wi_33, wi_320, by decide +kernel⟩
theorem cs_Law_67 : Cond.methodLink R_Law 67 y_Top_conjugated ∈ WALL ∧ Cond.instanceMethod y_Top_conjugated ∈ WALL ∧ Cond.selects R_Top y_Top_conjugated y_Top_conjugated ∈ WALL ∧ Cond.initialized (MethodName.cls y_Top_conjugated) ∈ WALL ∧ Cond.code y_Top_conjugated b_Top_conjugated 3 (some .int) ∈ WALL ∧ (MethodName.cls y_Top_conjugated ≠ "java/lang/invoke/MethodHandle" ∧ MethodName.cls y_Top_conjugated ≠ "java/lang/invoke/VarHandle" ∧ (parseMethodDescriptor (MethodName.desc y_Top_conjugated)).map (fun d => d.parameters.length) = some 2) := ⟨wi_321, wi_322, wi_323, wi_32, wi_324, by decide +kernel⟩
theorem cs_Top_109 : Cond.methodLink R_Top 109 y_Col_conjugateOf ∈ WALL ∧ Cond.instanceMethod y_Col_conjugateOf ∈ WALL ∧ Cond.selects R_Col y_Col_conjugateOf y_Col_conjugateOf ∈ WALL ∧ Cond.initialized (MethodName.cls y_Col_conjugateOf) ∈ WALL ∧ Cond.code y_Col_conjugateOf b_Col_conjugateOf 3 (some .int) ∈ WALL ∧ (MethodName.cls y_Col_conjugateOf ≠ "java/lang/invoke/MethodHandle" ∧ MethodName.cls y_Col_conjugateOf ≠ "java/lang/invoke/VarHandle" ∧ (parseMethodDescriptor (MethodName.desc y_Col_conjugateOf)).map (fun d => d.parameters.length) = some 2) := ⟨wi_325, wi_326, wi_327, wi_33, wi_328, by decide +kernel⟩
theorem cs_Col_62 : Cond.methodLink R_Col 62 y_Col_inverseOf ∈ WALL ∧ Cond.instanceMethod y_Col_inverseOf ∈ WALL ∧ Cond.selects R_Col y_Col_inverseOf y_Col_inverseOf ∈ WALL ∧ Cond.initialized (MethodName.cls y_Col_inverseOf) ∈ WALL ∧ Cond.code y_Col_inverseOf b_Col_inverseOf 8 (some .int) ∈ WALL ∧ (MethodName.cls y_Col_inverseOf ≠ "java/lang/invoke/MethodHandle" ∧ MethodName.cls y_Col_inverseOf ≠ "java/lang/invoke/VarHandle" ∧ (parseMethodDescriptor (MethodName.desc y_Col_inverseOf)).map (fun d => d.parameters.length) = some 1) := ⟨wi_329, wi_330, wi_331, wi_33, wi_332, by decide +kernel⟩
theorem cs_Law_71 : Cond.methodLink R_Law 71 y_Top_commutator ∈ WALL ∧ Cond.instanceMethod y_Top_commutator ∈ WALL ∧ Cond.selects R_Top y_Top_commutator y_Top_commutator ∈ WALL ∧ Cond.initialized (MethodName.cls y_Top_commutator) ∈ WALL ∧ Cond.code y_Top_commutator b_Top_commutator 3 (some .int) ∈ WALL ∧ (MethodName.cls y_Top_commutator ≠ "java/lang/invoke/MethodHandle" ∧ MethodName.cls y_Top_commutator ≠ "java/lang/invoke/VarHandle" ∧ (parseMethodDescriptor (MethodName.desc y_Top_commutator)).map (fun d => d.parameters.length) = some 2) := ⟨wi_333, wi_334, wi_335, wi_32, wi_336, by decide +kernel⟩
theorem cs_Top_112 : Cond.methodLink R_Top 112 y_Col_commutatorOf ∈ WALL ∧ Cond.instanceMethod y_Col_commutatorOf ∈ WALL ∧ Cond.selects R_Col y_Col_commutatorOf y_Col_commutatorOf ∈ WALL ∧ Cond.initialized (MethodName.cls y_Col_commutatorOf) ∈ WALL ∧ Cond.code y_Col_commutatorOf b_Col_commutatorOf 3 (some .int) ∈ WALL ∧ (MethodName.cls y_Col_commutatorOf ≠ "java/lang/invoke/MethodHandle" ∧ MethodName.cls y_Col_commutatorOf ≠ "java/lang/invoke/VarHandle" ∧ (parseMethodDescriptor (MethodName.desc y_Col_commutatorOf)).map (fun d => d.parameters.length) = some 2) := ⟨wi_337, wi_338, wi_339, wi_33, wi_340, by decide +kernel⟩
theorem cs_Col_70 : Cond.methodLink R_Col 70 y_Col_conjugateOf ∈ WALL ∧ Cond.instanceMethod y_Col_conjugateOf ∈ WALL ∧ Cond.selects R_Col y_Col_conjugateOf y_Col_conjugateOf ∈ WALL ∧ Cond.initialized (MethodName.cls y_Col_conjugateOf) ∈ WALL ∧ Cond.code y_Col_conjugateOf b_Col_conjugateOf 3 (some .int) ∈ WALL ∧ (MethodName.cls y_Col_conjugateOf ≠ "java/lang/invoke/MethodHandle" ∧ MethodName.cls y_Col_conjugateOf ≠ "java/lang/invoke/VarHandle" ∧ (parseMethodDescriptor (MethodName.desc y_Col_conjugateOf)).map (fun d => d.parameters.length) = some 2) := ⟨wi_341, wi_326, wi_327, wi_33, wi_328, by decide +kernel⟩
theorem cs_Law_75 : Cond.methodLink R_Law 75 y_Top_order ∈ WALL ∧ Cond.instanceMethod y_Top_order ∈ WALL ∧ Cond.selects R_Top y_Top_order y_Top_order ∈ WALL ∧ Cond.initialized (MethodName.cls y_Top_order) ∈ WALL ∧ Cond.code y_Top_order b_Top_order 2 (some .int) ∈ WALL ∧ (MethodName.cls y_Top_order ≠ "java/lang/invoke/MethodHandle" ∧ MethodName.cls y_Top_order ≠ "java/lang/invoke/VarHandle" ∧ (parseMethodDescriptor (MethodName.desc y_Top_order)).map (fun d => d.parameters.length) = some 1) := ⟨wi_342, wi_343, wi_344, wi_32, wi_345, by decide +kernel⟩
theorem cs_Law_79 : Cond.methodLink R_Law 79 y_Top_clear ∈ WALL ∧ Cond.instanceMethod y_Top_clear ∈ WALL ∧ Cond.selects R_Top y_Top_clear y_Top_clear ∈ WALL ∧ Cond.initialized (MethodName.cls y_Top_clear) ∈ WALL ∧ Cond.code y_Top_clear b_Top_clear 2 (some .int) ∈ WALL ∧ (MethodName.cls y_Top_clear ≠ "java/lang/invoke/MethodHandle" ∧ MethodName.cls y_Top_clear ≠ "java/lang/invoke/VarHandle" ∧ (parseMethodDescriptor (MethodName.desc y_Top_clear)).map (fun d => d.parameters.length) = some 1) := ⟨wi_346, wi_347, wi_348, wi_32, wi_349, by decide +kernel⟩
theorem cs_Top_115 : Cond.methodLink R_Top 115 y_Top_isPlace ∈ WALL ∧ Cond.instanceMethod y_Top_isPlace ∈ WALL ∧ Cond.selects R_Top y_Top_isPlace y_Top_isPlace ∈ WALL ∧ Cond.initialized (MethodName.cls y_Top_isPlace) ∈ WALL ∧ Cond.code y_Top_isPlace b_Top_isPlace 2 (some .boolean) ∈ WALL ∧ (MethodName.cls y_Top_isPlace ≠ "java/lang/invoke/MethodHandle" ∧ MethodName.cls y_Top_isPlace ≠ "java/lang/invoke/VarHandle" ∧ (parseMethodDescriptor (MethodName.desc y_Top_isPlace)).map (fun d => d.parameters.length) = some 1) := ⟨wi_350, wi_352, wi_9, wi_32, wi_353, by decide +kernel⟩
theorem cs_Top_118 : Cond.methodLink R_Top 118 y_Sub_amount ∈ WALL ∧ Cond.instanceMethod y_Sub_amount ∈ WALL ∧ Cond.selects R_Sub y_Sub_amount y_Sub_amount ∈ WALL ∧ Cond.initialized (MethodName.cls y_Sub_amount) ∈ WALL ∧ Cond.code y_Sub_amount b_Sub_amount 1 (some .int) ∈ WALL ∧ (MethodName.cls y_Sub_amount ≠ "java/lang/invoke/MethodHandle" ∧ MethodName.cls y_Sub_amount ≠ "java/lang/invoke/VarHandle" ∧ (parseMethodDescriptor (MethodName.desc y_Sub_amount)).map (fun d => d.parameters.length) = some 0) := ⟨wi_354, wi_355, wi_356, wi_37, wi_357, by decide +kernel⟩
theorem cs_Law_83 : Cond.methodLink R_Law 83 y_Top_join ∈ WALL ∧ Cond.instanceMethod y_Top_join ∈ WALL ∧ Cond.selects R_Top y_Top_join y_Top_join ∈ WALL ∧ Cond.initialized (MethodName.cls y_Top_join) ∈ WALL ∧ Cond.code y_Top_join b_Top_join 3 (some .int) ∈ WALL ∧ (MethodName.cls y_Top_join ≠ "java/lang/invoke/MethodHandle" ∧ MethodName.cls y_Top_join ≠ "java/lang/invoke/VarHandle" ∧ (parseMethodDescriptor (MethodName.desc y_Top_join)).map (fun d => d.parameters.length) = some 2) := ⟨wi_358, wi_359, wi_360, wi_32, wi_361, by decide +kernel⟩
theorem cs_Law_87 : Cond.methodLink R_Law 87 y_Top_spread ∈ WALL ∧ Cond.instanceMethod y_Top_spread ∈ WALL ∧ Cond.selects R_Top y_Top_spread y_Top_spread ∈ WALL ∧ Cond.initialized (MethodName.cls y_Top_spread) ∈ WALL ∧ Cond.code y_Top_spread b_Top_spread 2 (some .int) ∈ WALL ∧ (MethodName.cls y_Top_spread ≠ "java/lang/invoke/MethodHandle" ∧ MethodName.cls y_Top_spread ≠ "java/lang/invoke/VarHandle" ∧ (parseMethodDescriptor (MethodName.desc y_Top_spread)).map (fun d => d.parameters.length) = some 1) := ⟨wi_362, wi_363, wi_364, wi_32, wi_365, by decide +kernel⟩
theorem cs_Top_124 : Cond.methodLink R_Top 124 y_Sub_includeAllConjugates ∈ WALL ∧ Cond.instanceMethod y_Sub_includeAllConjugates ∈ WALL ∧ Cond.selects R_Sub y_Sub_includeAllConjugates y_Sub_includeAllConjugates ∈ WALL ∧ Cond.initialized (MethodName.cls y_Sub_includeAllConjugates) ∈ WALL ∧ Cond.code y_Sub_includeAllConjugates b_Sub_includeAllConjugates 3 none ∈ WALL ∧ (MethodName.cls y_Sub_includeAllConjugates ≠ "java/lang/invoke/MethodHandle" ∧ MethodName.cls y_Sub_includeAllConjugates ≠ "java/lang/invoke/VarHandle" ∧ (parseMethodDescriptor (MethodName.desc y_Sub_includeAllConjugates)).map (fun d => d.parameters.length) = some 1) := ⟨wi_366, wi_367, wi_368, wi_37, wi_369, by decide +kernel⟩
theorem cs_Sub_59 : Cond.methodLink R_Sub 59 y_Sub_includeConjugates ∈ WALL ∧ Cond.instanceMethod y_Sub_includeConjugates ∈ WALL ∧ Cond.selects R_Sub y_Sub_includeConjugates y_Sub_includeConjugates ∈ WALL ∧ Cond.initialized (MethodName.cls y_Sub_includeConjugates) ∈ WALL ∧ Cond.code y_Sub_includeConjugates b_Sub_includeConjugates 4 none ∈ WALL ∧ (MethodName.cls y_Sub_includeConjugates ≠ "java/lang/invoke/MethodHandle" ∧ MethodName.cls y_Sub_includeConjugates ≠ "java/lang/invoke/VarHandle" ∧ (parseMethodDescriptor (MethodName.desc y_Sub_includeConjugates)).map (fun d => d.parameters.length) = some 2) := ⟨wi_370, wi_372, wi_10, wi_37, wi_373, by decide +kernel⟩
theorem cs_Sub_78 : Cond.methodLink R_Sub 78 y_Col_conjugateOf ∈ WALL ∧ Cond.instanceMethod y_Col_conjugateOf ∈ WALL ∧ Cond.selects R_Col y_Col_conjugateOf y_Col_conjugateOf ∈ WALL ∧ Cond.initialized (MethodName.cls y_Col_conjugateOf) ∈ WALL ∧ Cond.code y_Col_conjugateOf b_Col_conjugateOf 3 (some .int) ∈ WALL ∧ (MethodName.cls y_Col_conjugateOf ≠ "java/lang/invoke/MethodHandle" ∧ MethodName.cls y_Col_conjugateOf ≠ "java/lang/invoke/VarHandle" ∧ (parseMethodDescriptor (MethodName.desc y_Col_conjugateOf)).map (fun d => d.parameters.length) = some 2) := ⟨wi_374, wi_326, wi_327, wi_33, wi_328, by decide +kernel⟩
theorem cs_Sub_69 : Cond.methodLink R_Sub 69 y_Sub_include ∈ WALL ∧ Cond.instanceMethod y_Sub_include ∈ WALL ∧ Cond.selects R_Sub y_Sub_include y_Sub_include ∈ WALL ∧ Cond.initialized (MethodName.cls y_Sub_include) ∈ WALL ∧ Cond.code y_Sub_include b_Sub_include 4 none ∈ WALL ∧ (MethodName.cls y_Sub_include ≠ "java/lang/invoke/MethodHandle" ∧ MethodName.cls y_Sub_include ≠ "java/lang/invoke/VarHandle" ∧ (parseMethodDescriptor (MethodName.desc y_Sub_include)).map (fun d => d.parameters.length) = some 1) := ⟨wi_375, wi_269, wi_270, wi_37, wi_271, by decide +kernel⟩
theorem cs_Law_91 : Cond.methodLink R_Law 91 y_Top_commute ∈ WALL ∧ Cond.instanceMethod y_Top_commute ∈ WALL ∧ Cond.selects R_Top y_Top_commute y_Top_commute ∈ WALL ∧ Cond.initialized (MethodName.cls y_Top_commute) ∈ WALL ∧ Cond.code y_Top_commute b_Top_commute 4 (some .int) ∈ WALL ∧ (MethodName.cls y_Top_commute ≠ "java/lang/invoke/MethodHandle" ∧ MethodName.cls y_Top_commute ≠ "java/lang/invoke/VarHandle" ∧ (parseMethodDescriptor (MethodName.desc y_Top_commute)).map (fun d => d.parameters.length) = some 3) := ⟨wi_376, wi_377, wi_378, wi_32, wi_379, by decide +kernel⟩
theorem cs_Top_128 : Cond.methodLink R_Top 128 y_Sub_becomeCommutators ∈ WALL ∧ Cond.instanceMethod y_Sub_becomeCommutators ∈ WALL ∧ Cond.selects R_Sub y_Sub_becomeCommutators y_Sub_becomeCommutators ∈ WALL ∧ Cond.initialized (MethodName.cls y_Sub_becomeCommutators) ∈ WALL ∧ Cond.code y_Sub_becomeCommutators b_Sub_becomeCommutators 5 none ∈ WALL ∧ (MethodName.cls y_Sub_becomeCommutators ≠ "java/lang/invoke/MethodHandle" ∧ MethodName.cls y_Sub_becomeCommutators ≠ "java/lang/invoke/VarHandle" ∧ (parseMethodDescriptor (MethodName.desc y_Sub_becomeCommutators)).map (fun d => d.parameters.length) = some 2) := ⟨wi_380, wi_381, wi_382, wi_37, wi_383, by decide +kernel⟩
theorem cs_Sub_63 : Cond.methodLink R_Sub 63 y_Sub_reset ∈ WALL ∧ Cond.instanceMethod y_Sub_reset ∈ WALL ∧ Cond.selects R_Sub y_Sub_reset y_Sub_reset ∈ WALL ∧ Cond.initialized (MethodName.cls y_Sub_reset) ∈ WALL ∧ Cond.code y_Sub_reset b_Sub_reset 1 none ∈ WALL ∧ (MethodName.cls y_Sub_reset ≠ "java/lang/invoke/MethodHandle" ∧ MethodName.cls y_Sub_reset ≠ "java/lang/invoke/VarHandle" ∧ (parseMethodDescriptor (MethodName.desc y_Sub_reset)).map (fun d => d.parameters.length) = some 0) := ⟨wi_384, wi_257, wi_258, wi_37, wi_259, by decide +kernel⟩
theorem cs_Sub_66 : Cond.methodLink R_Sub 66 y_Col_commutatorOf ∈ WALL ∧ Cond.instanceMethod y_Col_commutatorOf ∈ WALL ∧ Cond.selects R_Col y_Col_commutatorOf y_Col_commutatorOf ∈ WALL ∧ Cond.initialized (MethodName.cls y_Col_commutatorOf) ∈ WALL ∧ Cond.code y_Col_commutatorOf b_Col_commutatorOf 3 (some .int) ∈ WALL ∧ (MethodName.cls y_Col_commutatorOf ≠ "java/lang/invoke/MethodHandle" ∧ MethodName.cls y_Col_commutatorOf ≠ "java/lang/invoke/VarHandle" ∧ (parseMethodDescriptor (MethodName.desc y_Col_commutatorOf)).map (fun d => d.parameters.length) = some 2) := ⟨wi_385, wi_338, wi_339, wi_33, wi_340, by decide +kernel⟩
theorem cs_Top_132 : Cond.methodLink R_Top 132 y_Sub_becomeCopy ∈ WALL ∧ Cond.instanceMethod y_Sub_becomeCopy ∈ WALL ∧ Cond.selects R_Sub y_Sub_becomeCopy y_Sub_becomeCopy ∈ WALL ∧ Cond.initialized (MethodName.cls y_Sub_becomeCopy) ∈ WALL ∧ Cond.code y_Sub_becomeCopy b_Sub_becomeCopy 3 none ∈ WALL ∧ (MethodName.cls y_Sub_becomeCopy ≠ "java/lang/invoke/MethodHandle" ∧ MethodName.cls y_Sub_becomeCopy ≠ "java/lang/invoke/VarHandle" ∧ (parseMethodDescriptor (MethodName.desc y_Sub_becomeCopy)).map (fun d => d.parameters.length) = some 1) := ⟨wi_386, wi_387, wi_388, wi_37, wi_389, by decide +kernel⟩
theorem cs_Law_96 : Cond.methodLink R_Law 96 y_Top_count ∈ WALL ∧ Cond.instanceMethod y_Top_count ∈ WALL ∧ Cond.selects R_Top y_Top_count y_Top_count ∈ WALL ∧ Cond.initialized (MethodName.cls y_Top_count) ∈ WALL ∧ Cond.code y_Top_count b_Top_count 2 (some .int) ∈ WALL ∧ (MethodName.cls y_Top_count ≠ "java/lang/invoke/MethodHandle" ∧ MethodName.cls y_Top_count ≠ "java/lang/invoke/VarHandle" ∧ (parseMethodDescriptor (MethodName.desc y_Top_count)).map (fun d => d.parameters.length) = some 1) := ⟨wi_391, wi_392, wi_393, wi_32, wi_394, by decide +kernel⟩
theorem cs_Law_100 : Cond.methodLink R_Law 100 y_Top_has ∈ WALL ∧ Cond.instanceMethod y_Top_has ∈ WALL ∧ Cond.selects R_Top y_Top_has y_Top_has ∈ WALL ∧ Cond.initialized (MethodName.cls y_Top_has) ∈ WALL ∧ Cond.code y_Top_has b_Top_has 3 (some .boolean) ∈ WALL ∧ (MethodName.cls y_Top_has ≠ "java/lang/invoke/MethodHandle" ∧ MethodName.cls y_Top_has ≠ "java/lang/invoke/VarHandle" ∧ (parseMethodDescriptor (MethodName.desc y_Top_has)).map (fun d => d.parameters.length) = some 2) := ⟨wi_395, wi_396, wi_397, wi_32, wi_398, by decide +kernel⟩
theorem cs_Top_135 : Cond.methodLink R_Top 135 y_Sub_holds ∈ WALL ∧ Cond.instanceMethod y_Sub_holds ∈ WALL ∧ Cond.selects R_Sub y_Sub_holds y_Sub_holds ∈ WALL ∧ Cond.initialized (MethodName.cls y_Sub_holds) ∈ WALL ∧ Cond.code y_Sub_holds b_Sub_holds 2 (some .boolean) ∈ WALL ∧ (MethodName.cls y_Sub_holds ≠ "java/lang/invoke/MethodHandle" ∧ MethodName.cls y_Sub_holds ≠ "java/lang/invoke/VarHandle" ∧ (parseMethodDescriptor (MethodName.desc y_Sub_holds)).map (fun d => d.parameters.length) = some 1) := ⟨wi_399, wi_400, wi_401, wi_37, wi_402, by decide +kernel⟩
theorem cs_Law_104 : Cond.methodLink R_Law 104 y_Top_derived ∈ WALL ∧ Cond.instanceMethod y_Top_derived ∈ WALL ∧ Cond.selects R_Top y_Top_derived y_Top_derived ∈ WALL ∧ Cond.initialized (MethodName.cls y_Top_derived) ∈ WALL ∧ Cond.code y_Top_derived b_Top_derived 2 (some .int) ∈ WALL ∧ (MethodName.cls y_Top_derived ≠ "java/lang/invoke/MethodHandle" ∧ MethodName.cls y_Top_derived ≠ "java/lang/invoke/VarHandle" ∧ (parseMethodDescriptor (MethodName.desc y_Top_derived)).map (fun d => d.parameters.length) = some 1) := ⟨wi_403, wi_404, wi_405, wi_32, wi_406, by decide +kernel⟩
theorem cs_Top_138 : Cond.methodLink R_Top 138 y_Top_seriesAmount ∈ WALL ∧ Cond.instanceMethod y_Top_seriesAmount ∈ WALL ∧ Cond.selects R_Top y_Top_seriesAmount y_Top_seriesAmount ∈ WALL ∧ Cond.initialized (MethodName.cls y_Top_seriesAmount) ∈ WALL ∧ Cond.code y_Top_seriesAmount b_Top_seriesAmount 4 (some .int) ∈ WALL ∧ (MethodName.cls y_Top_seriesAmount ≠ "java/lang/invoke/MethodHandle" ∧ MethodName.cls y_Top_seriesAmount ≠ "java/lang/invoke/VarHandle" ∧ (parseMethodDescriptor (MethodName.desc y_Top_seriesAmount)).map (fun d => d.parameters.length) = some 2) := ⟨wi_407, wi_409, wi_11, wi_32, wi_410, by decide +kernel⟩
theorem cs_Law_108 : Cond.methodLink R_Law 108 y_Top_lower ∈ WALL ∧ Cond.instanceMethod y_Top_lower ∈ WALL ∧ Cond.selects R_Top y_Top_lower y_Top_lower ∈ WALL ∧ Cond.initialized (MethodName.cls y_Top_lower) ∈ WALL ∧ Cond.code y_Top_lower b_Top_lower 2 (some .int) ∈ WALL ∧ (MethodName.cls y_Top_lower ≠ "java/lang/invoke/MethodHandle" ∧ MethodName.cls y_Top_lower ≠ "java/lang/invoke/VarHandle" ∧ (parseMethodDescriptor (MethodName.desc y_Top_lower)).map (fun d => d.parameters.length) = some 1) := ⟨wi_411, wi_412, wi_413, wi_32, wi_414, by decide +kernel⟩
theorem cs_Law_112 : Cond.methodLink R_Law 112 y_Top_centre ∈ WALL ∧ Cond.instanceMethod y_Top_centre ∈ WALL ∧ Cond.selects R_Top y_Top_centre y_Top_centre ∈ WALL ∧ Cond.initialized (MethodName.cls y_Top_centre) ∈ WALL ∧ Cond.code y_Top_centre b_Top_centre 3 (some .int) ∈ WALL ∧ (MethodName.cls y_Top_centre ≠ "java/lang/invoke/MethodHandle" ∧ MethodName.cls y_Top_centre ≠ "java/lang/invoke/VarHandle" ∧ (parseMethodDescriptor (MethodName.desc y_Top_centre)).map (fun d => d.parameters.length) = some 0) := ⟨wi_415, wi_416, wi_417, wi_32, wi_418, by decide +kernel⟩
theorem cs_Top_142 : Cond.methodLink R_Top 142 y_Col_isCentral ∈ WALL ∧ Cond.instanceMethod y_Col_isCentral ∈ WALL ∧ Cond.selects R_Col y_Col_isCentral y_Col_isCentral ∈ WALL ∧ Cond.initialized (MethodName.cls y_Col_isCentral) ∈ WALL ∧ Cond.code y_Col_isCentral b_Col_isCentral 3 (some .boolean) ∈ WALL ∧ (MethodName.cls y_Col_isCentral ≠ "java/lang/invoke/MethodHandle" ∧ MethodName.cls y_Col_isCentral ≠ "java/lang/invoke/VarHandle" ∧ (parseMethodDescriptor (MethodName.desc y_Col_isCentral)).map (fun d => d.parameters.length) = some 1) := ⟨wi_419, wi_420, wi_421, wi_33, wi_422, by decide +kernel⟩
theorem cs_Law_116 : Cond.methodLink R_Law 116 y_Top_classes ∈ WALL ∧ Cond.instanceMethod y_Top_classes ∈ WALL ∧ Cond.selects R_Top y_Top_classes y_Top_classes ∈ WALL ∧ Cond.initialized (MethodName.cls y_Top_classes) ∈ WALL ∧ Cond.code y_Top_classes b_Top_classes 3 (some .int) ∈ WALL ∧ (MethodName.cls y_Top_classes ≠ "java/lang/invoke/MethodHandle" ∧ MethodName.cls y_Top_classes ≠ "java/lang/invoke/VarHandle" ∧ (parseMethodDescriptor (MethodName.desc y_Top_classes)).map (fun d => d.parameters.length) = some 0) := ⟨wi_423, wi_424, wi_425, wi_32, wi_426, by decide +kernel⟩
theorem cs_Top_145 : Cond.methodLink R_Top 145 y_Set_empty ∈ WALL ∧ Cond.instanceMethod y_Set_empty ∈ WALL ∧ Cond.selects R_Set y_Set_empty y_Set_empty ∈ WALL ∧ Cond.initialized (MethodName.cls y_Set_empty) ∈ WALL ∧ Cond.code y_Set_empty b_Set_empty 2 none ∈ WALL ∧ (MethodName.cls y_Set_empty ≠ "java/lang/invoke/MethodHandle" ∧ MethodName.cls y_Set_empty ≠ "java/lang/invoke/VarHandle" ∧ (parseMethodDescriptor (MethodName.desc y_Set_empty)).map (fun d => d.parameters.length) = some 0) := ⟨wi_427, wi_261, wi_262, wi_38, wi_263, by decide +kernel⟩
theorem cs_Top_148 : Cond.methodLink R_Top 148 y_Set_holds ∈ WALL ∧ Cond.instanceMethod y_Set_holds ∈ WALL ∧ Cond.selects R_Set y_Set_holds y_Set_holds ∈ WALL ∧ Cond.initialized (MethodName.cls y_Set_holds) ∈ WALL ∧ Cond.code y_Set_holds b_Set_holds 2 (some .boolean) ∈ WALL ∧ (MethodName.cls y_Set_holds ≠ "java/lang/invoke/MethodHandle" ∧ MethodName.cls y_Set_holds ≠ "java/lang/invoke/VarHandle" ∧ (parseMethodDescriptor (MethodName.desc y_Set_holds)).map (fun d => d.parameters.length) = some 1) := ⟨wi_428, wi_273, wi_274, wi_38, wi_275, by decide +kernel⟩
theorem cs_Top_149 : Cond.methodLink R_Top 149 y_Top_addClass ∈ WALL ∧ Cond.instanceMethod y_Top_addClass ∈ WALL ∧ Cond.selects R_Top y_Top_addClass y_Top_addClass ∈ WALL ∧ Cond.initialized (MethodName.cls y_Top_addClass) ∈ WALL ∧ Cond.code y_Top_addClass b_Top_addClass 5 none ∈ WALL ∧ (MethodName.cls y_Top_addClass ≠ "java/lang/invoke/MethodHandle" ∧ MethodName.cls y_Top_addClass ≠ "java/lang/invoke/VarHandle" ∧ (parseMethodDescriptor (MethodName.desc y_Top_addClass)).map (fun d => d.parameters.length) = some 1) := ⟨wi_429, wi_431, wi_12, wi_32, wi_432, by decide +kernel⟩
theorem cs_Top_152 : Cond.methodLink R_Top 152 y_Set_amount ∈ WALL ∧ Cond.instanceMethod y_Set_amount ∈ WALL ∧ Cond.selects R_Set y_Set_amount y_Set_amount ∈ WALL ∧ Cond.initialized (MethodName.cls y_Set_amount) ∈ WALL ∧ Cond.code y_Set_amount b_Set_amount 1 (some .int) ∈ WALL ∧ (MethodName.cls y_Set_amount ≠ "java/lang/invoke/MethodHandle" ∧ MethodName.cls y_Set_amount ≠ "java/lang/invoke/VarHandle" ∧ (parseMethodDescriptor (MethodName.desc y_Set_amount)).map (fun d => d.parameters.length) = some 0) := ⟨wi_433, wi_277, wi_278, wi_38, wi_279, by decide +kernel⟩
theorem cs_Top_156 : Cond.methodLink R_Top 156 y_Set_add ∈ WALL ∧ Cond.instanceMethod y_Set_add ∈ WALL ∧ Cond.selects R_Set y_Set_add y_Set_add ∈ WALL ∧ Cond.initialized (MethodName.cls y_Set_add) ∈ WALL ∧ Cond.code y_Set_add b_Set_add 2 none ∈ WALL ∧ (MethodName.cls y_Set_add ≠ "java/lang/invoke/MethodHandle" ∧ MethodName.cls y_Set_add ≠ "java/lang/invoke/VarHandle" ∧ (parseMethodDescriptor (MethodName.desc y_Set_add)).map (fun d => d.parameters.length) = some 1) := ⟨wi_434, wi_134, wi_135, wi_38, wi_136, by decide +kernel⟩
theorem cs_Top_159 : Cond.methodLink R_Top 159 y_Set_member ∈ WALL ∧ Cond.instanceMethod y_Set_member ∈ WALL ∧ Cond.selects R_Set y_Set_member y_Set_member ∈ WALL ∧ Cond.initialized (MethodName.cls y_Set_member) ∈ WALL ∧ Cond.code y_Set_member b_Set_member 2 (some .int) ∈ WALL ∧ (MethodName.cls y_Set_member ≠ "java/lang/invoke/MethodHandle" ∧ MethodName.cls y_Set_member ≠ "java/lang/invoke/VarHandle" ∧ (parseMethodDescriptor (MethodName.desc y_Set_member)).map (fun d => d.parameters.length) = some 1) := ⟨wi_435, wi_281, wi_282, wi_38, wi_283, by decide +kernel⟩
theorem cs_Law_120 : Cond.methodLink R_Law 120 y_Top_kin ∈ WALL ∧ Cond.instanceMethod y_Top_kin ∈ WALL ∧ Cond.selects R_Top y_Top_kin y_Top_kin ∈ WALL ∧ Cond.initialized (MethodName.cls y_Top_kin) ∈ WALL ∧ Cond.code y_Top_kin b_Top_kin 2 (some .int) ∈ WALL ∧ (MethodName.cls y_Top_kin ≠ "java/lang/invoke/MethodHandle" ∧ MethodName.cls y_Top_kin ≠ "java/lang/invoke/VarHandle" ∧ (parseMethodDescriptor (MethodName.desc y_Top_kin)).map (fun d => d.parameters.length) = some 1) := ⟨wi_436, wi_437, wi_438, wi_32, wi_439, by decide +kernel⟩
theorem cs_Law_124 : Cond.methodLink R_Law 124 y_Top_head ∈ WALL ∧ Cond.instanceMethod y_Top_head ∈ WALL ∧ Cond.selects R_Top y_Top_head y_Top_head ∈ WALL ∧ Cond.initialized (MethodName.cls y_Top_head) ∈ WALL ∧ Cond.code y_Top_head b_Top_head 2 (some .int) ∈ WALL ∧ (MethodName.cls y_Top_head ≠ "java/lang/invoke/MethodHandle" ∧ MethodName.cls y_Top_head ≠ "java/lang/invoke/VarHandle" ∧ (parseMethodDescriptor (MethodName.desc y_Top_head)).map (fun d => d.parameters.length) = some 1) := ⟨wi_440, wi_441, wi_442, wi_32, wi_443, by decide +kernel⟩
theorem cs_Top_153 : Cond.methodLink R_Top 153 y_Set_least ∈ WALL ∧ Cond.instanceMethod y_Set_least ∈ WALL ∧ Cond.selects R_Set y_Set_least y_Set_least ∈ WALL ∧ Cond.initialized (MethodName.cls y_Set_least) ∈ WALL ∧ Cond.code y_Set_least b_Set_least 2 (some .int) ∈ WALL ∧ (MethodName.cls y_Set_least ≠ "java/lang/invoke/MethodHandle" ∧ MethodName.cls y_Set_least ≠ "java/lang/invoke/VarHandle" ∧ (parseMethodDescriptor (MethodName.desc y_Set_least)).map (fun d => d.parameters.length) = some 0) := ⟨wi_444, wi_445, wi_446, wi_38, wi_447, by decide +kernel⟩
theorem cs_Law_25 : Cond.methodLink R_Law 25 y_Mod_generators ∈ WALL ∧ Cond.instanceMethod y_Mod_generators ∈ WALL ∧ Cond.selects R_Mod y_Mod_generators y_Mod_generators ∈ WALL ∧ Cond.initialized (MethodName.cls y_Mod_generators) ∈ WALL ∧ Cond.code y_Mod_generators b_Mod_generators 1 (some .int) ∈ WALL ∧ (MethodName.cls y_Mod_generators ≠ "java/lang/invoke/MethodHandle" ∧ MethodName.cls y_Mod_generators ≠ "java/lang/invoke/VarHandle" ∧ (parseMethodDescriptor (MethodName.desc y_Mod_generators)).map (fun d => d.parameters.length) = some 0) := ⟨wi_500, wi_501, wi_502, wi_39, wi_503, by decide +kernel⟩
theorem cs_Law_29 : Cond.methodLink R_Law 29 y_Mod_size ∈ WALL ∧ Cond.instanceMethod y_Mod_size ∈ WALL ∧ Cond.selects R_Mod y_Mod_size y_Mod_size ∈ WALL ∧ Cond.initialized (MethodName.cls y_Mod_size) ∈ WALL ∧ Cond.code y_Mod_size b_Mod_size 1 (some .int) ∈ WALL ∧ (MethodName.cls y_Mod_size ≠ "java/lang/invoke/MethodHandle" ∧ MethodName.cls y_Mod_size ≠ "java/lang/invoke/VarHandle" ∧ (parseMethodDescriptor (MethodName.desc y_Mod_size)).map (fun d => d.parameters.length) = some 0) := ⟨wi_504, wi_505, wi_506, wi_39, wi_507, by decide +kernel⟩
theorem cs_Law_34 : Cond.methodLink R_Law 34 y_Mod_generator ∈ WALL ∧ Cond.instanceMethod y_Mod_generator ∈ WALL ∧ Cond.selects R_Mod y_Mod_generator y_Mod_generator ∈ WALL ∧ Cond.initialized (MethodName.cls y_Mod_generator) ∈ WALL ∧ Cond.code y_Mod_generator b_Mod_generator 2 (some .int) ∈ WALL ∧ (MethodName.cls y_Mod_generator ≠ "java/lang/invoke/MethodHandle" ∧ MethodName.cls y_Mod_generator ≠ "java/lang/invoke/VarHandle" ∧ (parseMethodDescriptor (MethodName.desc y_Mod_generator)).map (fun d => d.parameters.length) = some 1) := ⟨wi_508, wi_509, wi_510, wi_39, wi_511, by decide +kernel⟩
theorem cs_Mod_51 : Cond.methodLink R_Mod 51 y_Mod_isGenerator ∈ WALL ∧ Cond.instanceMethod y_Mod_isGenerator ∈ WALL ∧ Cond.selects R_Mod y_Mod_isGenerator y_Mod_isGenerator ∈ WALL ∧ Cond.initialized (MethodName.cls y_Mod_isGenerator) ∈ WALL ∧ Cond.code y_Mod_isGenerator b_Mod_isGenerator 2 (some .boolean) ∈ WALL ∧ (MethodName.cls y_Mod_isGenerator ≠ "java/lang/invoke/MethodHandle" ∧ MethodName.cls y_Mod_isGenerator ≠ "java/lang/invoke/VarHandle" ∧ (parseMethodDescriptor (MethodName.desc y_Mod_isGenerator)).map (fun d => d.parameters.length) = some 1) := ⟨wi_512, wi_514, wi_13, wi_39, wi_515, by decide +kernel⟩
theorem cs_Law_39 : Cond.methodLink R_Law 39 y_Mod_power ∈ WALL ∧ Cond.instanceMethod y_Mod_power ∈ WALL ∧ Cond.selects R_Mod y_Mod_power y_Mod_power ∈ WALL ∧ Cond.initialized (MethodName.cls y_Mod_power) ∈ WALL ∧ Cond.code y_Mod_power b_Mod_power 3 (some .boolean) ∈ WALL ∧ (MethodName.cls y_Mod_power ≠ "java/lang/invoke/MethodHandle" ∧ MethodName.cls y_Mod_power ≠ "java/lang/invoke/VarHandle" ∧ (parseMethodDescriptor (MethodName.desc y_Mod_power)).map (fun d => d.parameters.length) = some 2) := ⟨wi_516, wi_517, wi_518, wi_39, wi_519, by decide +kernel⟩
theorem cs_Law_44 : Cond.methodLink R_Law 44 y_Mod_conjugate ∈ WALL ∧ Cond.instanceMethod y_Mod_conjugate ∈ WALL ∧ Cond.selects R_Mod y_Mod_conjugate y_Mod_conjugate ∈ WALL ∧ Cond.initialized (MethodName.cls y_Mod_conjugate) ∈ WALL ∧ Cond.code y_Mod_conjugate b_Mod_conjugate 4 (some .boolean) ∈ WALL ∧ (MethodName.cls y_Mod_conjugate ≠ "java/lang/invoke/MethodHandle" ∧ MethodName.cls y_Mod_conjugate ≠ "java/lang/invoke/VarHandle" ∧ (parseMethodDescriptor (MethodName.desc y_Mod_conjugate)).map (fun d => d.parameters.length) = some 3) := ⟨wi_520, wi_521, wi_522, wi_39, wi_523, by decide +kernel⟩
theorem cs_Law_49 : Cond.methodLink R_Law 49 y_Mod_fix ∈ WALL ∧ Cond.instanceMethod y_Mod_fix ∈ WALL ∧ Cond.selects R_Mod y_Mod_fix y_Mod_fix ∈ WALL ∧ Cond.initialized (MethodName.cls y_Mod_fix) ∈ WALL ∧ Cond.code y_Mod_fix b_Mod_fix 3 (some .boolean) ∈ WALL ∧ (MethodName.cls y_Mod_fix ≠ "java/lang/invoke/MethodHandle" ∧ MethodName.cls y_Mod_fix ≠ "java/lang/invoke/VarHandle" ∧ (parseMethodDescriptor (MethodName.desc y_Mod_fix)).map (fun d => d.parameters.length) = some 0) := ⟨wi_524, wi_525, wi_526, wi_39, wi_527, by decide +kernel⟩
theorem cs_Mod_77 : Cond.methodLink R_Mod 77 y_Mod_build ∈ WALL ∧ Cond.instanceMethod y_Mod_build ∈ WALL ∧ Cond.selects R_Mod y_Mod_build y_Mod_build ∈ WALL ∧ Cond.initialized (MethodName.cls y_Mod_build) ∈ WALL ∧ Cond.code y_Mod_build b_Mod_build 4 (some .boolean) ∈ WALL ∧ (MethodName.cls y_Mod_build ≠ "java/lang/invoke/MethodHandle" ∧ MethodName.cls y_Mod_build ≠ "java/lang/invoke/VarHandle" ∧ (parseMethodDescriptor (MethodName.desc y_Mod_build)).map (fun d => d.parameters.length) = some 0) := ⟨wi_528, wi_530, wi_14, wi_39, wi_531, by decide +kernel⟩
theorem cs_Mod_67 : Cond.methodLink R_Mod 67 y_Mod_letters ∈ WALL ∧ Cond.instanceMethod y_Mod_letters ∈ WALL ∧ Cond.selects R_Mod y_Mod_letters y_Mod_letters ∈ WALL ∧ Cond.initialized (MethodName.cls y_Mod_letters) ∈ WALL ∧ Cond.code y_Mod_letters b_Mod_letters 7 (some .int) ∈ WALL ∧ (MethodName.cls y_Mod_letters ≠ "java/lang/invoke/MethodHandle" ∧ MethodName.cls y_Mod_letters ≠ "java/lang/invoke/VarHandle" ∧ (parseMethodDescriptor (MethodName.desc y_Mod_letters)).map (fun d => d.parameters.length) = some 2) := ⟨wi_532, wi_534, wi_15, wi_39, wi_535, by decide +kernel⟩
theorem cs_Mod_59 : Cond.methodLink R_Mod 59 y_Mod_of ∈ WALL ∧ Cond.instanceMethod y_Mod_of ∈ WALL ∧ Cond.selects R_Mod y_Mod_of y_Mod_of ∈ WALL ∧ Cond.initialized (MethodName.cls y_Mod_of) ∈ WALL ∧ Cond.code y_Mod_of b_Mod_of 3 (some .int) ∈ WALL ∧ (MethodName.cls y_Mod_of ≠ "java/lang/invoke/MethodHandle" ∧ MethodName.cls y_Mod_of ≠ "java/lang/invoke/VarHandle" ∧ (parseMethodDescriptor (MethodName.desc y_Mod_of)).map (fun d => d.parameters.length) = some 2) := ⟨wi_536, wi_538, wi_16, wi_39, wi_539, by decide +kernel⟩
theorem cs_Mod_70 : Cond.methodLink R_Mod 70 y_Mod_turns ∈ WALL ∧ Cond.instanceMethod y_Mod_turns ∈ WALL ∧ Cond.selects R_Mod y_Mod_turns y_Mod_turns ∈ WALL ∧ Cond.initialized (MethodName.cls y_Mod_turns) ∈ WALL ∧ Cond.code y_Mod_turns b_Mod_turns 8 (some .boolean) ∈ WALL ∧ (MethodName.cls y_Mod_turns ≠ "java/lang/invoke/MethodHandle" ∧ MethodName.cls y_Mod_turns ≠ "java/lang/invoke/VarHandle" ∧ (parseMethodDescriptor (MethodName.desc y_Mod_turns)).map (fun d => d.parameters.length) = some 1) := ⟨wi_540, wi_542, wi_17, wi_39, wi_543, by decide +kernel⟩
theorem cs_Mod_73 : Cond.methodLink R_Mod 73 y_Mod_widen ∈ WALL ∧ Cond.instanceMethod y_Mod_widen ∈ WALL ∧ Cond.selects R_Mod y_Mod_widen y_Mod_widen ∈ WALL ∧ Cond.initialized (MethodName.cls y_Mod_widen) ∈ WALL ∧ Cond.code y_Mod_widen b_Mod_widen 6 none ∈ WALL ∧ (MethodName.cls y_Mod_widen ≠ "java/lang/invoke/MethodHandle" ∧ MethodName.cls y_Mod_widen ≠ "java/lang/invoke/VarHandle" ∧ (parseMethodDescriptor (MethodName.desc y_Mod_widen)).map (fun d => d.parameters.length) = some 1) := ⟨wi_544, wi_546, wi_18, wi_39, wi_547, by decide +kernel⟩
theorem cs_Mod_63 : Cond.methodLink R_Mod 63 y_Mod_enter ∈ WALL ∧ Cond.instanceMethod y_Mod_enter ∈ WALL ∧ Cond.selects R_Mod y_Mod_enter y_Mod_enter ∈ WALL ∧ Cond.initialized (MethodName.cls y_Mod_enter) ∈ WALL ∧ Cond.code y_Mod_enter b_Mod_enter 10 none ∈ WALL ∧ (MethodName.cls y_Mod_enter ≠ "java/lang/invoke/MethodHandle" ∧ MethodName.cls y_Mod_enter ≠ "java/lang/invoke/VarHandle" ∧ (parseMethodDescriptor (MethodName.desc y_Mod_enter)).map (fun d => d.parameters.length) = some 4) := ⟨wi_548, wi_550, wi_19, wi_39, wi_551, by decide +kernel⟩
theorem cs_Law_53 : Cond.methodLink R_Law 53 y_Mod_release ∈ WALL ∧ Cond.instanceMethod y_Mod_release ∈ WALL ∧ Cond.selects R_Mod y_Mod_release y_Mod_release ∈ WALL ∧ Cond.initialized (MethodName.cls y_Mod_release) ∈ WALL ∧ Cond.code y_Mod_release b_Mod_release 1 none ∈ WALL ∧ (MethodName.cls y_Mod_release ≠ "java/lang/invoke/MethodHandle" ∧ MethodName.cls y_Mod_release ≠ "java/lang/invoke/VarHandle" ∧ (parseMethodDescriptor (MethodName.desc y_Mod_release)).map (fun d => d.parameters.length) = some 0) := ⟨wi_552, wi_553, wi_554, wi_39, wi_555, by decide +kernel⟩
theorem cs_Law_57 : Cond.methodLink R_Law 57 y_Mod_fixed ∈ WALL ∧ Cond.instanceMethod y_Mod_fixed ∈ WALL ∧ Cond.selects R_Mod y_Mod_fixed y_Mod_fixed ∈ WALL ∧ Cond.initialized (MethodName.cls y_Mod_fixed) ∈ WALL ∧ Cond.code y_Mod_fixed b_Mod_fixed 1 (some .boolean) ∈ WALL ∧ (MethodName.cls y_Mod_fixed ≠ "java/lang/invoke/MethodHandle" ∧ MethodName.cls y_Mod_fixed ≠ "java/lang/invoke/VarHandle" ∧ (parseMethodDescriptor (MethodName.desc y_Mod_fixed)).map (fun d => d.parameters.length) = some 0) := ⟨wi_556, wi_557, wi_558, wi_39, wi_559, by decide +kernel⟩
theorem cs_Law_62 : Cond.methodLink R_Law 62 y_Mod_product ∈ WALL ∧ Cond.instanceMethod y_Mod_product ∈ WALL ∧ Cond.selects R_Mod y_Mod_product y_Mod_product ∈ WALL ∧ Cond.initialized (MethodName.cls y_Mod_product) ∈ WALL ∧ Cond.code y_Mod_product b_Mod_product 3 (some .int) ∈ WALL ∧ (MethodName.cls y_Mod_product ≠ "java/lang/invoke/MethodHandle" ∧ MethodName.cls y_Mod_product ≠ "java/lang/invoke/VarHandle" ∧ (parseMethodDescriptor (MethodName.desc y_Mod_product)).map (fun d => d.parameters.length) = some 2) := ⟨wi_560, wi_561, wi_562, wi_39, wi_563, by decide +kernel⟩
theorem cs_Mod_81 : Cond.methodLink R_Mod 81 y_Mod_is ∈ WALL ∧ Cond.instanceMethod y_Mod_is ∈ WALL ∧ Cond.selects R_Mod y_Mod_is y_Mod_is ∈ WALL ∧ Cond.initialized (MethodName.cls y_Mod_is) ∈ WALL ∧ Cond.code y_Mod_is b_Mod_is 2 (some .boolean) ∈ WALL ∧ (MethodName.cls y_Mod_is ≠ "java/lang/invoke/MethodHandle" ∧ MethodName.cls y_Mod_is ≠ "java/lang/invoke/VarHandle" ∧ (parseMethodDescriptor (MethodName.desc y_Mod_is)).map (fun d => d.parameters.length) = some 1) := ⟨wi_564, wi_566, wi_20, wi_39, wi_567, by decide +kernel⟩
theorem cs_Law_78 : Cond.methodLink R_Law 78 y_Mod_order ∈ WALL ∧ Cond.instanceMethod y_Mod_order ∈ WALL ∧ Cond.selects R_Mod y_Mod_order y_Mod_order ∈ WALL ∧ Cond.initialized (MethodName.cls y_Mod_order) ∈ WALL ∧ Cond.code y_Mod_order b_Mod_order 4 (some .int) ∈ WALL ∧ (MethodName.cls y_Mod_order ≠ "java/lang/invoke/MethodHandle" ∧ MethodName.cls y_Mod_order ≠ "java/lang/invoke/VarHandle" ∧ (parseMethodDescriptor (MethodName.desc y_Mod_order)).map (fun d => d.parameters.length) = some 1) := ⟨wi_568, wi_569, wi_570, wi_39, wi_571, by decide +kernel⟩
theorem cs_Law_66 : Cond.methodLink R_Law 66 y_Mod_times ∈ WALL ∧ Cond.instanceMethod y_Mod_times ∈ WALL ∧ Cond.selects R_Mod y_Mod_times y_Mod_times ∈ WALL ∧ Cond.initialized (MethodName.cls y_Mod_times) ∈ WALL ∧ Cond.code y_Mod_times b_Mod_times 7 (some .int) ∈ WALL ∧ (MethodName.cls y_Mod_times ≠ "java/lang/invoke/MethodHandle" ∧ MethodName.cls y_Mod_times ≠ "java/lang/invoke/VarHandle" ∧ (parseMethodDescriptor (MethodName.desc y_Mod_times)).map (fun d => d.parameters.length) = some 2) := ⟨wi_572, wi_573, wi_574, wi_39, wi_575, by decide +kernel⟩
theorem cs_Mod_84 : Cond.methodLink R_Mod 84 y_Mod_order ∈ WALL ∧ Cond.instanceMethod y_Mod_order ∈ WALL ∧ Cond.selects R_Mod y_Mod_order y_Mod_order ∈ WALL ∧ Cond.initialized (MethodName.cls y_Mod_order) ∈ WALL ∧ Cond.code y_Mod_order b_Mod_order 4 (some .int) ∈ WALL ∧ (MethodName.cls y_Mod_order ≠ "java/lang/invoke/MethodHandle" ∧ MethodName.cls y_Mod_order ≠ "java/lang/invoke/VarHandle" ∧ (parseMethodDescriptor (MethodName.desc y_Mod_order)).map (fun d => d.parameters.length) = some 1) := ⟨wi_576, wi_569, wi_570, wi_39, wi_571, by decide +kernel⟩
theorem cs_Law_70 : Cond.methodLink R_Law 70 y_Mod_conjugated ∈ WALL ∧ Cond.instanceMethod y_Mod_conjugated ∈ WALL ∧ Cond.selects R_Mod y_Mod_conjugated y_Mod_conjugated ∈ WALL ∧ Cond.initialized (MethodName.cls y_Mod_conjugated) ∈ WALL ∧ Cond.code y_Mod_conjugated b_Mod_conjugated 3 (some .int) ∈ WALL ∧ (MethodName.cls y_Mod_conjugated ≠ "java/lang/invoke/MethodHandle" ∧ MethodName.cls y_Mod_conjugated ≠ "java/lang/invoke/VarHandle" ∧ (parseMethodDescriptor (MethodName.desc y_Mod_conjugated)).map (fun d => d.parameters.length) = some 2) := ⟨wi_577, wi_578, wi_579, wi_39, wi_580, by decide +kernel⟩
theorem cs_Mod_88 : Cond.methodLink R_Mod 88 y_Mod_by ∈ WALL ∧ Cond.instanceMethod y_Mod_by ∈ WALL ∧ Cond.selects R_Mod y_Mod_by y_Mod_by ∈ WALL ∧ Cond.initialized (MethodName.cls y_Mod_by) ∈ WALL ∧ Cond.code y_Mod_by b_Mod_by 3 (some .int) ∈ WALL ∧ (MethodName.cls y_Mod_by ≠ "java/lang/invoke/MethodHandle" ∧ MethodName.cls y_Mod_by ≠ "java/lang/invoke/VarHandle" ∧ (parseMethodDescriptor (MethodName.desc y_Mod_by)).map (fun d => d.parameters.length) = some 2) := ⟨wi_581, wi_583, wi_21, wi_39, wi_584, by decide +kernel⟩
theorem cs_Law_74 : Cond.methodLink R_Law 74 y_Mod_commutator ∈ WALL ∧ Cond.instanceMethod y_Mod_commutator ∈ WALL ∧ Cond.selects R_Mod y_Mod_commutator y_Mod_commutator ∈ WALL ∧ Cond.initialized (MethodName.cls y_Mod_commutator) ∈ WALL ∧ Cond.code y_Mod_commutator b_Mod_commutator 3 (some .int) ∈ WALL ∧ (MethodName.cls y_Mod_commutator ≠ "java/lang/invoke/MethodHandle" ∧ MethodName.cls y_Mod_commutator ≠ "java/lang/invoke/VarHandle" ∧ (parseMethodDescriptor (MethodName.desc y_Mod_commutator)).map (fun d => d.parameters.length) = some 2) := ⟨wi_585, wi_586, wi_587, wi_39, wi_588, by decide +kernel⟩
theorem cs_Mod_91 : Cond.methodLink R_Mod 91 y_Mod_bracket ∈ WALL ∧ Cond.instanceMethod y_Mod_bracket ∈ WALL ∧ Cond.selects R_Mod y_Mod_bracket y_Mod_bracket ∈ WALL ∧ Cond.initialized (MethodName.cls y_Mod_bracket) ∈ WALL ∧ Cond.code y_Mod_bracket b_Mod_bracket 3 (some .int) ∈ WALL ∧ (MethodName.cls y_Mod_bracket ≠ "java/lang/invoke/MethodHandle" ∧ MethodName.cls y_Mod_bracket ≠ "java/lang/invoke/VarHandle" ∧ (parseMethodDescriptor (MethodName.desc y_Mod_bracket)).map (fun d => d.parameters.length) = some 2) := ⟨wi_589, wi_591, wi_22, wi_39, wi_592, by decide +kernel⟩
theorem cs_Law_82 : Cond.methodLink R_Law 82 y_Mod_clear ∈ WALL ∧ Cond.instanceMethod y_Mod_clear ∈ WALL ∧ Cond.selects R_Mod y_Mod_clear y_Mod_clear ∈ WALL ∧ Cond.initialized (MethodName.cls y_Mod_clear) ∈ WALL ∧ Cond.code y_Mod_clear b_Mod_clear 3 (some .int) ∈ WALL ∧ (MethodName.cls y_Mod_clear ≠ "java/lang/invoke/MethodHandle" ∧ MethodName.cls y_Mod_clear ≠ "java/lang/invoke/VarHandle" ∧ (parseMethodDescriptor (MethodName.desc y_Mod_clear)).map (fun d => d.parameters.length) = some 1) := ⟨wi_593, wi_594, wi_595, wi_39, wi_596, by decide +kernel⟩
theorem cs_Mod_101 : Cond.methodLink R_Mod 101 y_Mod_isPlace ∈ WALL ∧ Cond.instanceMethod y_Mod_isPlace ∈ WALL ∧ Cond.selects R_Mod y_Mod_isPlace y_Mod_isPlace ∈ WALL ∧ Cond.initialized (MethodName.cls y_Mod_isPlace) ∈ WALL ∧ Cond.code y_Mod_isPlace b_Mod_isPlace 2 (some .boolean) ∈ WALL ∧ (MethodName.cls y_Mod_isPlace ≠ "java/lang/invoke/MethodHandle" ∧ MethodName.cls y_Mod_isPlace ≠ "java/lang/invoke/VarHandle" ∧ (parseMethodDescriptor (MethodName.desc y_Mod_isPlace)).map (fun d => d.parameters.length) = some 1) := ⟨wi_597, wi_599, wi_23, wi_39, wi_600, by decide +kernel⟩
theorem cs_Law_86 : Cond.methodLink R_Law 86 y_Mod_join ∈ WALL ∧ Cond.instanceMethod y_Mod_join ∈ WALL ∧ Cond.selects R_Mod y_Mod_join y_Mod_join ∈ WALL ∧ Cond.initialized (MethodName.cls y_Mod_join) ∈ WALL ∧ Cond.code y_Mod_join b_Mod_join 3 (some .int) ∈ WALL ∧ (MethodName.cls y_Mod_join ≠ "java/lang/invoke/MethodHandle" ∧ MethodName.cls y_Mod_join ≠ "java/lang/invoke/VarHandle" ∧ (parseMethodDescriptor (MethodName.desc y_Mod_join)).map (fun d => d.parameters.length) = some 2) := ⟨wi_601, wi_602, wi_603, wi_39, wi_604, by decide +kernel⟩
theorem cs_Mod_104 : Cond.methodLink R_Mod 104 y_Mod_take ∈ WALL ∧ Cond.instanceMethod y_Mod_take ∈ WALL ∧ Cond.selects R_Mod y_Mod_take y_Mod_take ∈ WALL ∧ Cond.initialized (MethodName.cls y_Mod_take) ∈ WALL ∧ Cond.code y_Mod_take b_Mod_take 3 none ∈ WALL ∧ (MethodName.cls y_Mod_take ≠ "java/lang/invoke/MethodHandle" ∧ MethodName.cls y_Mod_take ≠ "java/lang/invoke/VarHandle" ∧ (parseMethodDescriptor (MethodName.desc y_Mod_take)).map (fun d => d.parameters.length) = some 1) := ⟨wi_605, wi_607, wi_24, wi_39, wi_608, by decide +kernel⟩
theorem cs_Mod_107 : Cond.methodLink R_Mod 107 y_Mod_put ∈ WALL ∧ Cond.instanceMethod y_Mod_put ∈ WALL ∧ Cond.selects R_Mod y_Mod_put y_Mod_put ∈ WALL ∧ Cond.initialized (MethodName.cls y_Mod_put) ∈ WALL ∧ Cond.code y_Mod_put b_Mod_put 3 (some .int) ∈ WALL ∧ (MethodName.cls y_Mod_put ≠ "java/lang/invoke/MethodHandle" ∧ MethodName.cls y_Mod_put ≠ "java/lang/invoke/VarHandle" ∧ (parseMethodDescriptor (MethodName.desc y_Mod_put)).map (fun d => d.parameters.length) = some 1) := ⟨wi_609, wi_611, wi_25, wi_39, wi_612, by decide +kernel⟩
theorem cs_Mod_98 : Cond.methodLink R_Mod 98 y_Mod_close ∈ WALL ∧ Cond.instanceMethod y_Mod_close ∈ WALL ∧ Cond.selects R_Mod y_Mod_close y_Mod_close ∈ WALL ∧ Cond.initialized (MethodName.cls y_Mod_close) ∈ WALL ∧ Cond.code y_Mod_close b_Mod_close 4 none ∈ WALL ∧ (MethodName.cls y_Mod_close ≠ "java/lang/invoke/MethodHandle" ∧ MethodName.cls y_Mod_close ≠ "java/lang/invoke/VarHandle" ∧ (parseMethodDescriptor (MethodName.desc y_Mod_close)).map (fun d => d.parameters.length) = some 0) := ⟨wi_613, wi_615, wi_26, wi_39, wi_616, by decide +kernel⟩
theorem cs_Mod_94 : Cond.methodLink R_Mod 94 y_Mod_worked ∈ WALL ∧ Cond.instanceMethod y_Mod_worked ∈ WALL ∧ Cond.selects R_Mod y_Mod_worked y_Mod_worked ∈ WALL ∧ Cond.initialized (MethodName.cls y_Mod_worked) ∈ WALL ∧ Cond.code y_Mod_worked b_Mod_worked 3 (some .int) ∈ WALL ∧ (MethodName.cls y_Mod_worked ≠ "java/lang/invoke/MethodHandle" ∧ MethodName.cls y_Mod_worked ≠ "java/lang/invoke/VarHandle" ∧ (parseMethodDescriptor (MethodName.desc y_Mod_worked)).map (fun d => d.parameters.length) = some 0) := ⟨wi_617, wi_619, wi_27, wi_39, wi_620, by decide +kernel⟩
theorem cs_Law_90 : Cond.methodLink R_Law 90 y_Mod_spread ∈ WALL ∧ Cond.instanceMethod y_Mod_spread ∈ WALL ∧ Cond.selects R_Mod y_Mod_spread y_Mod_spread ∈ WALL ∧ Cond.initialized (MethodName.cls y_Mod_spread) ∈ WALL ∧ Cond.code y_Mod_spread b_Mod_spread 4 (some .int) ∈ WALL ∧ (MethodName.cls y_Mod_spread ≠ "java/lang/invoke/MethodHandle" ∧ MethodName.cls y_Mod_spread ≠ "java/lang/invoke/VarHandle" ∧ (parseMethodDescriptor (MethodName.desc y_Mod_spread)).map (fun d => d.parameters.length) = some 1) := ⟨wi_621, wi_622, wi_623, wi_39, wi_624, by decide +kernel⟩
theorem cs_Law_95 : Cond.methodLink R_Law 95 y_Mod_commute ∈ WALL ∧ Cond.instanceMethod y_Mod_commute ∈ WALL ∧ Cond.selects R_Mod y_Mod_commute y_Mod_commute ∈ WALL ∧ Cond.initialized (MethodName.cls y_Mod_commute) ∈ WALL ∧ Cond.code y_Mod_commute b_Mod_commute 6 (some .int) ∈ WALL ∧ (MethodName.cls y_Mod_commute ≠ "java/lang/invoke/MethodHandle" ∧ MethodName.cls y_Mod_commute ≠ "java/lang/invoke/VarHandle" ∧ (parseMethodDescriptor (MethodName.desc y_Mod_commute)).map (fun d => d.parameters.length) = some 3) := ⟨wi_625, wi_626, wi_627, wi_39, wi_628, by decide +kernel⟩
theorem cs_Law_99 : Cond.methodLink R_Law 99 y_Mod_count ∈ WALL ∧ Cond.instanceMethod y_Mod_count ∈ WALL ∧ Cond.selects R_Mod y_Mod_count y_Mod_count ∈ WALL ∧ Cond.initialized (MethodName.cls y_Mod_count) ∈ WALL ∧ Cond.code y_Mod_count b_Mod_count 2 (some .int) ∈ WALL ∧ (MethodName.cls y_Mod_count ≠ "java/lang/invoke/MethodHandle" ∧ MethodName.cls y_Mod_count ≠ "java/lang/invoke/VarHandle" ∧ (parseMethodDescriptor (MethodName.desc y_Mod_count)).map (fun d => d.parameters.length) = some 1) := ⟨wi_629, wi_630, wi_631, wi_39, wi_632, by decide +kernel⟩
theorem cs_Law_103 : Cond.methodLink R_Law 103 y_Mod_has ∈ WALL ∧ Cond.instanceMethod y_Mod_has ∈ WALL ∧ Cond.selects R_Mod y_Mod_has y_Mod_has ∈ WALL ∧ Cond.initialized (MethodName.cls y_Mod_has) ∈ WALL ∧ Cond.code y_Mod_has b_Mod_has 3 (some .boolean) ∈ WALL ∧ (MethodName.cls y_Mod_has ≠ "java/lang/invoke/MethodHandle" ∧ MethodName.cls y_Mod_has ≠ "java/lang/invoke/VarHandle" ∧ (parseMethodDescriptor (MethodName.desc y_Mod_has)).map (fun d => d.parameters.length) = some 2) := ⟨wi_633, wi_634, wi_635, wi_39, wi_636, by decide +kernel⟩
theorem cs_Law_107 : Cond.methodLink R_Law 107 y_Mod_derived ∈ WALL ∧ Cond.instanceMethod y_Mod_derived ∈ WALL ∧ Cond.selects R_Mod y_Mod_derived y_Mod_derived ∈ WALL ∧ Cond.initialized (MethodName.cls y_Mod_derived) ∈ WALL ∧ Cond.code y_Mod_derived b_Mod_derived 2 (some .int) ∈ WALL ∧ (MethodName.cls y_Mod_derived ≠ "java/lang/invoke/MethodHandle" ∧ MethodName.cls y_Mod_derived ≠ "java/lang/invoke/VarHandle" ∧ (parseMethodDescriptor (MethodName.desc y_Mod_derived)).map (fun d => d.parameters.length) = some 1) := ⟨wi_637, wi_638, wi_639, wi_39, wi_640, by decide +kernel⟩
theorem cs_Mod_110 : Cond.methodLink R_Mod 110 y_Mod_series ∈ WALL ∧ Cond.instanceMethod y_Mod_series ∈ WALL ∧ Cond.selects R_Mod y_Mod_series y_Mod_series ∈ WALL ∧ Cond.initialized (MethodName.cls y_Mod_series) ∈ WALL ∧ Cond.code y_Mod_series b_Mod_series 6 (some .int) ∈ WALL ∧ (MethodName.cls y_Mod_series ≠ "java/lang/invoke/MethodHandle" ∧ MethodName.cls y_Mod_series ≠ "java/lang/invoke/VarHandle" ∧ (parseMethodDescriptor (MethodName.desc y_Mod_series)).map (fun d => d.parameters.length) = some 2) := ⟨wi_641, wi_643, wi_28, wi_39, wi_644, by decide +kernel⟩
theorem cs_Law_111 : Cond.methodLink R_Law 111 y_Mod_lower ∈ WALL ∧ Cond.instanceMethod y_Mod_lower ∈ WALL ∧ Cond.selects R_Mod y_Mod_lower y_Mod_lower ∈ WALL ∧ Cond.initialized (MethodName.cls y_Mod_lower) ∈ WALL ∧ Cond.code y_Mod_lower b_Mod_lower 2 (some .int) ∈ WALL ∧ (MethodName.cls y_Mod_lower ≠ "java/lang/invoke/MethodHandle" ∧ MethodName.cls y_Mod_lower ≠ "java/lang/invoke/VarHandle" ∧ (parseMethodDescriptor (MethodName.desc y_Mod_lower)).map (fun d => d.parameters.length) = some 1) := ⟨wi_645, wi_646, wi_647, wi_39, wi_648, by decide +kernel⟩
theorem cs_Law_115 : Cond.methodLink R_Law 115 y_Mod_centre ∈ WALL ∧ Cond.instanceMethod y_Mod_centre ∈ WALL ∧ Cond.selects R_Mod y_Mod_centre y_Mod_centre ∈ WALL ∧ Cond.initialized (MethodName.cls y_Mod_centre) ∈ WALL ∧ Cond.code y_Mod_centre b_Mod_centre 5 (some .int) ∈ WALL ∧ (MethodName.cls y_Mod_centre ≠ "java/lang/invoke/MethodHandle" ∧ MethodName.cls y_Mod_centre ≠ "java/lang/invoke/VarHandle" ∧ (parseMethodDescriptor (MethodName.desc y_Mod_centre)).map (fun d => d.parameters.length) = some 0) := ⟨wi_649, wi_650, wi_651, wi_39, wi_652, by decide +kernel⟩
theorem cs_Law_119 : Cond.methodLink R_Law 119 y_Mod_classes ∈ WALL ∧ Cond.instanceMethod y_Mod_classes ∈ WALL ∧ Cond.selects R_Mod y_Mod_classes y_Mod_classes ∈ WALL ∧ Cond.initialized (MethodName.cls y_Mod_classes) ∈ WALL ∧ Cond.code y_Mod_classes b_Mod_classes 3 (some .int) ∈ WALL ∧ (MethodName.cls y_Mod_classes ≠ "java/lang/invoke/MethodHandle" ∧ MethodName.cls y_Mod_classes ≠ "java/lang/invoke/VarHandle" ∧ (parseMethodDescriptor (MethodName.desc y_Mod_classes)).map (fun d => d.parameters.length) = some 0) := ⟨wi_653, wi_654, wi_655, wi_39, wi_656, by decide +kernel⟩
theorem cs_Mod_114 : Cond.methodLink R_Mod 114 y_Mod_least ∈ WALL ∧ Cond.instanceMethod y_Mod_least ∈ WALL ∧ Cond.selects R_Mod y_Mod_least y_Mod_least ∈ WALL ∧ Cond.initialized (MethodName.cls y_Mod_least) ∈ WALL ∧ Cond.code y_Mod_least b_Mod_least 5 (some .int) ∈ WALL ∧ (MethodName.cls y_Mod_least ≠ "java/lang/invoke/MethodHandle" ∧ MethodName.cls y_Mod_least ≠ "java/lang/invoke/VarHandle" ∧ (parseMethodDescriptor (MethodName.desc y_Mod_least)).map (fun d => d.parameters.length) = some 1) := ⟨wi_657, wi_659, wi_29, wi_39, wi_660, by decide +kernel⟩
theorem cs_Law_123 : Cond.methodLink R_Law 123 y_Mod_kin ∈ WALL ∧ Cond.instanceMethod y_Mod_kin ∈ WALL ∧ Cond.selects R_Mod y_Mod_kin y_Mod_kin ∈ WALL ∧ Cond.initialized (MethodName.cls y_Mod_kin) ∈ WALL ∧ Cond.code y_Mod_kin b_Mod_kin 2 (some .int) ∈ WALL ∧ (MethodName.cls y_Mod_kin ≠ "java/lang/invoke/MethodHandle" ∧ MethodName.cls y_Mod_kin ≠ "java/lang/invoke/VarHandle" ∧ (parseMethodDescriptor (MethodName.desc y_Mod_kin)).map (fun d => d.parameters.length) = some 1) := ⟨wi_661, wi_662, wi_663, wi_39, wi_664, by decide +kernel⟩
theorem cs_Mod_117 : Cond.methodLink R_Mod 117 y_Mod_relatives ∈ WALL ∧ Cond.instanceMethod y_Mod_relatives ∈ WALL ∧ Cond.selects R_Mod y_Mod_relatives y_Mod_relatives ∈ WALL ∧ Cond.initialized (MethodName.cls y_Mod_relatives) ∈ WALL ∧ Cond.code y_Mod_relatives b_Mod_relatives 3 (some .int) ∈ WALL ∧ (MethodName.cls y_Mod_relatives ≠ "java/lang/invoke/MethodHandle" ∧ MethodName.cls y_Mod_relatives ≠ "java/lang/invoke/VarHandle" ∧ (parseMethodDescriptor (MethodName.desc y_Mod_relatives)).map (fun d => d.parameters.length) = some 1) := ⟨wi_665, wi_667, wi_30, wi_39, wi_668, by decide +kernel⟩
theorem cs_Law_127 : Cond.methodLink R_Law 127 y_Mod_head ∈ WALL ∧ Cond.instanceMethod y_Mod_head ∈ WALL ∧ Cond.selects R_Mod y_Mod_head y_Mod_head ∈ WALL ∧ Cond.initialized (MethodName.cls y_Mod_head) ∈ WALL ∧ Cond.code y_Mod_head b_Mod_head 2 (some .int) ∈ WALL ∧ (MethodName.cls y_Mod_head ≠ "java/lang/invoke/MethodHandle" ∧ MethodName.cls y_Mod_head ≠ "java/lang/invoke/VarHandle" ∧ (parseMethodDescriptor (MethodName.desc y_Mod_head)).map (fun d => d.parameters.length) = some 1) := ⟨wi_669, wi_670, wi_671, wi_39, wi_672, by decide +kernel⟩
end
section
/-! The system's cells by place (a kind and a number): after the constructors nothing changes there but natural numbers. -/
abbrev hw_P : Type := Nat × Nat
abbrev hw_M : Type := hw_P → Nat → Nat
abbrev hw_E : Type := hw_P → (Nat → Nat) → va_E
def hw_up (σ : hw_M) (k : hw_P) (i x : Nat) : hw_M := fun q => if q = k then va_up (σ k) i x else σ q
theorem hw_up_s (σ : hw_M) (k : hw_P) (i x : Nat) : hw_up σ k i x k i = x := by simp [hw_up, va_up]
theorem hw_up_i (σ : hw_M) (k : hw_P) {i j : Nat} (x : Nat) (h : j ≠ i) : hw_up σ k i x k j = σ k j := by simp [hw_up, va_up, h]
theorem hw_up_k (σ : hw_M) {k q : hw_P} (i x : Nat) (h : q ≠ k) : hw_up σ k i x q = σ q := by simp [hw_up, h]
theorem hw_up_v (σ : hw_M) (k : hw_P) (i x j : Nat) : hw_up σ k i x k j = if j = i then x else σ k j := by simp [hw_up, va_up]
def hw_A (ad : hw_P → Nat) (ok : hw_P → Prop) : Nat → Prop := fun q => ∃ k, ok k ∧ ad k = q
def hw_w (D : va_G) (E : hw_E) (ad : hw_P → Nat) (ok : hw_P → Prop) (σ : hw_M) (H : Heap) : Prop :=
  (∀ k, ok k → va_at D CLS (ad k, E k (σ k)) H) ∧ (∀ j k, ok j → ok k → ad j = ad k → j = k) ∧ ∀ k i, σ k i < 2147483648
def hw_v (D : va_G) (E : hw_E) (ad : hw_P → Nat) (ok : hw_P → Prop) (A : Nat → Prop) (σ : hw_M) (H0 H : Heap) (locs : List Loc) : Prop :=
  hw_w D E ad ok σ H ∧ (∀ k, ok k → A (ad k)) ∧ va_S A H0 H locs
/-- what every row of a walk needs: the machine, the method's bytes, its class, the tables' words, the classes -/
def hw_x (p : Program) (c : Code) (s : State) (m : MethodId) (args : Array Value) (cc : ByteArray) (nL : Nat) (own : String) (D : va_G) (T : List (ClassId × FieldType)) : Prop :=
  CallFix p m c cc nL s args WALL own ∧ va_K D CLS T s
theorem hw_keep {D : va_G} {E : hw_E} {ad : hw_P → Nat} {ok : hw_P → Prop} {σ : hw_M} {H H1 : Heap} (h : hw_w D E ad ok σ H) {k : hw_P} (ho : ok k) {i x : Nat} (hx : x < 2147483648)
    (hk : va_at D CLS (ad k, E k (va_up (σ k) i x)) H1) (oq : ∀ q : Nat, q ≠ ad k → H1[q]? = H[q]?) : hw_w D E ad ok (hw_up σ k i x) H1 := by
  refine ⟨fun j hj => ?_, h.2.1, fun q n => ?_⟩
  · by_cases e : j = k
    · subst e
      have e2 : hw_up σ j i x j = va_up (σ j) i x := by simp [hw_up]
      rw [e2]
      exact hk
    · rw [hw_up_k σ i x e]
      exact (h.1 j hj).kept (oq _ (fun z => e (h.2.1 j k hj ho z)))
  · unfold hw_up
    split
    · unfold va_up
      split
      · exact hx
      · exact h.2.2 _ _
    · exact h.2.2 _ _
section
variable {p : Program} {l : Launch} {e : Env} {R : Room} {s : State} {m : MethodId} {args : Array Value} {below : List Frame} {meth : Method} {c : Code} {H : Heap} {locs : List Loc} {cells slots : Nat} {Q : State → Prop}
variable {cc : ByteArray} {nL pc : Nat} {own : String} {ls : Array Slot} {rest : List Value} {D : va_G} {T : List (ClassId × FieldType)} {E : hw_E} {ad : hw_P → Nat} {ok : hw_P → Prop} {A : Nat → Prop} {σ : hw_M} {H0 : Heap}
theorem hw_cell (V : hw_v D E ad ok A σ H0 H locs) {k : hw_P} (ho : ok k) {x : va_E} (he : E k (σ k) = x) : va_P D CLS [(ad k, x)] H := by
  intro i q hq
  cases i with
  | zero =>
    have e : (ad k, x) = q := Option.some.inj hq
    rw [← e, ← he]
    exact V.1.1 k ho
  | succ i => simp at hq
/-- a field is read -/
theorem hw_get (X : hw_x p c s m args cc nL own D T) (V : hw_v D E ad ok A σ H0 H locs) {k : hw_P} (ho : ok k) {C ref : String} {Tb : u_T} {Nf ci index : Nat} {fs : List Value} {v : Value} (he : E k (σ k) = .inr (ci, fs)) (hc : CLS[ci]? = some (C, Tb, Nf))
    (hin : ∀ w ∈ u_ws C Tb Nf, w ∈ WALL) (f : Nat) (hf : f < Nf) (hlink : Cond.fieldLink own index ref (Tb f).2.1 (Tb f).2.2.1 ∈ WALL) (hsame : (Tb f).1 = ref) (hv : fs[f]? = some v) (hdg : decode cc pc = .ok (.getfield index, 3))
    (kk : W p l e R s m args below meth c H locs cells slots Q (F0 m (pc + 3) ls (v :: rest))) : W p l e R s m args below meth c H locs cells slots Q (F0 m pc ls (.ref (ad k) :: rest)) :=
  va_get (D := D) (ci := ci) (v := v) (C := C) (T := Tb) (N := Nf) X.1.1 X.1.2.1 X.1.2.2.2.2 hin X.1.2.2.2.1 X.2 (hw_cell V ho he) 0 rfl hc f hf (X.1.2.2.2.2 _ hlink) (fun _ h => by rw [← hsame]; exact h) hv hdg kk
/-- a number in a field is written -/
theorem hw_put (X : hw_x p c s m args cc nL own D T) (V : hw_v D E ad ok A σ H0 H locs) {k : hw_P} (ho : ok k) {C ref : String} {Tb : u_T} {Nf ci index x : Nat} {fs : List Value} (he : E k (σ k) = .inr (ci, fs)) (hc : CLS[ci]? = some (C, Tb, Nf))
    (hin : ∀ w ∈ u_ws C Tb Nf, w ∈ WALL) (ty0 : Nat → FieldType) (hty : ∀ k, k < Nf → parseFieldDescriptor (Tb k).2.2.1 = some (ty0 k)) (hnm : ∀ a, a < Nf → ∀ b, b < Nf → a ≠ b → (Tb a).2.1 ≠ (Tb b).2.1)
    (f : Nat) (hf : f < Nf) (hlink : Cond.fieldLink own index ref (Tb f).2.1 (Tb f).2.2.1 ∈ WALL) (hsame : (Tb f).1 = ref) (hfin : (Tb f).2.2.2 = false) {ty : FieldType} (hd : parseFieldDescriptor (Tb f).2.2.1 = some ty) (hn : narrow ty (.int (nI x)) = .int (nI x)) (hfit : fits ty (.int (nI x)) = true) (hl : f < fs.length) (hx : x < 2147483648)
    (he2 : E k (va_up (σ k) f x) = .inr (ci, fs.set f (.int (nI x)))) (hdg : decode cc pc = .ok (.putfield index, 3))
    (kk : ∀ (H1 : Heap) (locs1 : List Loc), hw_v D E ad ok A (hw_up σ k f x) H0 H1 locs1 → W p l e R s m args below meth c H1 locs1 cells slots Q (F0 m (pc + 3) ls rest)) : W p l e R s m args below meth c H locs cells slots Q (F0 m pc ls (.int (nI x) :: .ref (ad k) :: rest)) := by
  have hts := X.1.2.2.2.2
  have hK := X.2
  have hap := va_apart (own := own) hts hin ty0 hty hnm hK hc
  have hcell := V.1.1 k ho
  rw [he] at hcell
  obtain ⟨r, h1, cell, q1, q2, q3, q4⟩ := hcell
  have hr : r = (C, Tb, Nf) := Option.some.inj (h1.symm.trans hc)
  subst hr
  obtain ⟨hS, hfc, kC, hkC, hkind⟩ := hK.1 ci _ hc
  obtain ⟨cf, kf, fi, f0, hi, hsl⟩ := hS f hf
  have hlay := hts _ (hin _ (u_in_lay hf))
  unfold u_lay at hlay
  rw [if_neg (by rw [hfin]; decide)] at hlay
  have hst := (u_facts hfc hkC (u_lays hts hin hf) hi).1
  have h6 := u_store hfc hkC hkind hlay hi hd hn hfit
  subst hsame
  refine W.putK X.1.1 X.1.2.1 (f := f0) ⟨X.1.2.2.2.1, hts _ hlink, ⟨_, _, _, hi⟩, hst⟩ (by rw [q2]; exact h6) q1 q3 (by rw [hsl]; exact k2_hasslot (q4 f hf)) rfl rfl hdg fun H' e1 e2 e3 => ?_
  rw [hsl] at e1 ⊢
  refine kk H' _ ⟨hw_keep V.1 ho hx ?_ e3, V.2.1, V.2.2.put e2 e3 (V.2.1 k ho)⟩
  rw [he2]
  exact ⟨_, hc, t_OB.to (V := updV (vp_V fs) f (.int (nI x))) ⟨_, e1, q2, q3, t_set q4 hap hf (.int (nI x))⟩ (fun j _ => vp_updV_set hl (.int (nI x)) j)⟩
theorem hw_iald (X : hw_x p c s m args cc nL own D T) (V : hw_v D E ad ok A σ H0 H locs) {k : hw_P} (ho : ok k) {cA : ClassId} {n i : Nat} (t0 : Nat) (he : E k (σ k) = .inl (cA, n, .inl (fun j => nI (σ k j)))) (ht : T[t0]? = some (cA, .int)) (hi : i < n) (hn : n < 2147483648) (hdg : decode cc pc = .ok (.iaload, 1))
    (kk : W p l e R s m args below meth c H locs cells slots Q (F0 m (pc + 1) ls (.int (nI (σ k i)) :: rest))) : W p l e R s m args below meth c H locs cells slots Q (F0 m pc ls (.int (nI i) :: .ref (ad k) :: rest)) := by
  refine va_iald X.1.1 X.1.2.1 X.2 (hw_cell V ho he) 0 t0 rfl ht (vp_in_nI hi hn) hdg ?_
  rw [nI_clamp (show i < 2 ^ 31 by omega)]
  exact kk
theorem hw_zald (X : hw_x p c s m args cc nL own D T) (V : hw_v D E ad ok A σ H0 H locs) {k : hw_P} (ho : ok k) {cA : ClassId} {n i : Nat} (t0 : Nat) (he : E k (σ k) = .inl (cA, n, .inl (fun j => nI (σ k j)))) (ht : T[t0]? = some (cA, .boolean)) (hi : i < n) (hn : n < 2147483648) (hdg : decode cc pc = .ok (.baload, 1))
    (kk : W p l e R s m args below meth c H locs cells slots Q (F0 m (pc + 1) ls (.int (nI (σ k i)) :: rest))) : W p l e R s m args below meth c H locs cells slots Q (F0 m pc ls (.int (nI i) :: .ref (ad k) :: rest)) := by
  refine va_zald X.1.1 X.1.2.1 X.2 (hw_cell V ho he) 0 t0 rfl ht (vp_in_nI hi hn) hdg ?_
  rw [nI_clamp (show i < 2 ^ 31 by omega)]
  exact kk
theorem hw_alen (X : hw_x p c s m args cc nL own D T) (V : hw_v D E ad ok A σ H0 H locs) {k : hw_P} (ho : ok k) {cA : ClassId} {x : vp_A} {ty : FieldType} (t0 : Nat) (he : E k (σ k) = .inl (cA, x)) (ht : T[t0]? = some (cA, ty)) (hdg : decode cc pc = .ok (.arraylength, 1))
    (kk : W p l e R s m args below meth c H locs cells slots Q (F0 m (pc + 1) ls (.int (nI x.1) :: rest))) : W p l e R s m args below meth c H locs cells slots Q (F0 m pc ls (.ref (ad k) :: rest)) :=
  va_alen X.1.1 X.1.2.1 X.2 (hw_cell V ho he) 0 t0 rfl ht rfl hdg kk
/-- a reference in an array of references, which stays as it is -/
theorem hw_aald (X : hw_x p c s m args cc nL own D T) (V : hw_v D E ad ok A σ H0 H locs) {k : hw_P} (ho : ok k) {cA : ClassId} {n i b : Nat} {g : Nat → Option Nat} {ty : FieldType} (t0 : Nat) (he : E k (σ k) = .inl (cA, n, .inr (.inr (.inr (.inr g))))) (ht : T[t0]? = some (cA, ty)) (hty : ty.isReference = true) (hi : i < n) (hn : n < 2147483648) (hg : g i = some b) (hdg : decode cc pc = .ok (.aaload, 1))
    (kk : W p l e R s m args below meth c H locs cells slots Q (F0 m (pc + 1) ls (.ref b :: rest))) : W p l e R s m args below meth c H locs cells slots Q (F0 m pc ls (.int (nI i) :: .ref (ad k) :: rest)) := by
  have hP := hw_cell V ho he
  have hcl : (nI i).toNatClampNeg = i := nI_clamp (show i < 2 ^ 31 by omega)
  refine W.aald (v := .ref b) (ty := ty) X.1.1 X.1.2.1 (hP 0 _ rfl) ((X.2.2 t0 _ ht).1 n (fun j => va_rf (g j))) hty (fun q => by cases q) (by show ¬ (nI i < 0 ∨ (arrV _ _ _).slots.size ≤ _); rw [arrV_size]; exact vp_in_nI hi hn) ?_ rfl rfl hdg kk
  show (arrV _ _ _).slots[_]? = _
  rw [hcl, arrV_read _ _ hi, hg]
  rfl
theorem hw_iast (X : hw_x p c s m args cc nL own D T) (V : hw_v D E ad ok A σ H0 H locs) {k : hw_P} (ho : ok k) {cA : ClassId} {n i x : Nat} (t0 : Nat) (he : ∀ f, E k f = .inl (cA, n, .inl (fun j => nI (f j)))) (ht : T[t0]? = some (cA, .int)) (hi : i < n) (hn : n < 2147483648) (hx : x < 2147483648) (hdg : decode cc pc = .ok (.iastore, 1))
    (kk : ∀ (H1 : Heap) (locs1 : List Loc), hw_v D E ad ok A (hw_up σ k i x) H0 H1 locs1 → W p l e R s m args below meth c H1 locs1 cells slots Q (F0 m (pc + 1) ls rest)) : W p l e R s m args below meth c H locs cells slots Q (F0 m pc ls (.int (nI x) :: .int (nI i) :: .ref (ad k) :: rest)) := by
  have hP := hw_cell V ho (he (σ k))
  have hcl : (nI i).toNatClampNeg = i := nI_clamp (show i < 2 ^ 31 by omega)
  refine W.iast X.1.1 X.1.2.1 (hP 0 _ rfl) ((X.2.2 t0 _ ht).1 n (fun j => .int (nI (σ k j)))) (fun q => by cases q) (by show ¬ (nI i < 0 ∨ (arrV _ _ _).slots.size ≤ _); rw [arrV_size]; exact vp_in_nI hi hn) rfl rfl hdg fun H1 e z oq => ?_
  refine kk H1 _ ⟨hw_keep V.1 ho hx ?_ oq, V.2.1, V.2.2.put z oq (V.2.1 k ho)⟩
  rw [he]
  show H1[ad k]? = some (vp_cell _ _)
  rw [e]
  rw [vp_cell_i, vp_cell_i, arrV_store, hcl]
  congr 2
  funext q
  by_cases hq : q = i
  · subst hq
    simp [updV, va_up]
  · simp [updV, va_up, hq]
theorem hw_zast (X : hw_x p c s m args cc nL own D T) (V : hw_v D E ad ok A σ H0 H locs) {k : hw_P} (ho : ok k) {cA : ClassId} {n i x : Nat} (t0 : Nat) (he : ∀ f, E k f = .inl (cA, n, .inl (fun j => nI (f j)))) (ht : T[t0]? = some (cA, .boolean)) (hi : i < n) (hn : n < 2147483648) (hx : x < 2) (hdg : decode cc pc = .ok (.bastore, 1))
    (kk : ∀ (H1 : Heap) (locs1 : List Loc), hw_v D E ad ok A (hw_up σ k i x) H0 H1 locs1 → W p l e R s m args below meth c H1 locs1 cells slots Q (F0 m (pc + 1) ls rest)) : W p l e R s m args below meth c H locs cells slots Q (F0 m pc ls (.int (nI x) :: .int (nI i) :: .ref (ad k) :: rest)) := by
  have hP := hw_cell V ho (he (σ k))
  have hcl : (nI i).toNatClampNeg = i := nI_clamp (show i < 2 ^ 31 by omega)
  have hnx : narrow .boolean (.int (nI x)) = .int (nI x) := by
    rcases (show x = 0 ∨ x = 1 by omega) with rfl | rfl <;> decide
  refine W.zast X.1.1 X.1.2.1 (hP 0 _ rfl) ((X.2.2 t0 _ ht).1 n (fun j => .int (nI (σ k j)))) (fun q => by cases q) (by show ¬ (nI i < 0 ∨ (arrV _ _ _).slots.size ≤ _); rw [arrV_size]; exact vp_in_nI hi hn) rfl rfl hdg fun H1 e z oq => ?_
  refine kk H1 _ ⟨hw_keep V.1 ho (by omega) ?_ oq, V.2.1, V.2.2.put z oq (V.2.1 k ho)⟩
  rw [he]
  show H1[ad k]? = some (vp_cell _ _)
  rw [e]
  rw [vp_cell_i, vp_cell_i, arrV_store, hcl]
  congr 2
  funext q
  by_cases hq : q = i
  · subst hq
    simp [updV, va_up, hnx]
  · simp [updV, va_up, hq]
/-! arithmetic on numbers that are natural -/
theorem nw_iconst (X : hw_x p c s m args cc nL own D T) {n : Int} (k : Nat) (hdg : decode cc pc = .ok (.iconst n, 1)) (hv : Int32.ofInt n = nI k)
    (kk : W p l e R s m args below meth c H locs cells slots Q (F0 m (pc + 1) ls (.int (nI k) :: rest))) : W p l e R s m args below meth c H locs cells slots Q (F0 m pc ls rest) := lv_iconst X.1.1 X.1.2.1 hdg hv kk
theorem nw_iconstv (X : hw_x p c s m args cc nL own D T) {n : Int} (v : Int32) (hdg : decode cc pc = .ok (.iconst n, 1)) (hv : Int32.ofInt n = v)
    (kk : W p l e R s m args below meth c H locs cells slots Q (F0 m (pc + 1) ls (.int v :: rest))) : W p l e R s m args below meth c H locs cells slots Q (F0 m pc ls rest) := lv_iconst X.1.1 X.1.2.1 hdg hv kk
theorem nw_bipush (X : hw_x p c s m args cc nL own D T) {n : Int} (k : Nat) (hdg : decode cc pc = .ok (.bipush n, 2)) (hv : (Int8.ofInt n).toInt32 = nI k)
    (kk : W p l e R s m args below meth c H locs cells slots Q (F0 m (pc + 2) ls (.int (nI k) :: rest))) : W p l e R s m args below meth c H locs cells slots Q (F0 m pc ls rest) := lv_bipush X.1.1 X.1.2.1 hdg hv kk
theorem nw_sipush (X : hw_x p c s m args cc nL own D T) {n : Int} (k : Nat) (hdg : decode cc pc = .ok (.sipush n, 3)) (hv : (Int16.ofInt n).toInt32 = nI k)
    (kk : W p l e R s m args below meth c H locs cells slots Q (F0 m (pc + 3) ls (.int (nI k) :: rest))) : W p l e R s m args below meth c H locs cells slots Q (F0 m pc ls rest) := lv_sipush X.1.1 X.1.2.1 hdg hv kk
theorem nw_iload_n (X : hw_x p c s m args cc nL own D T) {k : Fin 4} {i : Nat} {x : Int32} (hdg : decode cc pc = .ok (.iload_n k, 1)) (hi : (k : Nat) = i) (hl : ls[i]? = some (.val (.int x)))
    (kk : W p l e R s m args below meth c H locs cells slots Q (F0 m (pc + 1) ls (.int x :: rest))) : W p l e R s m args below meth c H locs cells slots Q (F0 m pc ls rest) := lv_iload_n X.1.1 X.1.2.1 hdg hi hl kk
theorem nw_iload (X : hw_x p c s m args cc nL own D T) {i : Nat} {x : Int32} (hdg : decode cc pc = .ok (.iload i, 2)) (hl : ls[i]? = some (.val (.int x)))
    (kk : W p l e R s m args below meth c H locs cells slots Q (F0 m (pc + 2) ls (.int x :: rest))) : W p l e R s m args below meth c H locs cells slots Q (F0 m pc ls rest) := lv_iload X.1.1 X.1.2.1 hdg hl kk
theorem nw_aload_n (X : hw_x p c s m args cc nL own D T) {k : Fin 4} {i x : Nat} (hdg : decode cc pc = .ok (.aload_n k, 1)) (hi : (k : Nat) = i) (hl : ls[i]? = some (.val (.ref x)))
    (kk : W p l e R s m args below meth c H locs cells slots Q (F0 m (pc + 1) ls (.ref x :: rest))) : W p l e R s m args below meth c H locs cells slots Q (F0 m pc ls rest) := lv_aload_n X.1.1 X.1.2.1 hdg hi hl kk
theorem nw_aload (X : hw_x p c s m args cc nL own D T) {i x : Nat} (hdg : decode cc pc = .ok (.aload i, 2)) (hl : ls[i]? = some (.val (.ref x)))
    (kk : W p l e R s m args below meth c H locs cells slots Q (F0 m (pc + 2) ls (.ref x :: rest))) : W p l e R s m args below meth c H locs cells slots Q (F0 m pc ls rest) := lv_aload X.1.1 X.1.2.1 hdg hl kk
theorem nw_istore_n (X : hw_x p c s m args cc nL own D T) {k : Fin 4} {i : Nat} {x : Int32} {lv lv' : List (Nat × Value)} (hdg : decode cc pc = .ok (.istore_n k, 1)) (hi : (k : Nat) = i) (h : lv_has ls nL lv) (hn : i < nL) (hl : (i, Value.int x) :: lv.filter (fun q => !(q.1 == i) && !(q.1 + 1 == i && q.2.category == 2)) = lv')
    (kk : ∀ ls' : Array Slot, lv_has ls' nL lv' → W p l e R s m args below meth c H locs cells slots Q (F0 m (pc + 1) ls' rest)) : W p l e R s m args below meth c H locs cells slots Q (F0 m pc ls (.int x :: rest)) := lv_istore_n X.1.1 X.1.2.1 hdg hi h hn hl kk
theorem nw_istore (X : hw_x p c s m args cc nL own D T) {i : Nat} {x : Int32} {lv lv' : List (Nat × Value)} (hdg : decode cc pc = .ok (.istore i, 2)) (h : lv_has ls nL lv) (hn : i < nL) (hl : (i, Value.int x) :: lv.filter (fun q => !(q.1 == i) && !(q.1 + 1 == i && q.2.category == 2)) = lv')
    (kk : ∀ ls' : Array Slot, lv_has ls' nL lv' → W p l e R s m args below meth c H locs cells slots Q (F0 m (pc + 2) ls' rest)) : W p l e R s m args below meth c H locs cells slots Q (F0 m pc ls (.int x :: rest)) := lv_istore X.1.1 X.1.2.1 hdg h hn hl kk
theorem nw_astore_n (X : hw_x p c s m args cc nL own D T) {k : Fin 4} {i x : Nat} {lv lv' : List (Nat × Value)} (hdg : decode cc pc = .ok (.astore_n k, 1)) (hi : (k : Nat) = i) (h : lv_has ls nL lv) (hn : i < nL) (hl : (i, Value.ref x) :: lv.filter (fun q => !(q.1 == i) && !(q.1 + 1 == i && q.2.category == 2)) = lv')
    (kk : ∀ ls' : Array Slot, lv_has ls' nL lv' → W p l e R s m args below meth c H locs cells slots Q (F0 m (pc + 1) ls' rest)) : W p l e R s m args below meth c H locs cells slots Q (F0 m pc ls (.ref x :: rest)) := lv_astore_n X.1.1 X.1.2.1 hdg hi h hn hl kk
theorem nw_astore (X : hw_x p c s m args cc nL own D T) {i x : Nat} {lv lv' : List (Nat × Value)} (hdg : decode cc pc = .ok (.astore i, 2)) (h : lv_has ls nL lv) (hn : i < nL) (hl : (i, Value.ref x) :: lv.filter (fun q => !(q.1 == i) && !(q.1 + 1 == i && q.2.category == 2)) = lv')
    (kk : ∀ ls' : Array Slot, lv_has ls' nL lv' → W p l e R s m args below meth c H locs cells slots Q (F0 m (pc + 2) ls' rest)) : W p l e R s m args below meth c H locs cells slots Q (F0 m pc ls (.ref x :: rest)) := lv_astore X.1.1 X.1.2.1 hdg h hn hl kk
theorem nw_iinc (X : hw_x p c s m args cc nL own D T) {i k a : Nat} {n : Int} (b : Nat) {lv lv' : List (Nat × Value)} (hdg : decode cc pc = .ok (.iinc i n, 3)) (h : lv_has ls nL lv) (hk : lv[k]? = some (i, .int (nI a))) (hb : Int32.ofInt n = nI b) (hn : i < nL) (hl : (i, Value.int (nI (a + b))) :: lv.filter (fun q => !(q.1 == i) && !(q.1 + 1 == i && q.2.category == 2)) = lv')
    (kk : ∀ ls' : Array Slot, lv_has ls' nL lv' → W p l e R s m args below meth c H locs cells slots Q (F0 m (pc + 3) ls' rest)) : W p l e R s m args below meth c H locs cells slots Q (F0 m pc ls rest) :=
  lv_iinc X.1.1 X.1.2.1 hdg h hk (by rw [hb, nI_add]) hn hl kk
/-- one less: a may be 0 -/
theorem nw_idec (X : hw_x p c s m args cc nL own D T) {i k a : Nat} {lv lv' : List (Nat × Value)} (hdg : decode cc pc = .ok (.iinc i (-1), 3)) (h : lv_has ls nL lv) (hk : lv[k]? = some (i, .int (nI a))) (hn : i < nL) (hl : (i, Value.int (nI a - 1)) :: lv.filter (fun q => !(q.1 == i) && !(q.1 + 1 == i && q.2.category == 2)) = lv')
    (kk : ∀ ls' : Array Slot, lv_has ls' nL lv' → W p l e R s m args below meth c H locs cells slots Q (F0 m (pc + 3) ls' rest)) : W p l e R s m args below meth c H locs cells slots Q (F0 m pc ls rest) :=
  lv_iinc X.1.1 X.1.2.1 hdg h hk (by rw [Int32.sub_eq_add_neg]; rfl) hn hl kk
theorem nw_iadd (X : hw_x p c s m args cc nL own D T) {a b : Nat} (hdg : decode cc pc = .ok (.iadd, 1))
    (kk : W p l e R s m args below meth c H locs cells slots Q (F0 m (pc + 1) ls (.int (nI (a + b)) :: rest))) : W p l e R s m args below meth c H locs cells slots Q (F0 m pc ls (.int (nI b) :: .int (nI a) :: rest)) := lv_iadd X.1.1 X.1.2.1 hdg (by rw [nI_add]; exact kk)
theorem nw_isub (X : hw_x p c s m args cc nL own D T) {a b : Nat} (h : b ≤ a) (hdg : decode cc pc = .ok (.isub, 1))
    (kk : W p l e R s m args below meth c H locs cells slots Q (F0 m (pc + 1) ls (.int (nI (a - b)) :: rest))) : W p l e R s m args below meth c H locs cells slots Q (F0 m pc ls (.int (nI b) :: .int (nI a) :: rest)) := lv_isub X.1.1 X.1.2.1 hdg (by rw [pk_sub h]; exact kk)
theorem nw_imul (X : hw_x p c s m args cc nL own D T) {a b : Nat} (hdg : decode cc pc = .ok (.imul, 1))
    (kk : W p l e R s m args below meth c H locs cells slots Q (F0 m (pc + 1) ls (.int (nI (a * b)) :: rest))) : W p l e R s m args below meth c H locs cells slots Q (F0 m pc ls (.int (nI b) :: .int (nI a) :: rest)) := lv_imul X.1.1 X.1.2.1 hdg (by rw [pk_mul]; exact kk)
theorem nw_idiv (X : hw_x p c s m args cc nL own D T) {a b : Nat} (ha : a < 2147483648) (h0 : 0 < b) (hb : b < 2147483648) (hdg : decode cc pc = .ok (.idiv, 1))
    (kk : W p l e R s m args below meth c H locs cells slots Q (F0 m (pc + 1) ls (.int (nI (a / b)) :: rest))) : W p l e R s m args below meth c H locs cells slots Q (F0 m pc ls (.int (nI b) :: .int (nI a) :: rest)) := lv_idiv X.1.1 X.1.2.1 hdg (nI_ne0 h0 hb) (by rw [pk_div ha h0 hb]; exact kk)
theorem nw_irem (X : hw_x p c s m args cc nL own D T) {a b : Nat} (ha : a < 2147483648) (h0 : 0 < b) (hb : b < 2147483648) (hdg : decode cc pc = .ok (.irem, 1))
    (kk : W p l e R s m args below meth c H locs cells slots Q (F0 m (pc + 1) ls (.int (nI (a % b)) :: rest))) : W p l e R s m args below meth c H locs cells slots Q (F0 m pc ls (.int (nI b) :: .int (nI a) :: rest)) := lv_irem X.1.1 X.1.2.1 hdg (nI_ne0 h0 hb) (by rw [pk_rem ha h0 hb]; exact kk)
theorem nw_dup (X : hw_x p c s m args cc nL own D T) {va : Value} (hdg : decode cc pc = .ok (.dup, 1)) (hva : va.category = 1)
    (kk : W p l e R s m args below meth c H locs cells slots Q (F0 m (pc + 1) ls (va :: va :: rest))) : W p l e R s m args below meth c H locs cells slots Q (F0 m pc ls (va :: rest)) := lv_dup X.1.1 X.1.2.1 hdg hva kk
theorem nw_pop (X : hw_x p c s m args cc nL own D T) {va : Value} (hdg : decode cc pc = .ok (.pop, 1)) (hva : va.category = 1)
    (kk : W p l e R s m args below meth c H locs cells slots Q (F0 m (pc + 1) ls rest)) : W p l e R s m args below meth c H locs cells slots Q (F0 m pc ls (va :: rest)) := lv_pop X.1.1 X.1.2.1 hdg hva kk
theorem nw_goto (X : hw_x p c s m args cc nL own D T) {off : Int} {tgt : Nat} (hdg : decode cc pc = .ok (.goto off, 3)) (ht : (pc : Int) + off = (tgt : Int))
    (kk : W p l e R s m args below meth c H locs cells slots Q (F0 m tgt ls rest)) : W p l e R s m args below meth c H locs cells slots Q (F0 m pc ls rest) := lv_goto X.1.1 X.1.2.1 hdg ht kk
theorem nw_icmp_eq (X : hw_x p c s m args cc nL own D T) {a b : Nat} {off : Int} {tgt : Nat} (hdg : decode cc pc = .ok (.if_icmp .eq off, 3)) (ht : (pc : Int) + off = (tgt : Int)) (ha : a < 2147483648) (hb : b < 2147483648)
    (kt : a = b → W p l e R s m args below meth c H locs cells slots Q (F0 m tgt ls rest)) (kf : a ≠ b → W p l e R s m args below meth c H locs cells slots Q (F0 m (pc + 3) ls rest)) : W p l e R s m args below meth c H locs cells slots Q (F0 m pc ls (.int (nI b) :: .int (nI a) :: rest)) :=
  lv_icmp_eq X.1.1 X.1.2.1 hdg ht (fun h => kt ((nI_eq ha hb).mp h)) (fun h => kf (fun z => h ((nI_eq ha hb).mpr z)))
theorem nw_icmp_ne (X : hw_x p c s m args cc nL own D T) {a b : Nat} {off : Int} {tgt : Nat} (hdg : decode cc pc = .ok (.if_icmp .ne off, 3)) (ht : (pc : Int) + off = (tgt : Int)) (ha : a < 2147483648) (hb : b < 2147483648)
    (kt : a ≠ b → W p l e R s m args below meth c H locs cells slots Q (F0 m tgt ls rest)) (kf : a = b → W p l e R s m args below meth c H locs cells slots Q (F0 m (pc + 3) ls rest)) : W p l e R s m args below meth c H locs cells slots Q (F0 m pc ls (.int (nI b) :: .int (nI a) :: rest)) :=
  lv_icmp_ne X.1.1 X.1.2.1 hdg ht (fun h => kt (fun z => h ((nI_eq ha hb).mpr z))) (fun h => kf ((nI_eq ha hb).mp h))
theorem nw_icmp_lt (X : hw_x p c s m args cc nL own D T) {a b : Nat} {off : Int} {tgt : Nat} (hdg : decode cc pc = .ok (.if_icmp .lt off, 3)) (ht : (pc : Int) + off = (tgt : Int)) (ha : a < 2147483648) (hb : b < 2147483648)
    (kt : a < b → W p l e R s m args below meth c H locs cells slots Q (F0 m tgt ls rest)) (kf : b ≤ a → W p l e R s m args below meth c H locs cells slots Q (F0 m (pc + 3) ls rest)) : W p l e R s m args below meth c H locs cells slots Q (F0 m pc ls (.int (nI b) :: .int (nI a) :: rest)) :=
  lv_icmp_lt X.1.1 X.1.2.1 hdg ht (fun h => kt ((nI_ltI ha hb).mp h)) (fun h => kf (Nat.le_of_not_lt fun z => h ((nI_ltI ha hb).mpr z)))
theorem nw_icmp_ge (X : hw_x p c s m args cc nL own D T) {a b : Nat} {off : Int} {tgt : Nat} (hdg : decode cc pc = .ok (.if_icmp .ge off, 3)) (ht : (pc : Int) + off = (tgt : Int)) (ha : a < 2147483648) (hb : b < 2147483648)
    (kt : b ≤ a → W p l e R s m args below meth c H locs cells slots Q (F0 m tgt ls rest)) (kf : a < b → W p l e R s m args below meth c H locs cells slots Q (F0 m (pc + 3) ls rest)) : W p l e R s m args below meth c H locs cells slots Q (F0 m pc ls (.int (nI b) :: .int (nI a) :: rest)) :=
  lv_icmp_ge X.1.1 X.1.2.1 hdg ht (fun h => kt ((nI_leI hb ha).mp h)) (fun h => kf (Nat.lt_of_not_le fun z => h ((nI_leI hb ha).mpr z)))
theorem nw_icmp_gt (X : hw_x p c s m args cc nL own D T) {a b : Nat} {off : Int} {tgt : Nat} (hdg : decode cc pc = .ok (.if_icmp .gt off, 3)) (ht : (pc : Int) + off = (tgt : Int)) (ha : a < 2147483648) (hb : b < 2147483648)
    (kt : b < a → W p l e R s m args below meth c H locs cells slots Q (F0 m tgt ls rest)) (kf : a ≤ b → W p l e R s m args below meth c H locs cells slots Q (F0 m (pc + 3) ls rest)) : W p l e R s m args below meth c H locs cells slots Q (F0 m pc ls (.int (nI b) :: .int (nI a) :: rest)) :=
  lv_icmp_gt X.1.1 X.1.2.1 hdg ht (fun h => kt ((nI_ltI hb ha).mp h)) (fun h => kf (Nat.le_of_not_lt fun z => h ((nI_ltI hb ha).mpr z)))
theorem nw_icmp_le (X : hw_x p c s m args cc nL own D T) {a b : Nat} {off : Int} {tgt : Nat} (hdg : decode cc pc = .ok (.if_icmp .le off, 3)) (ht : (pc : Int) + off = (tgt : Int)) (ha : a < 2147483648) (hb : b < 2147483648)
    (kt : a ≤ b → W p l e R s m args below meth c H locs cells slots Q (F0 m tgt ls rest)) (kf : b < a → W p l e R s m args below meth c H locs cells slots Q (F0 m (pc + 3) ls rest)) : W p l e R s m args below meth c H locs cells slots Q (F0 m pc ls (.int (nI b) :: .int (nI a) :: rest)) :=
  lv_icmp_le X.1.1 X.1.2.1 hdg ht (fun h => kt ((nI_leI ha hb).mp h)) (fun h => kf (Nat.lt_of_not_le fun z => h ((nI_leI ha hb).mpr z)))
theorem nw_if_eq (X : hw_x p c s m args cc nL own D T) {a : Nat} {off : Int} {tgt : Nat} (hdg : decode cc pc = .ok (.ifCond .eq off, 3)) (ht : (pc : Int) + off = (tgt : Int)) (ha : a < 2147483648)
    (kt : a = 0 → W p l e R s m args below meth c H locs cells slots Q (F0 m tgt ls rest)) (kf : a ≠ 0 → W p l e R s m args below meth c H locs cells slots Q (F0 m (pc + 3) ls rest)) : W p l e R s m args below meth c H locs cells slots Q (F0 m pc ls (.int (nI a) :: rest)) :=
  lv_if_eq X.1.1 X.1.2.1 hdg ht (fun h => kt ((nI_eq ha (by decide)).mp (h.trans nI_0.symm))) (fun h => kf (fun z => h (by rw [z]; rfl)))
theorem nw_if_ne (X : hw_x p c s m args cc nL own D T) {a : Nat} {off : Int} {tgt : Nat} (hdg : decode cc pc = .ok (.ifCond .ne off, 3)) (ht : (pc : Int) + off = (tgt : Int)) (ha : a < 2147483648)
    (kt : a ≠ 0 → W p l e R s m args below meth c H locs cells slots Q (F0 m tgt ls rest)) (kf : a = 0 → W p l e R s m args below meth c H locs cells slots Q (F0 m (pc + 3) ls rest)) : W p l e R s m args below meth c H locs cells slots Q (F0 m pc ls (.int (nI a) :: rest)) :=
  lv_if_ne X.1.1 X.1.2.1 hdg ht (fun h => kt (fun z => h (by rw [z]; rfl))) (fun h => kf ((nI_eq ha (by decide)).mp (h.trans nI_0.symm)))
theorem nw_if_le (X : hw_x p c s m args cc nL own D T) {a : Nat} {off : Int} {tgt : Nat} (hdg : decode cc pc = .ok (.ifCond .le off, 3)) (ht : (pc : Int) + off = (tgt : Int)) (ha : a < 2147483648)
    (kt : a = 0 → W p l e R s m args below meth c H locs cells slots Q (F0 m tgt ls rest)) (kf : 0 < a → W p l e R s m args below meth c H locs cells slots Q (F0 m (pc + 3) ls rest)) : W p l e R s m args below meth c H locs cells slots Q (F0 m pc ls (.int (nI a) :: rest)) :=
  lv_if_le X.1.1 X.1.2.1 hdg ht (fun h => kt (Nat.eq_zero_of_le_zero (Nat.le_of_not_lt fun z => nI_nle z ha h))) (fun h => kf (Nat.pos_of_ne_zero fun z => h (by rw [z]; decide)))
/-- a counter that has gone one below a -/
theorem nw_if_ltp (X : hw_x p c s m args cc nL own D T) {a : Nat} {off : Int} {tgt : Nat} (hdg : decode cc pc = .ok (.ifCond .lt off, 3)) (ht : (pc : Int) + off = (tgt : Int)) (ha : a < 2147483648)
    (kt : a = 0 → W p l e R s m args below meth c H locs cells slots Q (F0 m tgt ls rest)) (kf : ∀ b, a = b + 1 → W p l e R s m args below meth c H locs cells slots Q (F0 m (pc + 3) ls rest)) : W p l e R s m args below meth c H locs cells slots Q (F0 m pc ls (.int (nI a - 1) :: rest)) := by
  cases a with
  | zero => exact lv_if_lt X.1.1 X.1.2.1 hdg ht (fun _ => kt rfl) (fun h => absurd (by decide) h)
  | succ b =>
    rw [nI_pred]
    exact lv_if_lt X.1.1 X.1.2.1 hdg ht (fun h => absurd h (nI_pos (by omega))) (fun _ => kf b rfl)
theorem nw_if_lt (X : hw_x p c s m args cc nL own D T) {x : Int32} {off : Int} {tgt : Nat} (hdg : decode cc pc = .ok (.ifCond .lt off, 3)) (ht : (pc : Int) + off = (tgt : Int))
    (kt : x < 0 → W p l e R s m args below meth c H locs cells slots Q (F0 m tgt ls rest)) (kf : ¬ x < 0 → W p l e R s m args below meth c H locs cells slots Q (F0 m (pc + 3) ls rest)) : W p l e R s m args below meth c H locs cells slots Q (F0 m pc ls (.int x :: rest)) :=
  lv_if_lt X.1.1 X.1.2.1 hdg ht kt kf
end
end
section
/-! A method's start and end, and a call, over cells by place. -/
def hw_b (D : va_G) (E : hw_E) (ad : hw_P → Nat) (ok : hw_P → Prop) (T : List (ClassId × FieldType)) (σ : hw_M) (U : State) : Prop := hw_w D E ad ok σ U.heap ∧ va_K D CLS T U
/-- the words of a method: its own code, and all the words -/
abbrev hw_c (y : MethodName) (cy : ByteArray) (maxL : Nat) (ret : Option FieldType) : List Cond := .code y cy maxL ret :: WALL
/-- room for k calls one in the other -/
abbrev hw_r (k : Nat) : Room := { frames := k, cells := 0, slots := 0, locals := 40 * k }
theorem hw_blind {D : va_G} {E : hw_E} {ad : hw_P → Nat} {ok : hw_P → Prop} {T : List (ClassId × FieldType)} {σ : hw_M} {av : List Value} : FrameBlind (va_Pc av (hw_b D E ad ok T σ)) := by
  intro a U g mk q
  obtain ⟨q0, qW, qK⟩ := q
  exact ⟨q0, qW, va_K.moved (u := U) (U := U.calling g mk a) (Vm.Alike.refl U.vm) qK⟩
section
variable {l : Launch} {D : va_G} {E : hw_E} {ad : hw_P → Nat} {ok : hw_P → Prop} {T : List (ClassId × FieldType)} {σ : hw_M} {y : MethodName} {cy : ByteArray} {maxL : Nat} {rm : Room} {av : List Value}
theorem hw_meti {post : Int32 → hw_M → Prop} (hy : plainName y.cls = true) (hlen : (lg_sl av).length ≤ maxL)
    (body : ∀ (p : Program) (e : Env) (s : State) (m : MethodId) (args : Array Value) (below : List Frame) (meth : Method) (c : Code) (ls : Array Slot) (Q : State → Prop), hw_x p c s m args cy maxL y.cls D T →
      (∀ (r : Int32) (σ' : hw_M) (H' : Heap) (locs' : List Loc) (ls' : Array Slot) (pc : Nat), decode cy pc = .ok (.ireturn, 1) → hw_v D E ad ok (hw_A ad ok) σ' s.heap H' locs' → post r σ' → W p l e rm s m args below meth c H' locs' 0 0 Q (F0 m pc ls' [.int r])) →
      hw_v D E ad ok (hw_A ad ok) σ s.heap s.heap [] → lv_has ls maxL (lv_args 0 av) → W p l e rm s m args below meth c s.heap [] 0 0 Q (F0 m 0 ls [])) :
    Met l y (hw_c y cy maxL (some .int)) rm (va_Pc av (hw_b D E ad ok T σ)) (va_Qi post (hw_b D E ad ok T) (hw_A ad ok)) 0 0 (hw_A ad ok) := by
  refine Met.ofW (cc := cy) (maxL := maxL) (ret := some .int) hy rfl ?_
  intro p e s m args below meth c s₁ B hml hv
  obtain ⟨rfl, hW, hK⟩ := hv
  have hts := atoms_spec (ws := hw_c y cy maxL (some .int)) B.pre
  have hown : s.vm.findClass y.cls = some m.cls := findClass_of_methodNamed B.named
  have hlocks := B.notSynchronized
  have hl := lv_entry av (n := maxL) hlen
  rw [lg_entry_eq]
  generalize (lg_sl av ++ List.replicate (maxL - (lg_sl av).length) Slot.unset).toArray = ls at hl ⊢
  refine body p e s m _ below meth c ls _ ⟨⟨B.exec, B.bytes, hml, hown, fun w h => hts w (List.mem_cons_of_mem _ h)⟩, hK⟩ ?_ ⟨hW, fun k h => ⟨k, h, rfl⟩, va_S.rf⟩ hl
  intro r σ' H' locs' ls' pc hd V hp
  exact W.iret (v := r) B.exec B.bytes B.returns (fun t ht hWm => ⟨⟨r, σ', rfl, hp, by rw [ht]; exact V.1, va_K.moved hWm.alike hK⟩, V.2.2.F ht⟩) V.2.2.2.2 hd
theorem hw_metz {post : Nat → hw_M → Prop} (hy : plainName y.cls = true) (hlen : (lg_sl av).length ≤ maxL)
    (body : ∀ (p : Program) (e : Env) (s : State) (m : MethodId) (args : Array Value) (below : List Frame) (meth : Method) (c : Code) (ls : Array Slot) (Q : State → Prop), hw_x p c s m args cy maxL y.cls D T →
      (∀ (b : Nat) (σ' : hw_M) (H' : Heap) (locs' : List Loc) (ls' : Array Slot) (pc : Nat), decode cy pc = .ok (.ireturn, 1) → hw_v D E ad ok (hw_A ad ok) σ' s.heap H' locs' → b < 2 → post b σ' → W p l e rm s m args below meth c H' locs' 0 0 Q (F0 m pc ls' [.int (nI b)])) →
      hw_v D E ad ok (hw_A ad ok) σ s.heap s.heap [] → lv_has ls maxL (lv_args 0 av) → W p l e rm s m args below meth c s.heap [] 0 0 Q (F0 m 0 ls [])) :
    Met l y (hw_c y cy maxL (some .boolean)) rm (va_Pc av (hw_b D E ad ok T σ)) (va_Qi (fun r σ' => ∃ b, b < 2 ∧ r = nI b ∧ post b σ') (hw_b D E ad ok T) (hw_A ad ok)) 0 0 (hw_A ad ok) := by
  refine Met.ofW (cc := cy) (maxL := maxL) (ret := some .boolean) hy rfl ?_
  intro p e s m args below meth c s₁ B hml hv
  obtain ⟨rfl, hW, hK⟩ := hv
  have hts := atoms_spec (ws := hw_c y cy maxL (some .boolean)) B.pre
  have hown : s.vm.findClass y.cls = some m.cls := findClass_of_methodNamed B.named
  have hlocks := B.notSynchronized
  have hl := lv_entry av (n := maxL) hlen
  rw [lg_entry_eq]
  generalize (lg_sl av ++ List.replicate (maxL - (lg_sl av).length) Slot.unset).toArray = ls at hl ⊢
  refine body p e s m _ below meth c ls _ ⟨⟨B.exec, B.bytes, hml, hown, fun w h => hts w (List.mem_cons_of_mem _ h)⟩, hK⟩ ?_ ⟨hW, fun k h => ⟨k, h, rfl⟩, va_S.rf⟩ hl
  intro b σ' H' locs' ls' pc hd V hb hp
  have hnx : narrow .boolean (.int (nI b)) = .int (nI b) := by
    rcases (show b = 0 ∨ b = 1 by omega) with rfl | rfl <;> decide
  exact W.zret (v := nI b) B.exec B.bytes B.returns hnx (fun t ht hWm => ⟨⟨nI b, σ', rfl, ⟨b, hb, rfl, hp⟩, by rw [ht]; exact V.1, va_K.moved hWm.alike hK⟩, V.2.2.F ht⟩) V.2.2.2.2 hd
theorem hw_metv {post : hw_M → Prop} (hy : plainName y.cls = true) (hlen : (lg_sl av).length ≤ maxL)
    (body : ∀ (p : Program) (e : Env) (s : State) (m : MethodId) (args : Array Value) (below : List Frame) (meth : Method) (c : Code) (ls : Array Slot) (Q : State → Prop), hw_x p c s m args cy maxL y.cls D T →
      (∀ (σ' : hw_M) (H' : Heap) (locs' : List Loc) (ls' : Array Slot) (pc : Nat), decode cy pc = .ok (.return_, 1) → hw_v D E ad ok (hw_A ad ok) σ' s.heap H' locs' → post σ' → W p l e rm s m args below meth c H' locs' 0 0 Q (F0 m pc ls' [])) →
      hw_v D E ad ok (hw_A ad ok) σ s.heap s.heap [] → lv_has ls maxL (lv_args 0 av) → W p l e rm s m args below meth c s.heap [] 0 0 Q (F0 m 0 ls [])) :
    Met l y (hw_c y cy maxL none) rm (va_Pc av (hw_b D E ad ok T σ)) (va_Qv post (hw_b D E ad ok T) (hw_A ad ok)) 0 0 (hw_A ad ok) := by
  refine Met.ofW (cc := cy) (maxL := maxL) (ret := none) hy rfl ?_
  intro p e s m args below meth c s₁ B hml hv
  obtain ⟨rfl, hW, hK⟩ := hv
  have hts := atoms_spec (ws := hw_c y cy maxL none) B.pre
  have hown : s.vm.findClass y.cls = some m.cls := findClass_of_methodNamed B.named
  have hlocks := B.notSynchronized
  have hl := lv_entry av (n := maxL) hlen
  rw [lg_entry_eq]
  generalize (lg_sl av ++ List.replicate (maxL - (lg_sl av).length) Slot.unset).toArray = ls at hl ⊢
  refine body p e s m _ below meth c ls _ ⟨⟨B.exec, B.bytes, hml, hown, fun w h => hts w (List.mem_cons_of_mem _ h)⟩, hK⟩ ?_ ⟨hW, fun k h => ⟨k, h, rfl⟩, va_S.rf⟩ hl
  intro σ' H' locs' ls' pc hd V hp
  exact W.vret B.exec B.bytes B.returns (fun t ht hWm => ⟨⟨σ', rfl, hp, by rw [ht]; exact V.1, va_K.moved hWm.alike hK⟩, V.2.2.F ht⟩) V.2.2.2.2 hd
end
section
variable {p : Program} {l : Launch} {e : Env} {R : Room} {s : State} {m : MethodId} {args : Array Value} {below : List Frame} {meth : Method} {c : Code} {H : Heap} {locs : List Loc} {cells slots : Nat} {Q : State → Prop}
variable {cc : ByteArray} {nL pc : Nat} {own : String} {ls : Array Slot} {rest st0 : List Value} {D : va_G} {T : List (ClassId × FieldType)} {E : hw_E} {ad : hw_P → Nat} {ok : hw_P → Prop} {A : Nat → Prop} {σ : hw_M} {H0 : Heap}
variable {y : MethodName} {cy : ByteArray} {maxL n index : Nat} {rm : Room} {As : List Value} {ret : Option FieldType}
theorem hw_good : GoodIn WALL WALL := fun w hw => ⟨hw, good_of_word (List.all_eq_true.mp hw_words w hw)⟩
theorem hw_goodc (hc : Cond.code y cy maxL ret ∈ WALL) : GoodIn WALL (hw_c y cy maxL ret) := by
  intro w hw
  rcases List.mem_cons.mp hw with h | h
  · rw [h]; exact hw_good _ hc
  · exact hw_good _ h
/-- what a call's site must show, apart from the room -/
abbrev hw_s (own : String) (index : Nat) (C : String) (y : MethodName) (cy : ByteArray) (maxL : Nat) (ret : Option FieldType) (n : Nat) : Prop :=
  Cond.methodLink own index y ∈ WALL ∧ Cond.instanceMethod y ∈ WALL ∧ Cond.selects C y y ∈ WALL ∧ Cond.initialized y.cls ∈ WALL ∧ Cond.code y cy maxL ret ∈ WALL ∧ (y.cls ≠ "java/lang/invoke/MethodHandle" ∧ y.cls ≠ "java/lang/invoke/VarHandle" ∧ (parseMethodDescriptor y.desc).map (fun d => d.parameters.length) = some n)
theorem hw_cw {C : String} (X : hw_x p c s m args cc nL own D T) (h : hw_s own index C y cy maxL ret n) (hR : rm.cells = 0 ∧ rm.slots = 0 ∧ rm.frames + 1 ≤ R.frames ∧ 8 + (maxL + 11) + rm.locals ≤ R.locals) : CallW R s args own C index y cy maxL ret (hw_c y cy maxL ret) rm 0 0 n :=
  ⟨callB_of n X.1.2.2.2.2 (hw_goodc h.2.2.2.2.1) rfl hR.1 hR.2.1 (X.1.2.2.2.2 _ h.2.2.2.1) (X.1.2.2.2.2 _ h.1) h.2.2.2.2.2 ⟨hR.2.2.1, hR.2.2.2⟩, X.1.2.2.2.2 _ h.2.1, X.1.2.2.2.2 _ h.2.2.1⟩
theorem hw_Ain (V : hw_v D E ad ok A σ H0 H locs) : ∀ q, hw_A ad ok q → A q := fun q h => by obtain ⟨k, hk, e⟩ := h; rw [← e]; exact V.2.1 k hk
/-- a call of an own method that answers an int or a boolean -/
theorem hw_calli {post : Int32 → hw_M → Prop} {C : String} {Tb : u_T} {Nf ci : Nat} {fs : List Value} (X : hw_x p c s m args cc nL own D T) (V : hw_v D E ad ok A σ H0 H locs) {k : hw_P} (ho : ok k) (he : E k (σ k) = .inr (ci, fs)) (hc : CLS[ci]? = some (C, Tb, Nf))
    (hM : Met l y (hw_c y cy maxL ret) rm (va_Pc (.ref (ad k) :: As) (hw_b D E ad ok T σ)) (va_Qi post (hw_b D E ad ok T) (hw_A ad ok)) 0 0 (hw_A ad ok)) (hs : hw_s own index C y cy maxL ret n) (hR : rm.cells = 0 ∧ rm.slots = 0 ∧ rm.frames + 1 ≤ R.frames ∧ 8 + (maxL + 11) + rm.locals ≤ R.locals)
    (hn : As.length = n) (hl : ls.size = nL) (hstk : st0 = As.reverse ++ .ref (ad k) :: rest) (hroom : (rest.map fun v => v.category).sum ≤ 8) (hf : cells ≤ R.cells ∧ slots ≤ R.slots) (hdg : decode cc pc = .ok (.invokevirtual index, 3))
    (kk : ∀ (r : Int32) (σ' : hw_M) (H1 : Heap) (locs1 : List Loc), hw_v D E ad ok A σ' H0 H1 locs1 → post r σ' → W p l e R s m args below meth c H1 locs1 cells slots Q (F0 m (pc + 3) ls (.int r :: rest))) : W p l e R s m args below meth c H locs cells slots Q (F0 m pc ls st0) := by
  refine va_calli (va_runV (rest := rest) X.1 hM (hw_cw X hs hR) ⟨hw_blind, va_recv (q0 := 0) X.2 (hw_cell V ho he) hc rfl, fun U hU hW => ⟨rfl, by rw [hU]; exact V.1, va_K.moved hW.alike X.2⟩⟩ rfl hn hl hstk (lv_room hroom) hdg ⟨hf.1, hf.2⟩) V.2.2 (fun q _ h => hw_Ain V q h) (hw_Ain V) (fun r u t H1 locs1 ht hvm hp hB hz hk hS => ?_)
  have hB1 := hB.1
  rw [ht] at hB1
  exact kk r u H1 locs1 ⟨hB1, V.2.1, hS⟩ hp
theorem hw_callv {post : hw_M → Prop} {C : String} {Tb : u_T} {Nf ci : Nat} {fs : List Value} (X : hw_x p c s m args cc nL own D T) (V : hw_v D E ad ok A σ H0 H locs) {k : hw_P} (ho : ok k) (he : E k (σ k) = .inr (ci, fs)) (hc : CLS[ci]? = some (C, Tb, Nf))
    (hM : Met l y (hw_c y cy maxL ret) rm (va_Pc (.ref (ad k) :: As) (hw_b D E ad ok T σ)) (va_Qv post (hw_b D E ad ok T) (hw_A ad ok)) 0 0 (hw_A ad ok)) (hs : hw_s own index C y cy maxL ret n) (hR : rm.cells = 0 ∧ rm.slots = 0 ∧ rm.frames + 1 ≤ R.frames ∧ 8 + (maxL + 11) + rm.locals ≤ R.locals)
    (hn : As.length = n) (hl : ls.size = nL) (hstk : st0 = As.reverse ++ .ref (ad k) :: rest) (hroom : (rest.map fun v => v.category).sum ≤ 8) (hf : cells ≤ R.cells ∧ slots ≤ R.slots) (hdg : decode cc pc = .ok (.invokevirtual index, 3))
    (kk : ∀ (σ' : hw_M) (H1 : Heap) (locs1 : List Loc), hw_v D E ad ok A σ' H0 H1 locs1 → post σ' → W p l e R s m args below meth c H1 locs1 cells slots Q (F0 m (pc + 3) ls rest)) : W p l e R s m args below meth c H locs cells slots Q (F0 m pc ls st0) := by
  refine va_callv (va_runV (rest := rest) X.1 hM (hw_cw X hs hR) ⟨hw_blind, va_recv (q0 := 0) X.2 (hw_cell V ho he) hc rfl, fun U hU hW => ⟨rfl, by rw [hU]; exact V.1, va_K.moved hW.alike X.2⟩⟩ rfl hn hl hstk (lv_room hroom) hdg ⟨hf.1, hf.2⟩) V.2.2 (fun q _ h => hw_Ain V q h) (hw_Ain V) (fun u t H1 locs1 ht hvm hp hB hz hk hS => ?_)
  have hB1 := hB.1
  rw [ht] at hB1
  exact kk u H1 locs1 ⟨hB1, V.2.1, hS⟩ hp
end
end
section
/-! System.arraycopy of the first n ints of one place into another. -/
def hw_cp (σ : hw_M) (k0 k1 : hw_P) (n : Nat) : hw_M := fun q => if q = k1 then (fun j => if j < n then σ k0 j else σ k1 j) else σ q
section
variable {p : Program} {l : Launch} {e : Env} {R : Room} {s : State} {m : MethodId} {args : Array Value} {below : List Frame} {meth : Method} {c : Code} {H : Heap} {locs : List Loc} {cells slots : Nat} {Q : State → Prop}
variable {cc : ByteArray} {nL pc : Nat} {own : String} {ls : Array Slot} {rest : List Value} {D : va_G} {T : List (ClassId × FieldType)} {E : hw_E} {ad : hw_P → Nat} {ok : hw_P → Prop} {A : Nat → Prop} {σ : hw_M} {H0 : Heap}
theorem hw_copy (X : hw_x p c s m args cc nL own D T) (V : hw_v D E ad ok A σ H0 H locs) {k0 k1 : hw_P} (ho0 : ok k0) (ho1 : ok k1) {cA : ClassId} {n0 n1 n index : Nat} (t0 : Nat) (he0 : E k0 (σ k0) = .inl (cA, n0, .inl (fun j => nI (σ k0 j)))) (he1 : ∀ f, E k1 f = .inl (cA, n1, .inl (fun j => nI (f j)))) (ht : T[t0]? = some (cA, .int))
    (hlink : Cond.methodLink own index arraycopyName ∈ WALL) (hnat : Cond.native arraycopyName ∈ WALL) (hstat : Cond.static arraycopyName ∈ WALL) (hini : Cond.initialized "java/lang/System" ∈ WALL) (h4 : n ≤ n0) (h5 : n ≤ n1) (hn : n < 2147483648) (hsz : ls.size = nL)
    (hframes : 1 ≤ R.frames) (hlocals : (rest.map fun v => v.category).sum + 18 ≤ R.locals) (hdg : decode cc pc = .ok (.invokestatic index, 3))
    (kk : ∀ (H1 : Heap) (locs1 : List Loc), hw_v D E ad ok A (hw_cp σ k0 k1 n) H0 H1 locs1 → W p l e R s m args below meth c H1 locs1 cells slots Q (F0 m (pc + 3) ls rest)) :
    W p l e R s m args below meth c H locs cells slots Q (F0 m pc ls (.int (nI n) :: .int (nI 0) :: .ref (ad k1) :: .int (nI 0) :: .ref (ad k0) :: rest)) := by
  have hts := X.1.2.2.2.2
  have hc0 : H[ad k0]? = some (vp_cell cA (n0, .inl (fun j => nI (σ k0 j)))) := hw_cell V ho0 he0 0 _ rfl
  have hc1 : H[ad k1]? = some (vp_cell cA (n1, .inl (fun j => nI (σ k1 j)))) := hw_cell V ho1 (he1 (σ k1)) 0 _ rfl
  have hcl : (nI n).toNatClampNeg = n := nI_clamp hn
  have hz0 : (nI 0).toNatClampNeg = 0 := nI_clamp (by decide)
  have hti : (nI n).toInt = (n : Int) := nI_toInt hn
  have ht0 : (nI 0).toInt = ((0 : Nat) : Int) := nI_toInt (by decide)
  intro T9 hT X9
  obtain ⟨-, a0, ha0, cm0, hkk0⟩ := (X.2.2 t0 _ ht).1 n0 (fun j => .int (nI (σ k0 j)))
  obtain ⟨-, a1, ha1, cm1, hkk1⟩ := (X.2.2 t0 _ ht).1 n1 (fun j => .int (nI (σ k1 j)))
  obtain ⟨vm', X', step⟩ := X9.arraycopy X.1.1 X.1.2.2.2.1 (hts _ hlink) (hts _ hnat) (hts _ hstat) (hts _ hini) (src := ad k0) (dst := ad k1) (cs := vp_cell cA (n0, .inl (fun j => nI (σ k0 j)))) (cd := vp_cell cA (n1, .inl (fun j => nI (σ k1 j)))) (srcPos := nI 0) (destPos := nI 0) (n := nI n) (by rw [hT]; exact hc0) (by rw [hT]; exact hc1)
    (fun _ h => by cases h) (fun _ h => by cases h) (fun h => by cases h) (fun h => by cases h) ha0 ha1 hkk0 hkk1 (by simp [refKind]) (nI_pos (by decide)) (nI_pos (by decide)) (nI_pos hn)
    (by rw [hti, ht0]; show ¬ _ > ((arrV cA n0 (fun j => .int (nI (σ k0 j)))).slots.size : Int); rw [arrV_size]; omega)
    (by rw [hti, ht0]; show ¬ _ > ((arrV cA n1 (fun j => .int (nI (σ k1 j)))).slots.size : Int); rw [arrV_size]; omega)
    (fun vm₁ _ i hi => by
      rw [hcl] at hi
      have e9 : (vp_cell cA (n0, .inl (fun j => nI (σ k0 j)))).slots.getD ((nI 0).toNatClampNeg + i) .null = .int (nI (σ k0 ((nI 0).toNatClampNeg + i))) := by
        show (arrV cA n0 (fun j => .int (nI (σ k0 j)))).slots.getD _ _ = _
        rw [Array.getD_eq_getD_getElem?, arrV_read _ _ (by rw [hz0]; omega)]
        rfl
      refine ⟨?_, ?_⟩
      · rw [e9]; rfl
      · rw [e9]; exact trivial)
    (g := F0 m pc ls (.int (nI n) :: .int (nI 0) :: .ref (ad k1) :: .int (nI 0) :: .ref (ad k0) :: rest)) rfl (by rw [X.1.2.2.1]; exact hsz) (rest := rest) rfl (by rw [X.1.2.1]; exact hdg) hframes (by show 2 * 0 + _ + 18 ≤ _; omega)
  have e1 : copied (vp_cell cA (n0, .inl (fun j => nI (σ k0 j)))) (vp_cell cA (n1, .inl (fun j => nI (σ k1 j)))) (nI 0) (nI 0) (nI n) = vp_cell cA (n1, .inl (fun j => nI (if j < n then σ k0 j else σ k1 j))) := by
    refine (va_copied (fun z => .int z) cA cA (fun j => nI (σ k0 j)) (fun j => nI (σ k1 j)) (sp := (nI 0).toNatClampNeg) (dp := (nI 0).toNatClampNeg) (n := (nI n).toNatClampNeg) (by rw [hcl, hz0]; omega)).trans ?_
    rw [vp_cell_i]
    refine congrArg (arrV cA n1) (funext fun j => congrArg Value.int ?_)
    rw [hcl, hz0]
    unfold va_cpy
    by_cases h : j < n
    · rw [if_pos ⟨Nat.zero_le _, by omega⟩, if_pos h, Nat.sub_zero, Nat.zero_add]
    · rw [if_neg (fun q => h (by omega)), if_neg h]
  rw [e1] at X' step
  have hl : ad k1 < H.size := (Array.getElem?_eq_some_iff.mp hc1).1
  generalize hH1 : H.setIfInBounds (ad k1) (vp_cell cA (n1, .inl (fun j => nI (if j < n then σ k0 j else σ k1 j)))) = H1 at *
  have hheap : ((T9.setVm vm').setCell (ad k1) (vp_cell cA (n1, .inl (fun j => nI (if j < n then σ k0 j else σ k1 j))))).heap = H1 := by rw [← hH1, ← hT]; rfl
  have oq : ∀ q : Nat, q ≠ ad k1 → H1[q]? = H[q]? := fun q hq => by rw [← hH1]; simp [Array.getElem?_setIfInBounds, Ne.symm hq]
  have hq1 : H1[ad k1]? = some (vp_cell cA (n1, .inl (fun j => nI (if j < n then σ k0 j else σ k1 j)))) := by rw [← hH1]; simp [Array.getElem?_setIfInBounds, hl]
  have hV : hw_w D E ad ok (hw_cp σ k0 k1 n) H1 := by
    refine ⟨fun j hj => ?_, V.1.2.1, fun q i => ?_⟩
    · by_cases e9 : j = k1
      · subst e9
        have e2 : hw_cp σ k0 j n j = fun i => if i < n then σ k0 i else σ j i := by simp [hw_cp]
        rw [e2, he1]
        exact hq1
      · have e2 : hw_cp σ k0 k1 n j = σ j := by simp [hw_cp, e9]
        rw [e2]
        exact (V.1.1 j hj).kept (oq _ (fun z => e9 (V.1.2.1 j k1 hj ho1 z)))
    · unfold hw_cp
      split
      · show (if i < n then σ k0 i else σ k1 i) < _
        split
        · exact V.1.2.2 _ _
        · exact V.1.2.2 _ _
      · exact V.1.2.2 _ _
  have hsize : H1.size = H.size := by rw [← hH1]; simp
  obtain ⟨t, b1, b2⟩ := kk H1 _ ⟨hV, V.2.1, ⟨by rw [hsize]; exact V.2.2.1, fun q g1 g2 => by
      rw [oq q (fun e9 => g2 (by rw [e9]; exact V.2.1 k1 ho1))]
      exact V.2.2.2.1 q g1 g2, fun q hq => by
      rcases List.mem_append.mp hq with h | h
      · exact V.2.2.2.2 q h
      · obtain ⟨z9, -, hz⟩ := List.mem_map.mp h
        rw [← hz]
        exact V.2.1 k1 ho1⟩⟩ _ hheap X'
  exact ⟨t, step t b1, b2⟩
end
end
section
/-! Groups on the numbers below N: words of my own, no machine here. -/
/-- more numbers than places: two are alike -/
theorem gp_ph : ∀ (N : Nat) (f : Nat → Nat), (∀ i, i ≤ N → f i < N) → ∃ i j, i < j ∧ j ≤ N ∧ f i = f j := by
  intro N
  induction N with
  | zero => intro f h; exact absurd (h 0 (Nat.le_refl 0)) (Nat.not_lt_zero _)
  | succ N ih =>
    intro f h
    by_cases hv : ∃ i, i ≤ N ∧ f i = f (N + 1)
    · obtain ⟨i, hi, e⟩ := hv
      exact ⟨i, N + 1, by omega, Nat.le_refl _, e⟩
    · have hv' : ∀ i, i ≤ N → f i ≠ f (N + 1) := fun i hi e => hv ⟨i, hi, e⟩
      have hl := h (N + 1) (Nat.le_refl _)
      obtain ⟨i, j, hij, hj, e⟩ := ih (fun i => if f i = N then f (N + 1) else f i) (by
        intro i hi
        have h1 := hv' i hi
        have h2 := h i (by omega)
        by_cases hN : f i = N
        · simp only [hN, if_true]; omega
        · simp only [hN, if_false]; omega)
      refine ⟨i, j, hij, by omega, ?_⟩
      have h1 := hv' i (by omega)
      have h2 := hv' j hj
      try dsimp only at e
      by_cases hi : f i = N <;> by_cases hjN : f j = N <;> simp only [hi, hjN, if_true, if_false] at e <;> omega
/-- M different numbers below K: M is at most K -/
theorem gp_inj {M K : Nat} (f : Nat → Nat) (h : ∀ i, i < M → f i < K) (hi : ∀ i j, i < M → j < M → f i = f j → i = j) : M ≤ K := by
  apply Nat.le_of_not_lt
  intro hMK
  obtain ⟨i, j, h1, h2, e⟩ := gp_ph K f (fun i hi => h i (by omega))
  have := hi i j (by omega) (by omega) e
  omega
def gp_ok (N : Nat) (o : Nat → Nat → Nat) : Prop :=
  0 < N ∧ (∀ a b, a < N → b < N → o a b < N) ∧ (∀ a, a < N → o 0 a = a) ∧ (∀ a, a < N → o a 0 = a) ∧
    (∀ a b c, a < N → b < N → c < N → o (o a b) c = o a (o b c)) ∧ (∀ a, a < N → ∃ b, b < N ∧ o a b = 0)
theorem gp_ok.pos {N : Nat} {o : Nat → Nat → Nat} (g : gp_ok N o) : 0 < N := g.1
theorem gp_ok.lt {N : Nat} {o : Nat → Nat → Nat} (g : gp_ok N o) {a b : Nat} (ha : a < N) (hb : b < N) : o a b < N := g.2.1 a b ha hb
theorem gp_ok.l0 {N : Nat} {o : Nat → Nat → Nat} (g : gp_ok N o) {a : Nat} (ha : a < N) : o 0 a = a := g.2.2.1 a ha
theorem gp_ok.r0 {N : Nat} {o : Nat → Nat → Nat} (g : gp_ok N o) {a : Nat} (ha : a < N) : o a 0 = a := g.2.2.2.1 a ha
theorem gp_ok.as {N : Nat} {o : Nat → Nat → Nat} (g : gp_ok N o) {a b c : Nat} (ha : a < N) (hb : b < N) (hc : c < N) : o (o a b) c = o a (o b c) := g.2.2.2.2.1 a b c ha hb hc
noncomputable def gp_iv (N : Nat) (o : Nat → Nat → Nat) (a : Nat) : Nat := Classical.epsilon (fun b => b < N ∧ o a b = 0)
theorem gp_ok.ivs {N : Nat} {o : Nat → Nat → Nat} (g : gp_ok N o) {a : Nat} (ha : a < N) : gp_iv N o a < N ∧ o a (gp_iv N o a) = 0 :=
  Classical.epsilon_spec (g.2.2.2.2.2 a ha)
theorem gp_ok.ivl {N : Nat} {o : Nat → Nat → Nat} (g : gp_ok N o) {a : Nat} (ha : a < N) : gp_iv N o a < N := (g.ivs ha).1
theorem gp_ok.riv {N : Nat} {o : Nat → Nat → Nat} (g : gp_ok N o) {a : Nat} (ha : a < N) : o a (gp_iv N o a) = 0 := (g.ivs ha).2
theorem gp_ok.liv {N : Nat} {o : Nat → Nat → Nat} (g : gp_ok N o) {a : Nat} (ha : a < N) : o (gp_iv N o a) a = 0 := by
  obtain ⟨hb, h1⟩ := g.ivs ha
  obtain ⟨hc, h2⟩ := g.ivs hb
  have e : a = gp_iv N o (gp_iv N o a) := by
    have h3 := g.as ha hb hc
    rw [h1, h2, g.l0 hc, g.r0 ha] at h3
    exact h3.symm
  rw [← e] at h2
  exact h2
theorem gp_ok.cl {N : Nat} {o : Nat → Nat → Nat} (g : gp_ok N o) {a x y : Nat} (ha : a < N) (hx : x < N) (hy : y < N) (h : o a x = o a y) : x = y := by
  have h1 := congrArg (o (gp_iv N o a)) h
  rw [← g.as (g.ivl ha) ha hx, ← g.as (g.ivl ha) ha hy, g.liv ha, g.l0 hx, g.l0 hy] at h1
  exact h1
theorem gp_ok.cr {N : Nat} {o : Nat → Nat → Nat} (g : gp_ok N o) {a x y : Nat} (ha : a < N) (hx : x < N) (hy : y < N) (h : o x a = o y a) : x = y := by
  have h1 := congrArg (fun z => o z (gp_iv N o a)) h
  try dsimp only at h1
  rw [g.as hx ha (g.ivl ha), g.as hy ha (g.ivl ha), g.riv ha, g.r0 hx, g.r0 hy] at h1
  exact h1
theorem gp_ok.ivu {N : Nat} {o : Nat → Nat → Nat} (g : gp_ok N o) {a b : Nat} (ha : a < N) (hb : b < N) (h : o a b = 0) : b = gp_iv N o a :=
  g.cl ha hb (g.ivl ha) (h.trans (g.riv ha).symm)
theorem gp_ok.ivu' {N : Nat} {o : Nat → Nat → Nat} (g : gp_ok N o) {a b : Nat} (ha : a < N) (hb : b < N) (h : o b a = 0) : b = gp_iv N o a :=
  g.cr ha hb (g.ivl ha) (h.trans (g.liv ha).symm)
theorem gp_ok.iv0 {N : Nat} {o : Nat → Nat → Nat} (g : gp_ok N o) : gp_iv N o 0 = 0 := (g.ivu g.pos g.pos (g.l0 g.pos)).symm
theorem gp_ok.iviv {N : Nat} {o : Nat → Nat → Nat} (g : gp_ok N o) {a : Nat} (ha : a < N) : gp_iv N o (gp_iv N o a) = a := (g.ivu (g.ivl ha) ha (g.liv ha)).symm
theorem gp_ok.ivo {N : Nat} {o : Nat → Nat → Nat} (g : gp_ok N o) {a b : Nat} (ha : a < N) (hb : b < N) : gp_iv N o (o a b) = o (gp_iv N o b) (gp_iv N o a) := by
  refine (g.ivu (g.lt ha hb) (g.lt (g.ivl hb) (g.ivl ha)) ?_).symm
  rw [g.as ha hb (g.lt (g.ivl hb) (g.ivl ha)), ← g.as hb (g.ivl hb) (g.ivl ha), g.riv hb, g.l0 (g.ivl ha), g.riv ha]
/-- k times a -/
def gp_pw (o : Nat → Nat → Nat) (a : Nat) : Nat → Nat
  | 0 => 0
  | k + 1 => o (gp_pw o a k) a
theorem gp_ok.pwl {N : Nat} {o : Nat → Nat → Nat} (g : gp_ok N o) {a : Nat} (ha : a < N) : ∀ k, gp_pw o a k < N
  | 0 => g.pos
  | k + 1 => g.lt (g.pwl ha k) ha
theorem gp_ok.pwa {N : Nat} {o : Nat → Nat → Nat} (g : gp_ok N o) {a : Nat} (ha : a < N) (i : Nat) : ∀ k, gp_pw o a (i + k) = o (gp_pw o a i) (gp_pw o a k)
  | 0 => (g.r0 (g.pwl ha i)).symm
  | k + 1 => by
    show o (gp_pw o a (i + k)) a = o (gp_pw o a i) (o (gp_pw o a k) a)
    rw [g.pwa ha i k, g.as (g.pwl ha i) (g.pwl ha k) ha]
theorem gp_ok.per {N : Nat} {o : Nat → Nat → Nat} (g : gp_ok N o) {a : Nat} (ha : a < N) : ∃ k, 1 ≤ k ∧ k ≤ N ∧ gp_pw o a k = 0 := by
  obtain ⟨i, j, hij, hj, e⟩ := gp_ph N (gp_pw o a) (fun i _ => g.pwl ha i)
  refine ⟨j - i, by omega, by omega, ?_⟩
  have h := g.pwa ha i (j - i)
  rw [show i + (j - i) = j by omega, ← e] at h
  exact (g.cl (g.pwl ha i) g.pos (g.pwl ha (j - i)) ((g.r0 (g.pwl ha i)).trans h)).symm
/-- subgroups, as sets -/
def gp_sb (N : Nat) (o : Nat → Nat → Nat) (S : Nat → Prop) : Prop := S 0 ∧ (∀ a, S a → a < N) ∧ ∀ a b, S a → S b → S (o a b)
theorem gp_sb.pw {N : Nat} {o : Nat → Nat → Nat} {S : Nat → Prop} (h : gp_sb N o S) {a : Nat} (ha : S a) : ∀ k, S (gp_pw o a k)
  | 0 => h.1
  | k + 1 => h.2.2 _ _ (h.pw ha k) ha
theorem gp_sb.iv {N : Nat} {o : Nat → Nat → Nat} {S : Nat → Prop} (h : gp_sb N o S) (g : gp_ok N o) {a : Nat} (ha : S a) : S (gp_iv N o a) := by
  have hl := h.2.1 a ha
  obtain ⟨k, h1, h2, e⟩ := g.per hl
  have e2 : gp_pw o a (k - 1) = gp_iv N o a := by
    refine g.ivu' hl (g.pwl hl _) ?_
    rw [← e]
    show gp_pw o a ((k - 1) + 1) = _
    rw [show k - 1 + 1 = k by omega]
  rw [← e2]
  exact h.pw ha _
/-- what X generates -/
def gp_gn (N : Nat) (o : Nat → Nat → Nat) (X : Nat → Prop) (a : Nat) : Prop := ∀ S : Nat → Prop, gp_sb N o S → (∀ x, X x → S x) → S a
theorem gp_gn.in {N : Nat} {o : Nat → Nat → Nat} {X : Nat → Prop} {a : Nat} (h : X a) : gp_gn N o X a := fun _ _ hX => hX a h
theorem gp_gn.le {N : Nat} {o : Nat → Nat → Nat} {X S : Nat → Prop} (hS : gp_sb N o S) (hX : ∀ x, X x → S x) {a : Nat} (h : gp_gn N o X a) : S a := h S hS hX
theorem gp_all {N : Nat} {o : Nat → Nat → Nat} (g : gp_ok N o) : gp_sb N o (fun a => a < N) := ⟨g.pos, fun _ h => h, fun _ _ h1 h2 => g.lt h1 h2⟩
theorem gp_gn.sb {N : Nat} {o : Nat → Nat → Nat} {X : Nat → Prop} (g : gp_ok N o) (hX : ∀ x, X x → x < N) : gp_sb N o (gp_gn N o X) :=
  ⟨fun S hS _ => hS.1, fun a h => h _ (gp_all g) hX, fun a b ha hb S hS h => hS.2.2 a b (ha S hS h) (hb S hS h)⟩
theorem gp_gn.mono {N : Nat} {o : Nat → Nat → Nat} {X Y : Nat → Prop} (h : ∀ x, X x → Y x) {a : Nat} (ha : gp_gn N o X a) : gp_gn N o Y a := fun S hS hY => ha S hS (fun x hx => hY x (h x hx))
/-- closed to the right under X from 0 on, and made of X: generated -/
theorem gp_gn.of {N : Nat} {o : Nat → Nat → Nat} {X S : Nat → Prop} (g : gp_ok N o) (hX : ∀ x, X x → x < N) (h0 : S 0) (hc : ∀ a x, S a → X x → S (o a x)) {b : Nat} (hb : gp_gn N o X b) : S b := by
  have key : ∀ a, gp_gn N o X a → ∀ s, s < N → S s → S (o s a) := by
    intro a ha
    have hsb : gp_sb N o (fun a => a < N ∧ ∀ s, s < N → S s → S (o s a)) := by
      refine ⟨⟨g.pos, fun s hl hs => by rw [g.r0 hl]; exact hs⟩, fun a h => h.1, fun a b h1 h2 => ⟨g.lt h1.1 h2.1, fun s hl hs => ?_⟩⟩
      rw [← g.as hl h1.1 h2.1]
      exact h2.2 _ (g.lt hl h1.1) (h1.2 s hl hs)
    exact (ha _ hsb (fun x hx => ⟨hX x hx, fun s _ hs => hc s x hs hx⟩)).2
  have h := key b hb 0 g.pos h0
  rwa [g.l0 ((gp_gn.sb g hX).2.1 b hb)] at h
/-- conjugates and commutators -/
noncomputable def gp_cj (N : Nat) (o : Nat → Nat → Nat) (a b : Nat) : Nat := o (o (gp_iv N o b) a) b
noncomputable def gp_cm (N : Nat) (o : Nat → Nat → Nat) (a b : Nat) : Nat := o (gp_iv N o a) (gp_cj N o a b)
theorem gp_ok.cjl {N : Nat} {o : Nat → Nat → Nat} (g : gp_ok N o) {a b : Nat} (ha : a < N) (hb : b < N) : gp_cj N o a b < N := g.lt (g.lt (g.ivl hb) ha) hb
theorem gp_ok.cml {N : Nat} {o : Nat → Nat → Nat} (g : gp_ok N o) {a b : Nat} (ha : a < N) (hb : b < N) : gp_cm N o a b < N := g.lt (g.ivl ha) (g.cjl ha hb)
theorem gp_ok.cj_0 {N : Nat} {o : Nat → Nat → Nat} (g : gp_ok N o) {b : Nat} (hb : b < N) : gp_cj N o 0 b = 0 := by
  unfold gp_cj
  rw [g.r0 (g.ivl hb), g.liv hb]
theorem gp_ok.cj0 {N : Nat} {o : Nat → Nat → Nat} (g : gp_ok N o) {a : Nat} (ha : a < N) : gp_cj N o a 0 = a := by
  unfold gp_cj
  rw [g.iv0, g.l0 ha, g.r0 ha]
/-- b times the conjugate by b is a times b -/
theorem gp_ok.cjm {N : Nat} {o : Nat → Nat → Nat} (g : gp_ok N o) {a b : Nat} (ha : a < N) (hb : b < N) : o b (gp_cj N o a b) = o a b := by
  unfold gp_cj
  rw [g.as (g.ivl hb) ha hb, ← g.as hb (g.ivl hb) (g.lt ha hb), g.riv hb, g.l0 (g.lt ha hb)]
theorem gp_ok.cju {N : Nat} {o : Nat → Nat → Nat} (g : gp_ok N o) {a b x : Nat} (ha : a < N) (hb : b < N) (hx : x < N) (h : o b x = o a b) : x = gp_cj N o a b :=
  g.cl hb hx (g.cjl ha hb) (h.trans (g.cjm ha hb).symm)
theorem gp_ok.cjo {N : Nat} {o : Nat → Nat → Nat} (g : gp_ok N o) {a b c : Nat} (ha : a < N) (hb : b < N) (hc : c < N) : gp_cj N o (o a b) c = o (gp_cj N o a c) (gp_cj N o b c) := by
  refine (g.cju (g.lt ha hb) hc (g.lt (g.cjl ha hc) (g.cjl hb hc)) ?_).symm
  rw [← g.as hc (g.cjl ha hc) (g.cjl hb hc), g.cjm ha hc, g.as ha hc (g.cjl hb hc), g.cjm hb hc, g.as ha hb hc]
theorem gp_ok.cjc {N : Nat} {o : Nat → Nat → Nat} (g : gp_ok N o) {a b c : Nat} (ha : a < N) (hb : b < N) (hc : c < N) : gp_cj N o a (o b c) = gp_cj N o (gp_cj N o a b) c := by
  refine (g.cju ha (g.lt hb hc) (g.cjl (g.cjl ha hb) hc) ?_).symm
  rw [g.as hb hc (g.cjl (g.cjl ha hb) hc), g.cjm (g.cjl ha hb) hc, ← g.as hb (g.cjl ha hb) hc, g.cjm ha hb, g.as ha hb hc]
theorem gp_ok.cji {N : Nat} {o : Nat → Nat → Nat} (g : gp_ok N o) {a b : Nat} (ha : a < N) (hb : b < N) : gp_cj N o (gp_cj N o a b) (gp_iv N o b) = a := by
  rw [← g.cjc ha hb (g.ivl hb), g.riv hb, g.cj0 ha]
/-- b, then a, then their commutator: a, then b -/
theorem gp_ok.cmm {N : Nat} {o : Nat → Nat → Nat} (g : gp_ok N o) {a b : Nat} (ha : a < N) (hb : b < N) : o a (gp_cm N o a b) = gp_cj N o a b := by
  unfold gp_cm
  rw [← g.as ha (g.ivl ha) (g.cjl ha hb), g.riv ha, g.l0 (g.cjl ha hb)]
theorem gp_ok.cmu {N : Nat} {o : Nat → Nat → Nat} (g : gp_ok N o) {a b x : Nat} (ha : a < N) (hb : b < N) (hx : x < N) (h : o a x = gp_cj N o a b) : x = gp_cm N o a b :=
  g.cl ha hx (g.cml ha hb) (h.trans (g.cmm ha hb).symm)
/-- the commutator of a product: [a b, c] is the conjugate of [a, c] by b, then [b, c] -/
theorem gp_ok.cm1 {N : Nat} {o : Nat → Nat → Nat} (g : gp_ok N o) {a b c : Nat} (ha : a < N) (hb : b < N) (hc : c < N) : gp_cm N o (o a b) c = o (gp_cj N o (gp_cm N o a c) b) (gp_cm N o b c) := by
  have h1 := g.cml ha hc
  have h2 := g.cml hb hc
  refine (g.cmu (g.lt ha hb) hc (g.lt (g.cjl h1 hb) h2) ?_).symm
  rw [g.as ha hb (g.lt (g.cjl h1 hb) h2), ← g.as hb (g.cjl h1 hb) h2, g.cjm h1 hb, g.as h1 hb h2, g.cmm hb hc, ← g.as ha h1 (g.cjl hb hc), g.cmm ha hc, g.cjo ha hb hc]
/-- [a, b c] is [a, c], then the conjugate of [a, b] by c -/
theorem gp_ok.cm2 {N : Nat} {o : Nat → Nat → Nat} (g : gp_ok N o) {a b c : Nat} (ha : a < N) (hb : b < N) (hc : c < N) : gp_cm N o a (o b c) = o (gp_cm N o a c) (gp_cj N o (gp_cm N o a b) c) := by
  have h1 := g.cml ha hc
  have h2 := g.cml ha hb
  refine (g.cmu ha (g.lt hb hc) (g.lt h1 (g.cjl h2 hc)) ?_).symm
  rw [← g.as ha h1 (g.cjl h2 hc), g.cmm ha hc, ← g.cjo ha h2 hc, g.cmm ha hb, g.cjc ha hb hc]
theorem gp_ok.cm0 {N : Nat} {o : Nat → Nat → Nat} (g : gp_ok N o) {b : Nat} (hb : b < N) : gp_cm N o 0 b = 0 := by
  unfold gp_cm
  rw [g.cj_0 hb, g.iv0, g.l0 g.pos]
theorem gp_ok.cm_0 {N : Nat} {o : Nat → Nat → Nat} (g : gp_ok N o) {a : Nat} (ha : a < N) : gp_cm N o a 0 = 0 := by
  unfold gp_cm
  rw [g.cj0 ha, g.liv ha]
end
section
/-! Subgroups: conjugates of what generates, commutators of what generates; counting. -/
section
variable {N : Nat} {o : Nat → Nat → Nat}
theorem gp_nrm (g : gp_ok N o) {X K : Nat → Prop} (hK : gp_sb N o K) (hX : ∀ x, X x → x < N) (h : ∀ k x, K k → X x → K (gp_cj N o k x)) : ∀ k s, K k → gp_gn N o X s → K (gp_cj N o k s) := by
  intro k s hk hs
  have hsb : gp_sb N o (fun s => s < N ∧ ∀ k, K k → K (gp_cj N o k s)) := by
    refine ⟨⟨g.pos, fun k hk => by rw [g.cj0 (hK.2.1 k hk)]; exact hk⟩, fun a h => h.1, fun a b h1 h2 => ⟨g.lt h1.1 h2.1, fun k hk => ?_⟩⟩
    rw [g.cjc (hK.2.1 k hk) h1.1 h2.1]
    exact h2.2 _ (h1.2 k hk)
  exact (hs _ hsb (fun x hx => ⟨hX x hx, fun k hk => h k x hk hx⟩)).2 k hk
theorem gp_cjg (g : gp_ok N o) {Y K : Nat → Prop} (hK : gp_sb N o K) (hY : ∀ y, Y y → y < N) {s : Nat} (hs : s < N) (h : ∀ y, Y y → K (gp_cj N o y s)) : ∀ k, gp_gn N o Y k → K (gp_cj N o k s) := by
  intro k hk
  have hsb : gp_sb N o (fun k => k < N ∧ K (gp_cj N o k s)) := by
    refine ⟨⟨g.pos, by rw [g.cj_0 hs]; exact hK.1⟩, fun a h => h.1, fun a b h1 h2 => ⟨g.lt h1.1 h2.1, ?_⟩⟩
    rw [g.cjo h1.1 h2.1 hs]
    exact hK.2.2 _ _ h1.2 h2.2
  exact (hk _ hsb (fun y hy => ⟨hY y hy, h y hy⟩)).2
/-- commutators of what generates are enough, if K bears conjugation by both -/
theorem gp_cmg (g : gp_ok N o) {X Y K : Nat → Prop} (hX : ∀ x, X x → x < N) (hY : ∀ y, Y y → y < N) (hK : gp_sb N o K) (hS : ∀ k s, K k → gp_gn N o X s → K (gp_cj N o k s)) (hT : ∀ k t, K k → gp_gn N o Y t → K (gp_cj N o k t))
    (h : ∀ x y, X x → Y y → K (gp_cm N o x y)) : ∀ s t, gp_gn N o X s → gp_gn N o Y t → K (gp_cm N o s t) := by
  intro s t hs ht
  have hSl := (gp_gn.sb g hX).2.1
  have hTl := (gp_gn.sb g hY).2.1
  have h1 : ∀ y, Y y → K (gp_cm N o s y) := by
    intro y hy
    have hsb : gp_sb N o (fun s => gp_gn N o X s ∧ K (gp_cm N o s y)) := by
      refine ⟨⟨(gp_gn.sb g hX).1, by rw [g.cm0 (hY y hy)]; exact hK.1⟩, fun a h => hSl a h.1, fun a b ha hb => ⟨(gp_gn.sb g hX).2.2 a b ha.1 hb.1, ?_⟩⟩
      rw [g.cm1 (hSl a ha.1) (hSl b hb.1) (hY y hy)]
      exact hK.2.2 _ _ (hS _ b ha.2 hb.1) hb.2
    exact (hs _ hsb (fun x hx => ⟨gp_gn.in hx, h x y hx hy⟩)).2
  have hsb : gp_sb N o (fun t => gp_gn N o Y t ∧ K (gp_cm N o s t)) := by
    refine ⟨⟨(gp_gn.sb g hY).1, by rw [g.cm_0 (hSl s hs)]; exact hK.1⟩, fun a h => hTl a h.1, fun a b ha hb => ⟨(gp_gn.sb g hY).2.2 a b ha.1 hb.1, ?_⟩⟩
    rw [g.cm2 (hSl s hs) (hTl a ha.1) (hTl b hb.1)]
    exact hK.2.2 _ _ hb.2 (hT _ b ha.2 hb.1)
  exact (ht _ hsb (fun y hy => ⟨gp_gn.in hy, h1 y hy⟩)).2
/-- the commutator subgroup of two sets -/
def gp_cs (N : Nat) (o : Nat → Nat → Nat) (S T : Nat → Prop) : Nat → Prop := gp_gn N o (fun c => ∃ s t, S s ∧ T t ∧ c = gp_cm N o s t)
theorem gp_cs.sb (g : gp_ok N o) {S T : Nat → Prop} (hS : gp_sb N o S) (hT : gp_sb N o T) : gp_sb N o (gp_cs N o S T) :=
  gp_gn.sb g (fun x hx => by obtain ⟨s, t, h1, h2, rfl⟩ := hx; exact g.cml (hS.2.1 s h1) (hT.2.1 t h2))
theorem gp_cs.in {S T : Nat → Prop} {s t : Nat} (hs : S s) (ht : T t) : gp_cs N o S T (gp_cm N o s t) := gp_gn.in ⟨s, t, hs, ht, rfl⟩
theorem gp_cs.cj1 (g : gp_ok N o) {S T : Nat → Prop} (hS : gp_sb N o S) (hT : gp_sb N o T) {s k : Nat} (hs : S s) (hk : gp_cs N o S T k) : gp_cs N o S T (gp_cj N o k s) := by
  have hC := gp_cs.sb g hS hT
  refine gp_cjg g hC (fun x hx => by obtain ⟨s, t, h1, h2, rfl⟩ := hx; exact g.cml (hS.2.1 s h1) (hT.2.1 t h2)) (hS.2.1 s hs) (fun y hy => ?_) k hk
  obtain ⟨a, t, h1, h2, rfl⟩ := hy
  have la := hS.2.1 a h1
  have ls := hS.2.1 s hs
  have lt := hT.2.1 t h2
  have h3 := g.cm1 la ls lt
  have h4 : gp_cj N o (gp_cm N o a t) s = o (gp_cm N o (o a s) t) (gp_iv N o (gp_cm N o s t)) := by
    rw [h3, g.as (g.cjl (g.cml la lt) ls) (g.cml ls lt) (g.ivl (g.cml ls lt)), g.riv (g.cml ls lt), g.r0 (g.cjl (g.cml la lt) ls)]
  rw [h4]
  exact hC.2.2 _ _ (gp_cs.in (hS.2.2 a s h1 hs) h2) (hC.iv g (gp_cs.in hs h2))
theorem gp_cs.cj2 (g : gp_ok N o) {S T : Nat → Prop} (hS : gp_sb N o S) (hT : gp_sb N o T) {t k : Nat} (ht : T t) (hk : gp_cs N o S T k) : gp_cs N o S T (gp_cj N o k t) := by
  have hC := gp_cs.sb g hS hT
  refine gp_cjg g hC (fun x hx => by obtain ⟨s, t, h1, h2, rfl⟩ := hx; exact g.cml (hS.2.1 s h1) (hT.2.1 t h2)) (hT.2.1 t ht) (fun y hy => ?_) k hk
  obtain ⟨s, b, h1, h2, rfl⟩ := hy
  have ls := hS.2.1 s h1
  have lb := hT.2.1 b h2
  have lt := hT.2.1 t ht
  have h3 := g.cm2 ls lb lt
  have h4 : gp_cj N o (gp_cm N o s b) t = o (gp_iv N o (gp_cm N o s t)) (gp_cm N o s (o b t)) := by
    rw [h3, ← g.as (g.ivl (g.cml ls lt)) (g.cml ls lt) (g.cjl (g.cml ls lb) lt), g.liv (g.cml ls lt), g.l0 (g.cjl (g.cml ls lb) lt)]
  rw [h4]
  exact hC.2.2 _ _ (hC.iv g (gp_cs.in h1 ht)) (gp_cs.in h1 (hT.2.2 b t h2 ht))
end
/-! counting -/
def gp_ct (p : Nat → Bool) : Nat → Nat
  | 0 => 0
  | n + 1 => gp_ct p n + if p n = true then 1 else 0
theorem gp_ct_le (p : Nat → Bool) : ∀ n, gp_ct p n ≤ n
  | 0 => Nat.le_refl _
  | n + 1 => by
    have := gp_ct_le p n
    show gp_ct p n + (if p n = true then 1 else 0) ≤ n + 1
    split <;> omega
theorem gp_ct_congr {p q : Nat → Bool} : ∀ {n : Nat}, (∀ a, a < n → p a = q a) → gp_ct p n = gp_ct q n
  | 0, _ => rfl
  | n + 1, h => by
    show gp_ct p n + _ = gp_ct q n + _
    rw [gp_ct_congr (fun a ha => h a (by omega)), h n (by omega)]
theorem gp_ct_none {p : Nat → Bool} : ∀ {n : Nat}, (∀ a, a < n → p a = false) → gp_ct p n = 0
  | 0, _ => rfl
  | n + 1, h => by
    show gp_ct p n + _ = 0
    rw [gp_ct_none (fun a ha => h a (by omega)), h n (by omega)]
    rfl
theorem gp_ct_add {p q : Nat → Bool} {x : Nat} (hx : p x = false) (hq : q x = true) (hr : ∀ a, a ≠ x → q a = p a) : ∀ {n : Nat}, x < n → gp_ct q n = gp_ct p n + 1
  | 0, h => absurd h (Nat.not_lt_zero _)
  | n + 1, h => by
    show gp_ct q n + (if q n = true then 1 else 0) = gp_ct p n + (if p n = true then 1 else 0) + 1
    by_cases e : x = n
    · subst e
      rw [gp_ct_congr (p := q) (q := p) (fun a ha => hr a (by omega)), hq, hx]
      simp
    · rw [gp_ct_add hx hq hr (n := n) (by omega), hr n (fun z => e z.symm)]
      omega
/-- the members of p in a row -/
theorem gp_enum (p : Nat → Bool) : ∀ n, ∃ e : Nat → Nat, (∀ i, i < gp_ct p n → e i < n ∧ p (e i) = true) ∧ (∀ i j, i < gp_ct p n → j < gp_ct p n → e i = e j → i = j) ∧ ∀ x, x < n → p x = true → ∃ i, i < gp_ct p n ∧ e i = x := by
  intro n
  induction n with
  | zero => exact ⟨fun _ => 0, fun i h => absurd h (Nat.not_lt_zero _), fun i j h => absurd h (Nat.not_lt_zero _), fun x h => absurd h (Nat.not_lt_zero _)⟩
  | succ n ih =>
    obtain ⟨e, h1, h2, h3⟩ := ih
    by_cases hp : p n = true
    · have hc : gp_ct p (n + 1) = gp_ct p n + 1 := by show gp_ct p n + _ = _; rw [hp]; rfl
      rw [hc]
      refine ⟨fun i => if i = gp_ct p n then n else e i, fun i hi => ?_, fun i j hi hj he => ?_, fun x hx hpx => ?_⟩
      · by_cases hin : i = gp_ct p n
        · simp only [hin, if_true]; exact ⟨by omega, hp⟩
        · simp only [hin, if_false]
          have := h1 i (by omega)
          exact ⟨by omega, this.2⟩
      · dsimp only at he
        by_cases hin : i = gp_ct p n <;> by_cases hjn : j = gp_ct p n <;> simp only [hin, hjn, if_true, if_false] at he
        · omega
        · have := (h1 j (by omega)).1; omega
        · have := (h1 i (by omega)).1; omega
        · exact h2 i j (by omega) (by omega) he
      · by_cases hxn : x = n
        · exact ⟨gp_ct p n, by omega, by simp only [if_true]; exact hxn.symm⟩
        · obtain ⟨i, hi, he⟩ := h3 x (by omega) hpx
          refine ⟨i, by omega, ?_⟩
          have : i ≠ gp_ct p n := by omega
          simp only [this, if_false]
          exact he
    · have hc : gp_ct p (n + 1) = gp_ct p n := by show gp_ct p n + _ = _; rw [if_neg hp]; rfl
      rw [hc]
      refine ⟨e, fun i hi => ⟨by have := (h1 i hi).1; omega, (h1 i hi).2⟩, h2, fun x hx hpx => ?_⟩
      by_cases hxn : x = n
      · subst hxn; exact absurd hpx hp
      · exact h3 x (by omega) hpx
theorem gp_ct_inj {p q : Nat → Bool} {n m : Nat} (f : Nat → Nat) (hf : ∀ x, x < n → p x = true → f x < m ∧ q (f x) = true) (hi : ∀ x y, x < n → y < n → p x = true → p y = true → f x = f y → x = y) : gp_ct p n ≤ gp_ct q m := by
  obtain ⟨e, e1, e2, e3⟩ := gp_enum p n
  obtain ⟨d, d1, d2, d3⟩ := gp_enum q m
  have hr : ∀ i, ∃ j, i < gp_ct p n → j < gp_ct q m ∧ d j = f (e i) := by
    intro i
    by_cases h : i < gp_ct p n
    · obtain ⟨h1, h2⟩ := e1 i h
      obtain ⟨h3, h4⟩ := hf _ h1 h2
      obtain ⟨j, h5, h6⟩ := d3 _ h3 h4
      exact ⟨j, fun _ => ⟨h5, h6⟩⟩
    · exact ⟨0, fun z => absurd z h⟩
  refine gp_inj (fun i => Classical.choose (hr i)) (fun i h => (Classical.choose_spec (hr i) h).1) (fun i j hi' hj' he => ?_)
  have a := (Classical.choose_spec (hr i) hi').2
  have b := (Classical.choose_spec (hr j) hj').2
  try dsimp only at he
  rw [he] at a
  have hef := a.symm.trans b
  exact e2 i j hi' hj' (hi _ _ (e1 i hi').1 (e1 j hj').1 (e1 i hi').2 (e1 j hj').2 hef)
/-- a subgroup within a larger one, not all of it: at most half -/
theorem gp_half {N : Nat} {o : Nat → Nat → Nat} (g : gp_ok N o) {p q : Nat → Bool} (hp : gp_sb N o (fun a => a < N ∧ p a = true)) (hq : gp_sb N o (fun a => a < N ∧ q a = true)) (hpq : ∀ a, a < N → p a = true → q a = true) {x : Nat} (hx : x < N) (hxq : q x = true) (hxp : p x = false) : 2 * gp_ct p N ≤ gp_ct q N := by
  obtain ⟨e, e1, e2, e3⟩ := gp_enum p N
  obtain ⟨d, d1, d2, d3⟩ := gp_enum q N
  have F : ∀ i, i < 2 * gp_ct p N → ∃ j, j < gp_ct q N ∧ d j = if i < gp_ct p N then e i else o x (e (i - gp_ct p N)) := by
    intro i hi
    by_cases h : i < gp_ct p N
    · simp only [h, if_true]
      exact d3 _ (e1 i h).1 (hpq _ (e1 i h).1 (e1 i h).2)
    · simp only [h, if_false]
      have h1 := e1 (i - gp_ct p N) (by omega)
      have h2 := hq.2.2 x _ ⟨hx, hxq⟩ ⟨h1.1, hpq _ h1.1 h1.2⟩
      exact d3 _ h2.1 h2.2
  have hr : ∀ i, ∃ j, i < 2 * gp_ct p N → j < gp_ct q N ∧ d j = if i < gp_ct p N then e i else o x (e (i - gp_ct p N)) := by
    intro i
    by_cases h : i < 2 * gp_ct p N
    · obtain ⟨j, hj⟩ := F i h
      exact ⟨j, fun _ => hj⟩
    · exact ⟨0, fun z => absurd z h⟩
  have no : ∀ i j, i < gp_ct p N → j < gp_ct p N → e i = o x (e j) → False := by
    intro i j hi hj he
    have h1 := e1 i hi
    have h2 := e1 j hj
    have h3 : o (e i) (gp_iv N o (e j)) = x := by
      rw [he, g.as hx h2.1 (g.ivl h2.1), g.riv h2.1, g.r0 hx]
    have h4 := (hp.2.2 (e i) _ h1 (hp.iv g h2)).2
    rw [h3, hxp] at h4
    cases h4
  refine gp_inj (fun i => Classical.choose (hr i)) (fun i h => (Classical.choose_spec (hr i) h).1) (fun i j hi hj he => ?_)
  have a := (Classical.choose_spec (hr i) hi).2
  have b := (Classical.choose_spec (hr j) hj).2
  try dsimp only at he
  rw [he] at a
  have hef := a.symm.trans b
  by_cases h1 : i < gp_ct p N <;> by_cases h2 : j < gp_ct p N <;> simp only [h1, h2, if_true, if_false] at hef
  · exact e2 i j h1 h2 hef
  · exact (no _ _ h1 (by omega) hef).elim
  · exact (no _ _ h2 (by omega) hef.symm).elim
  · have h3 := g.cl hx (e1 _ (by omega)).1 (e1 _ (by omega)).1 hef
    have := e2 _ _ (by omega) (by omega) h3
    omega
end
section
/-! A group of t numbers, one more generator before it: r times it is p, it turns x into s x. -/
theorem ex_d {t e x : Nat} (h : x < t) : (e * t + x) / t = e ∧ (e * t + x) % t = x := by
  have ht : 0 < t := by omega
  constructor
  · rw [Nat.mul_comm, Nat.mul_add_div ht, Nat.div_eq_of_lt h, Nat.add_zero]
  · rw [Nat.mul_comm, Nat.mul_add_mod, Nat.mod_eq_of_lt h]
theorem ex_lt {t r e x : Nat} (he : e < r) (hx : x < t) : e * t + x < r * t := by
  have h1 : (e + 1) * t ≤ r * t := Nat.mul_le_mul_right t he
  rw [Nat.add_mul, Nat.one_mul] at h1
  omega
theorem ex_of {t r u : Nat} (ht : 0 < t) (hu : u < r * t) : ∃ x a, x < r ∧ a < t ∧ u = x * t + a :=
  ⟨u / t, u % t, (Nat.div_lt_iff_lt_mul ht).mpr hu, Nat.mod_lt _ ht, by rw [Nat.mul_comm]; exact (Nat.div_add_mod u t).symm⟩
def ex_it (s : Nat → Nat) : Nat → Nat → Nat
  | 0, x => x
  | k + 1, x => s (ex_it s k x)
theorem ex_it_add (s : Nat → Nat) (k x : Nat) : ∀ j, ex_it s (j + k) x = ex_it s j (ex_it s k x)
  | 0 => by rw [Nat.zero_add]; rfl
  | j + 1 => by
    rw [show j + 1 + k = (j + k) + 1 by omega]
    show s (ex_it s (j + k) x) = s (ex_it s j (ex_it s k x))
    rw [ex_it_add s k x j]
def ex_op (t r p : Nat) (o : Nat → Nat → Nat) (s : Nat → Nat) (u v : Nat) : Nat :=
  ((u / t + v / t) % r) * t + o (if r ≤ u / t + v / t then o p (ex_it s (v / t) (u % t)) else ex_it s (v / t) (u % t)) (v % t)
def ex_h (t r p : Nat) (o : Nat → Nat → Nat) (s : Nat → Nat) : Prop :=
  gp_ok t o ∧ p < t ∧ 0 < r ∧ (∀ a, a < t → s a < t) ∧ (∀ a b, a < t → b < t → s (o a b) = o (s a) (s b)) ∧ s p = p ∧ ∀ a, a < t → o a p = o p (ex_it s r a)
section
variable {t r p : Nat} {o : Nat → Nat → Nat} {s : Nat → Nat}
theorem ex_pair {x y a b : Nat} (ha : a < t) (hb : b < t) : ex_op t r p o s (x * t + a) (y * t + b) = ((x + y) % r) * t + o (if r ≤ x + y then o p (ex_it s y a) else ex_it s y a) b := by
  unfold ex_op
  rw [(ex_d ha).1, (ex_d ha).2, (ex_d hb).1, (ex_d hb).2]
theorem ex_itl (h : ex_h t r p o s) {a : Nat} (ha : a < t) : ∀ k, ex_it s k a < t
  | 0 => ha
  | k + 1 => h.2.2.2.1 _ (ex_itl h ha k)
theorem ex_ito (h : ex_h t r p o s) {a b : Nat} (ha : a < t) (hb : b < t) : ∀ k, ex_it s k (o a b) = o (ex_it s k a) (ex_it s k b)
  | 0 => rfl
  | k + 1 => by
    show s (ex_it s k (o a b)) = o (s (ex_it s k a)) (s (ex_it s k b))
    rw [ex_ito h ha hb k, h.2.2.2.2.1 _ _ (ex_itl h ha k) (ex_itl h hb k)]
theorem ex_itp (h : ex_h t r p o s) : ∀ k, ex_it s k p = p
  | 0 => rfl
  | k + 1 => by
    show s (ex_it s k p) = p
    rw [ex_itp h k, h.2.2.2.2.2.1]
theorem ex_it0 (h : ex_h t r p o s) (k : Nat) : ex_it s k 0 = 0 := by
  have g := h.1
  have h1 := ex_ito h g.pos g.pos k
  rw [g.l0 g.pos] at h1
  have hl := ex_itl h g.pos k
  exact (g.cl hl g.pos hl ((g.r0 hl).trans h1)).symm
theorem ex_pass (h : ex_h t r p o s) {a k : Nat} (ha : a < t) (hk : r ≤ k) : o (ex_it s (k - r) a) p = o p (ex_it s k a) := by
  rw [h.2.2.2.2.2.2 _ (ex_itl h ha _), ← ex_it_add, show r + (k - r) = k by omega]
theorem ex_lt2 (h : ex_h t r p o s) {x y a b : Nat} (ha : a < t) (hb : b < t) : ex_op t r p o s (x * t + a) (y * t + b) < r * t := by
  have g := h.1
  rw [ex_pair ha hb]
  refine ex_lt (Nat.mod_lt _ h.2.2.1) (g.lt ?_ hb)
  split
  · exact g.lt h.2.1 (ex_itl h ha _)
  · exact ex_itl h ha _
theorem ex_as (h : ex_h t r p o s) {x y z a b c : Nat} (hx : x < r) (hy : y < r) (hz : z < r) (ha : a < t) (hb : b < t) (hc : c < t) :
    ex_op t r p o s (ex_op t r p o s (x * t + a) (y * t + b)) (z * t + c) = ex_op t r p o s (x * t + a) (ex_op t r p o s (y * t + b) (z * t + c)) := by
  have g := h.1
  have hp := h.2.1
  have la : ∀ k, ex_it s k a < t := ex_itl h ha
  have lb : ∀ k, ex_it s k b < t := ex_itl h hb
  rw [ex_pair (r := r) (p := p) (o := o) (s := s) ha hb, ex_pair (r := r) (p := p) (o := o) (s := s) hb hc]
  have e1 : (x + y) % r = if r ≤ x + y then x + y - r else x + y := by
    split
    · rw [Nat.mod_eq_sub_mod (by omega), Nat.mod_eq_of_lt (by omega)]
    · exact Nat.mod_eq_of_lt (by omega)
  have e2 : (y + z) % r = if r ≤ y + z then y + z - r else y + z := by
    split
    · rw [Nat.mod_eq_sub_mod (by omega), Nat.mod_eq_of_lt (by omega)]
    · exact Nat.mod_eq_of_lt (by omega)
  by_cases h1 : r ≤ x + y <;> by_cases h2 : r ≤ y + z
  · rw [if_pos h1] at e1
    rw [if_pos h2] at e2
    rw [if_pos h1, if_pos h2, e1, e2]
    rw [ex_pair (g.lt (g.lt hp (la _)) hb) hc, ex_pair ha (g.lt (g.lt hp (lb _)) hc)]
    have ee : (x + y - r + z) % r = (x + (y + z - r)) % r := by congr 1; omega
    rw [ee]
    congr 1
    have hq := ex_pass h ha h2
    rw [ex_ito h (g.lt hp (la _)) hb, ex_ito h hp (la _), ex_itp h, ← ex_it_add, Nat.add_comm z y]
    have lq := la (y + z)
    have lw := la (y + z - r)
    have lz := lb z
    by_cases h3 : r ≤ x + y - r + z
    · rw [if_pos h3, if_pos (show r ≤ x + (y + z - r) by omega)]
      rw [← hq, g.as lw hp lz, g.as hp lw (g.lt (g.lt hp lz) hc), g.as hp (g.lt lw (g.lt hp lz)) hc, g.as lw (g.lt hp lz) hc]
    · rw [if_neg h3, if_neg (show ¬ r ≤ x + (y + z - r) by omega)]
      rw [← hq, g.as lw hp lz, g.as lw (g.lt hp lz) hc]
  · rw [if_pos h1] at e1
    rw [if_neg h2] at e2
    rw [if_pos h1, if_neg h2, e1, e2]
    rw [ex_pair (g.lt (g.lt hp (la _)) hb) hc, ex_pair ha (g.lt (lb _) hc)]
    have ee : (x + y - r + z) % r = (x + (y + z)) % r := by
      rw [show x + (y + z) = (x + y - r + z) + r by omega, Nat.add_mod_right]
    rw [ee]
    congr 1
    rw [if_neg (show ¬ r ≤ x + y - r + z by omega), if_pos (show r ≤ x + (y + z) by omega)]
    rw [ex_ito h (g.lt hp (la _)) hb, ex_ito h hp (la _), ex_itp h, ← ex_it_add, Nat.add_comm z y]
    rw [g.as (g.lt hp (la _)) (lb _) hc]
  · rw [if_neg h1] at e1
    rw [if_pos h2] at e2
    rw [if_neg h1, if_pos h2, e1, e2]
    rw [ex_pair (g.lt (la _) hb) hc, ex_pair ha (g.lt (g.lt hp (lb _)) hc)]
    have ee : (x + y + z) % r = (x + (y + z - r)) % r := by
      rw [show x + y + z = (x + (y + z - r)) + r by omega, Nat.add_mod_right]
    rw [ee]
    congr 1
    have hq := ex_pass h ha h2
    rw [if_pos (show r ≤ x + y + z by omega), if_neg (show ¬ r ≤ x + (y + z - r) by omega)]
    rw [ex_ito h (la _) hb, ← ex_it_add, Nat.add_comm z y]
    have lq := la (y + z)
    have lw := la (y + z - r)
    have lz := lb z
    rw [← g.as hp lq lz, ← hq, g.as lw hp lz, g.as lw (g.lt hp lz) hc]
  · rw [if_neg h1] at e1
    rw [if_neg h2] at e2
    rw [if_neg h1, if_neg h2, e1, e2]
    rw [ex_pair (g.lt (la _) hb) hc, ex_pair ha (g.lt (lb _) hc)]
    rw [Nat.add_assoc x y z]
    congr 1
    rw [ex_ito h (la _) hb, ← ex_it_add, Nat.add_comm z y]
    have lq := la (y + z)
    have lz := lb z
    by_cases h3 : r ≤ x + (y + z)
    · rw [if_pos h3, if_pos h3, ← g.as hp lq lz, g.as (g.lt hp lq) lz hc]
    · rw [if_neg h3, if_neg h3, g.as lq lz hc]
theorem ex_gp (h : ex_h t r p o s) : gp_ok (r * t) (ex_op t r p o s) := by
  have g := h.1
  have ht := g.pos
  have hr := h.2.2.1
  refine ⟨Nat.mul_pos hr ht, fun u v hu hv => ?_, fun u hu => ?_, fun u hu => ?_, fun u v w hu hv hw => ?_, fun u hu => ?_⟩
  · obtain ⟨x, a, hx, ha, rfl⟩ := ex_of ht hu
    obtain ⟨y, b, hy, hb, rfl⟩ := ex_of ht hv
    exact ex_lt2 h ha hb
  · obtain ⟨x, a, hx, ha, rfl⟩ := ex_of ht hu
    have e := ex_pair (r := r) (p := p) (o := o) (s := s) (x := 0) (y := x) ht ha
    rw [Nat.zero_mul, Nat.zero_add, Nat.zero_add] at e
    rw [e, if_neg (by omega), ex_it0 h, g.l0 ha, Nat.mod_eq_of_lt hx]
  · obtain ⟨x, a, hx, ha, rfl⟩ := ex_of ht hu
    have e := ex_pair (r := r) (p := p) (o := o) (s := s) (x := x) (y := 0) ha ht
    rw [Nat.zero_mul, Nat.add_zero, Nat.add_zero] at e
    rw [e, if_neg (by omega), Nat.mod_eq_of_lt hx]
    show x * t + o a 0 = _
    rw [g.r0 ha]
  · obtain ⟨x, a, hx, ha, rfl⟩ := ex_of ht hu
    obtain ⟨y, b, hy, hb, rfl⟩ := ex_of ht hv
    obtain ⟨z, c, hz, hc, rfl⟩ := ex_of ht hw
    exact ex_as h hx hy hz ha hb hc
  · obtain ⟨x, a, hx, ha, rfl⟩ := ex_of ht hu
    by_cases h0 : x = 0
    · subst h0
      refine ⟨0 * t + gp_iv t o a, ex_lt hr (g.ivl ha), ?_⟩
      rw [ex_pair ha (g.ivl ha), if_neg (by omega)]
      show (0 + 0) % r * t + o a _ = 0
      rw [g.riv ha, Nat.zero_mod, Nat.zero_mul]
    · have hl := g.lt h.2.1 (ex_itl h ha (r - x))
      refine ⟨(r - x) * t + gp_iv t o (o p (ex_it s (r - x) a)), ex_lt (by omega) (g.ivl hl), ?_⟩
      rw [ex_pair ha (g.ivl hl), if_pos (by omega), g.riv hl, show x + (r - x) = r by omega, Nat.mod_self, Nat.zero_mul]
end
end
section
/-! The relations: orders r, weights w, powers p, conjugates c of n generators; from the last one to the first. -/
def tw_w (n : Nat) (r w : Nat → Nat) : Prop := (∀ i, i < n → 2 ≤ r i) ∧ (∀ i, i + 1 < n → w i = r (i + 1) * w (i + 1)) ∧ (∀ i, i + 1 = n → w i = 1)
theorem tw_w.pos {n : Nat} {r w : Nat → Nat} (h : tw_w n r w) : ∀ d i, i < n → n = i + d + 1 → 0 < w i
  | 0, i, _, e => by rw [h.2.2 i (by omega)]; exact Nat.one_pos
  | d + 1, i, _, e => by
    rw [h.2.1 i (by omega)]
    exact Nat.mul_pos (by have := h.1 (i + 1) (by omega); omega) (h.pos d (i + 1) (by omega) (by omega))
theorem tw_w.pos' {n : Nat} {r w : Nat → Nat} (h : tw_w n r w) {i : Nat} (hi : i < n) : 0 < w i := h.pos (n - i - 1) i hi (by omega)
/-- a later generator's whole size divides an earlier weight -/
theorem tw_w.dvd {n : Nat} {r w : Nat → Nat} (h : tw_w n r w) : ∀ d j, j + d + 1 < n → ∃ m, w j = m * (r (j + d + 1) * w (j + d + 1))
  | 0, j, hj => ⟨1, by rw [Nat.one_mul]; exact h.2.1 j hj⟩
  | d + 1, j, hj => by
    obtain ⟨m, e⟩ := h.dvd d (j + 1) (by omega)
    refine ⟨r (j + 1) * m, ?_⟩
    rw [h.2.1 j (by omega), e, Nat.mul_assoc, show j + 1 + d + 1 = j + (d + 1) + 1 by omega]
theorem tw_w.dvd' {n : Nat} {r w : Nat → Nat} (h : tw_w n r w) {j k : Nat} (hjk : j < k) (hk : k < n) : ∃ m, w j = m * (r k * w k) := by
  have := h.dvd (k - j - 1) j (by omega)
  rwa [show j + (k - j - 1) + 1 = k by omega] at this
theorem tw_w.lt {n : Nat} {r w : Nat → Nat} (h : tw_w n r w) {j k : Nat} (hjk : j < k) (hk : k < n) : w k < w j := by
  obtain ⟨m, e⟩ := h.dvd' hjk hk
  have h0 := h.pos' hk
  have h1 := h.pos' (show j < n by omega)
  have h2 := h.1 k hk
  rw [e]
  have hm : 1 ≤ m := by
    apply Nat.one_le_iff_ne_zero.mpr
    intro z
    rw [z, Nat.zero_mul] at e
    omega
  have h3 : 2 * w k ≤ r k * w k := Nat.mul_le_mul_right _ h2
  have h4 : 1 * (r k * w k) ≤ m * (r k * w k) := Nat.mul_le_mul_right _ hm
  omega
/-- the first letter of a word behind g(i) -/
theorem tw_w.lead {n : Nat} {r w : Nat → Nat} (h : tw_w n r w) {i x : Nat} (hi : i < n) (hx : x < w i) (h0 : 0 < x) : ∃ j, i < j ∧ j < n ∧ w j ≤ x ∧ x < r j * w j ∧ ∀ k, i < k → k < j → x < w k := by
  have hin : i + 1 < n := by
    apply Nat.lt_of_not_le
    intro z
    have := h.2.2 i (by omega)
    omega
  have hex : ∃ j, i < j ∧ j < n ∧ w j ≤ x := ⟨n - 1, by omega, by omega, by rw [h.2.2 (n - 1) (by omega)]; exact h0⟩
  obtain ⟨j, ⟨h1, h2, h3⟩, h4⟩ := pk_least _ hex
  have h5 : ∀ k, i < k → k < j → x < w k := fun k a b => Nat.lt_of_not_le fun z => h4 k b ⟨a, by omega, z⟩
  refine ⟨j, h1, h2, h3, ?_, h5⟩
  have e := h.2.1 (j - 1) (by omega)
  rw [show j - 1 + 1 = j by omega] at e
  rw [← e]
  by_cases hj : j = i + 1
  · subst hj
    exact hx
  · exact h5 (j - 1) (by omega) (by omega)
/-- x, then y e times -/
def tw_rp (o : Nat → Nat → Nat) (x y : Nat) : Nat → Nat
  | 0 => x
  | e + 1 => o (tw_rp o x y e) y
/-- the letters j0, j0 + 1, .. (k of them) of a, each as q says, behind st -/
def tw_sg (o : Nat → Nat → Nat) (r w q : Nat → Nat) (st a j0 : Nat) : Nat → Nat
  | 0 => st
  | k + 1 => tw_rp o (tw_sg o r w q st a j0 k) (q (j0 + k)) (a / w (j0 + k) % r (j0 + k))
section
variable {t : Nat} {o : Nat → Nat → Nat} {r w q : Nat → Nat}
theorem tw_rp_l (g : gp_ok t o) {x y : Nat} (hx : x < t) (hy : y < t) : ∀ e, tw_rp o x y e < t
  | 0 => hx
  | e + 1 => g.lt (tw_rp_l g hx hy e) hy
theorem tw_rp_o (g : gp_ok t o) {u x y : Nat} (hu : u < t) (hx : x < t) (hy : y < t) : ∀ e, tw_rp o (o u x) y e = o u (tw_rp o x y e)
  | 0 => rfl
  | e + 1 => by
    show o (tw_rp o (o u x) y e) y = o u (o (tw_rp o x y e) y)
    rw [tw_rp_o g hu hx hy e, g.as hu (tw_rp_l g hx hy e) hy]
theorem tw_rp_first (g : gp_ok t o) {x y : Nat} (hx : x < t) (hy : y < t) : ∀ e, tw_rp o x y (e + 1) = tw_rp o (o x y) y e
  | 0 => rfl
  | e + 1 => by
    show o (tw_rp o x y (e + 1)) y = o (tw_rp o (o x y) y e) y
    rw [tw_rp_first g hx hy e]
theorem tw_sg_l (g : gp_ok t o) {st a j0 : Nat} (hs : st < t) : ∀ k, (∀ j, j0 ≤ j → j < j0 + k → q j < t) → tw_sg o r w q st a j0 k < t
  | 0, _ => hs
  | k + 1, h => tw_rp_l g (tw_sg_l g hs k (fun j a b => h j a (by omega))) (h _ (by omega) (by omega)) _
theorem tw_sg_o (g : gp_ok t o) {u st a j0 : Nat} (hu : u < t) (hs : st < t) : ∀ k, (∀ j, j0 ≤ j → j < j0 + k → q j < t) → tw_sg o r w q (o u st) a j0 k = o u (tw_sg o r w q st a j0 k)
  | 0, _ => rfl
  | k + 1, h => by
    have h' : ∀ j, j0 ≤ j → j < j0 + k → q j < t := fun j a b => h j a (by omega)
    show tw_rp o (tw_sg o r w q (o u st) a j0 k) _ _ = o u (tw_rp o (tw_sg o r w q st a j0 k) _ _)
    rw [tw_sg_o g hu hs k h', tw_rp_o g hu (tw_sg_l g hs k h') (h _ (by omega) (by omega))]
theorem tw_sg_add {st a j0 k1 : Nat} : ∀ k2, tw_sg o r w q st a j0 (k1 + k2) = tw_sg o r w q (tw_sg o r w q st a j0 k1) a (j0 + k1) k2
  | 0 => rfl
  | k2 + 1 => by
    show tw_rp o (tw_sg o r w q st a j0 (k1 + k2)) (q (j0 + (k1 + k2))) (a / w (j0 + (k1 + k2)) % r (j0 + (k1 + k2))) = tw_rp o (tw_sg o r w q (tw_sg o r w q st a j0 k1) a (j0 + k1) k2) (q (j0 + k1 + k2)) (a / w (j0 + k1 + k2) % r (j0 + k1 + k2))
    rw [tw_sg_add k2, Nat.add_assoc]
theorem tw_sg_none {st a j0 : Nat} : ∀ k, (∀ j, j0 ≤ j → j < j0 + k → a / w j % r j = 0) → tw_sg o r w q st a j0 k = st
  | 0, _ => rfl
  | k + 1, h => by
    show tw_rp o (tw_sg o r w q st a j0 k) _ _ = st
    rw [h (j0 + k) (by omega) (by omega), tw_sg_none k (fun j a b => h j a (by omega))]
    rfl
theorem tw_sg_same {st a b j0 : Nat} : ∀ k, (∀ j, j0 ≤ j → j < j0 + k → a / w j % r j = b / w j % r j) → tw_sg o r w q st a j0 k = tw_sg o r w q st b j0 k
  | 0, _ => rfl
  | k + 1, h => by
    show tw_rp o (tw_sg o r w q st a j0 k) _ _ = tw_rp o (tw_sg o r w q st b j0 k) _ _
    rw [h (j0 + k) (by omega) (by omega), tw_sg_same k (fun j a b => h j a (by omega))]
end
/-- what g(i) turns a into -/
def tw_s (n : Nat) (r w : Nat → Nat) (q : Nat → Nat) (o : Nat → Nat → Nat) (i a : Nat) : Nat := tw_sg o r w q 0 a (i + 1) (n - (i + 1))
section
variable {n : Nat} {r w q : Nat → Nat} {o : Nat → Nat → Nat} {i : Nat}
theorem tw_s_l (g : gp_ok (w i) o) (hq : ∀ j, i < j → j < n → q j < w i) (a : Nat) : tw_s n r w q o i a < w i :=
  tw_sg_l g g.pos _ (fun j h1 h2 => hq j (by omega) (by omega))
theorem tw_s_0 (h : tw_w n r w) : tw_s n r w q o i 0 = 0 :=
  tw_sg_none _ (fun j _ _ => by rw [Nat.zero_div, Nat.zero_mod])
/-- the first letter, and then the rest -/
theorem tw_s_lead (h : tw_w n r w) (g : gp_ok (w i) o) (hq : ∀ j, i < j → j < n → q j < w i) {x j : Nat} (h1 : i < j) (h2 : j < n) (h3 : w j ≤ x) (h4 : x < r j * w j) (h5 : ∀ k, i < k → k < j → x < w k) :
    tw_s n r w q o i x = o (q j) (tw_s n r w q o i (x - w j)) := by
  have hwj := h.pos' h2
  unfold tw_s
  have hk : n - (i + 1) = (j - (i + 1)) + (1 + (n - (j + 1))) := by omega
  rw [hk, tw_sg_add, tw_sg_add (a := x - w j)]
  rw [tw_sg_none (st := 0) (a := x) (j0 := i + 1) (j - (i + 1)) (fun k a b => by rw [Nat.div_eq_of_lt (h5 k (by omega) (by omega)), Nat.zero_mod])]
  rw [tw_sg_none (st := 0) (a := x - w j) (j0 := i + 1) (j - (i + 1)) (fun k a b => by rw [Nat.div_eq_of_lt (by have := h5 k (by omega) (by omega); omega), Nat.zero_mod])]
  rw [tw_sg_add, tw_sg_add (a := x - w j)]
  rw [show i + 1 + (j - (i + 1)) = j by omega]
  have hqj : q j < w i := hq j h1 h2
  have e1 : x / w j % r j = (x - w j) / w j % r j + 1 := by
    have a1 : x / w j = (x - w j) / w j + 1 := by
      rw [Nat.div_eq x (w j), if_pos ⟨hwj, h3⟩]
    have a2 : x / w j < r j := (Nat.div_lt_iff_lt_mul hwj).mpr h4
    rw [Nat.mod_eq_of_lt a2, Nat.mod_eq_of_lt (by omega), a1]
  have e2 : tw_sg o r w q 0 x j 1 = o (q j) (tw_sg o r w q 0 (x - w j) j 1) := by
    show tw_rp o 0 (q (j + 0)) (x / w (j + 0) % r (j + 0)) = o (q j) (tw_rp o 0 (q (j + 0)) ((x - w j) / w (j + 0) % r (j + 0)))
    rw [Nat.add_zero, e1, tw_rp_first g g.pos hqj, ← tw_rp_o g hqj g.pos hqj, g.l0 hqj, g.r0 hqj]
  rw [e2]
  have hs : tw_sg o r w q 0 (x - w j) j 1 < w i := tw_sg_l g g.pos _ (fun k a b => hq k (by omega) (by omega))
  rw [tw_sg_o g hqj hs _ (fun k a b => hq k (by omega) (by omega))]
  congr 1
  refine tw_sg_same _ (fun k a b => ?_)
  obtain ⟨m, e⟩ := h.dvd' (show j < k by omega) (show k < n by omega)
  have hwk := h.pos' (show k < n by omega)
  have a1 : x = (x - w j) + m * r k * w k := by rw [Nat.mul_assoc, ← e]; omega
  have a2 : x / w k = (x - w j) / w k + m * r k := by
    conv => lhs; rw [a1]
    rw [Nat.add_mul_div_right _ _ hwk]
  rw [a2, Nat.add_mul_mod_self_right]
theorem tw_s_letter (h : tw_w n r w) (g : gp_ok (w i) o) (hq : ∀ j, i < j → j < n → q j < w i) {j : Nat} (h1 : i < j) (h2 : j < n) : tw_s n r w q o i (w j) = q j := by
  have hwj := h.pos' h2
  have h3 : w j < r j * w j := by
    have : 2 * w j ≤ r j * w j := Nat.mul_le_mul_right _ (h.1 j h2)
    omega
  rw [tw_s_lead h g hq h1 h2 (Nat.le_refl _) h3 (fun k a b => h.lt b h2), Nat.sub_self, tw_s_0 h, g.r0 (hq j h1 h2)]
/-- products with one letter more are enough -/
theorem tw_hom (h : tw_w n r w) (hi : i < n) (g : gp_ok (w i) o) (hq : ∀ j, i < j → j < n → q j < w i) (hwd : ∀ j x, i < j → j < n → w j ≤ x → x < r j * w j → o (w j) (x - w j) = x)
    (hl : ∀ x j, x < w i → i < j → j < n → tw_s n r w q o i (o x (w j)) = o (tw_s n r w q o i x) (q j)) :
    ∀ b, b < w i → ∀ a, a < w i → tw_s n r w q o i (o a b) = o (tw_s n r w q o i a) (tw_s n r w q o i b) := by
  intro b
  induction b using Nat.strongRecOn with
  | ind b ih =>
    intro hb a ha
    by_cases h0 : b = 0
    · subst h0
      rw [g.r0 ha, tw_s_0 h, g.r0 (tw_s_l g hq a)]
    · obtain ⟨j, h1, h2, h3, h4, h5⟩ := h.lead hi hb (by omega)
      have hwj := h.pos' h2
      have hwl : w j < w i := h.lt h1 h2
      have hr : b - w j < w i := by omega
      have e := hwd j b h1 h2 h3 h4
      rw [tw_s_lead h g hq h1 h2 h3 h4 h5]
      conv => lhs; rw [← e]
      rw [← g.as ha hwl hr, ih (b - w j) (by omega) hr _ (g.lt ha hwl), hl a j ha h1 h2, g.as (tw_s_l g hq a) (hq j h1 h2) (tw_s_l g hq _)]
end
end
section
/-! The groups of the words behind, level by level (d generators: the last d). -/
def tw_op (n : Nat) (r w p : Nat → Nat) (c : Nat → Nat → Nat) : Nat → Nat → Nat → Nat
  | 0 => fun _ _ => 0
  | d + 1 => ex_op (w (n - (d + 1))) (r (n - (d + 1))) (p (n - (d + 1))) (tw_op n r w p c d) (tw_s n r w (c (n - (d + 1))) (tw_op n r w p c d) (n - (d + 1)))
/-- the level of g(i) holds together over what is behind it (d generators) -/
def tw_lv (n : Nat) (r w p : Nat → Nat) (c : Nat → Nat → Nat) (d i : Nat) : Prop :=
  ex_h (w i) (r i) (p i) (tw_op n r w p c d) (tw_s n r w (c i) (tw_op n r w p c d) i)
def tw_ok (n : Nat) (r w p : Nat → Nat) (c : Nat → Nat → Nat) (d : Nat) : Prop := ∀ k, k < d → tw_lv n r w p c k (n - (k + 1))
def tw_sz (n : Nat) (r w : Nat → Nat) (d : Nat) : Nat := if d = 0 then 1 else r (n - d) * w (n - d)
section
variable {n : Nat} {r w p : Nat → Nat} {c : Nat → Nat → Nat}
theorem tw_sz_w (h : tw_w n r w) {d : Nat} (hd : d < n) : tw_sz n r w d = w (n - (d + 1)) := by
  unfold tw_sz
  by_cases h0 : d = 0
  · rw [if_pos h0, h0, h.2.2 _ (by omega)]
  · rw [if_neg h0]
    have e := h.2.1 (n - (d + 1)) (by omega)
    rw [show n - (d + 1) + 1 = n - d by omega] at e
    exact e.symm
theorem tw_ok.le {d k : Nat} (h : tw_ok n r w p c d) (hk : k ≤ d) : tw_ok n r w p c k := fun j hj => h j (by omega)
theorem tw_gp (h : tw_w n r w) : ∀ d, d ≤ n → tw_ok n r w p c d → gp_ok (tw_sz n r w d) (tw_op n r w p c d)
  | 0, _, _ => by
    refine ⟨Nat.one_pos, fun _ _ _ _ => Nat.one_pos, fun a ha => ?_, fun a ha => ?_, fun _ _ _ _ _ _ => rfl, fun a _ => ⟨0, Nat.one_pos, rfl⟩⟩
    · have : a < 1 := ha
      show 0 = a
      omega
    · have : a < 1 := ha
      show 0 = a
      omega
  | d + 1, hd, hk => by
    have h1 := ex_gp (hk d (by omega))
    have e : tw_sz n r w (d + 1) = r (n - (d + 1)) * w (n - (d + 1)) := by unfold tw_sz; rw [if_neg (by omega)]
    rw [e]
    exact h1
theorem tw_gp' (h : tw_w n r w) {d : Nat} (hd : d < n) (hk : tw_ok n r w p c d) : gp_ok (w (n - (d + 1))) (tw_op n r w p c d) := by
  rw [← tw_sz_w h hd]
  exact tw_gp h d (by omega) hk
theorem tw_low (h : tw_w n r w) {d a b : Nat} (hd : d < n) (ha : a < w (n - (d + 1))) (hb : b < w (n - (d + 1))) : tw_op n r w p c (d + 1) a b = tw_op n r w p c d a b := by
  show ex_op _ _ _ _ _ a b = _
  have e := ex_pair (r := r (n - (d + 1))) (p := p (n - (d + 1))) (o := tw_op n r w p c d) (s := tw_s n r w (c (n - (d + 1))) (tw_op n r w p c d) (n - (d + 1))) (x := 0) (y := 0) ha hb
  rw [Nat.zero_mul, Nat.zero_add, Nat.zero_add] at e
  have hr := h.1 (n - (d + 1)) (by omega)
  rw [e, if_neg (by omega), Nat.add_zero, Nat.zero_mod, Nat.zero_mul, Nat.zero_add]
  rfl
theorem tw_wd (h : tw_w n r w) : ∀ d, d ≤ n → tw_ok n r w p c d → ∀ j x, n - d ≤ j → j < n → w j ≤ x → x < r j * w j → tw_op n r w p c d (w j) (x - w j) = x
  | 0, _, _, j, x, h1, h2, _, _ => absurd h2 (by omega)
  | d + 1, hd, hk, j, x, h1, h2, h3, h4 => by
    by_cases hj : j = n - (d + 1)
    · have hl := hk d (by omega)
      have g := hl.1
      have ht := h.pos' h2
      obtain ⟨e, a, he, ha, hx⟩ := ex_of ht h4
      subst hj
      have he1 : 1 ≤ e := by
        apply Nat.one_le_iff_ne_zero.mpr
        intro z
        rw [z, Nat.zero_mul, Nat.zero_add] at hx
        omega
      have hx2 : x - w (n - (d + 1)) = (e - 1) * w (n - (d + 1)) + a := by
        have : e * w (n - (d + 1)) = (e - 1) * w (n - (d + 1)) + w (n - (d + 1)) := by
          conv => lhs; rw [show e = (e - 1) + 1 by omega]
          rw [Nat.add_mul, Nat.one_mul]
        omega
      have q := ex_pair (r := r (n - (d + 1))) (p := p (n - (d + 1))) (o := tw_op n r w p c d) (s := tw_s n r w (c (n - (d + 1))) (tw_op n r w p c d) (n - (d + 1))) (x := 1) (y := e - 1) ht ha
      rw [Nat.one_mul, Nat.add_zero (w (n - (d + 1))), ← hx2] at q
      show ex_op _ _ _ _ _ _ _ = x
      rw [q, if_neg (by omega), ex_it0 hl, g.l0 ha, show 1 + (e - 1) = e by omega, Nat.mod_eq_of_lt he]
      exact hx.symm
    · have hwj : w j < w (n - (d + 1)) := h.lt (by omega) h2
      have hx : x < w (n - (d + 1)) := by
        have e := h.2.1 (j - 1) (by omega)
        rw [show j - 1 + 1 = j by omega] at e
        rw [← e] at h4
        by_cases q : j - 1 = n - (d + 1)
        · rw [← q]; exact h4
        · have := h.lt (show n - (d + 1) < j - 1 by omega) (by omega)
          omega
      rw [tw_low h (by omega) hwj (by omega)]
      exact tw_wd h d (by omega) (hk.le (by omega)) j x (by omega) h2 h3 h4
/-- the three questions of a level are what holding together is -/
theorem tw_lv_iff (h : tw_w n r w) {d : Nat} (hd : d < n) (hk : tw_ok n r w p c d) (hp : p (n - (d + 1)) < w (n - (d + 1))) (hc : ∀ j, n - (d + 1) < j → j < n → c (n - (d + 1)) j < w (n - (d + 1))) :
    tw_lv n r w p c d (n - (d + 1)) ↔
      ((∀ x j, x < w (n - (d + 1)) → n - (d + 1) < j → j < n → tw_s n r w (c (n - (d + 1))) (tw_op n r w p c d) (n - (d + 1)) (tw_op n r w p c d x (w j)) = tw_op n r w p c d (tw_s n r w (c (n - (d + 1))) (tw_op n r w p c d) (n - (d + 1)) x) (c (n - (d + 1)) j)) ∧
      tw_s n r w (c (n - (d + 1))) (tw_op n r w p c d) (n - (d + 1)) (p (n - (d + 1))) = p (n - (d + 1)) ∧
      ∀ x, x < w (n - (d + 1)) → tw_op n r w p c d (p (n - (d + 1))) (ex_it (tw_s n r w (c (n - (d + 1))) (tw_op n r w p c d) (n - (d + 1))) (r (n - (d + 1))) x) = tw_op n r w p c d x (p (n - (d + 1)))) := by
  have g := tw_gp' h hd hk
  constructor
  · intro q
    refine ⟨fun x j hx h1 h2 => ?_, q.2.2.2.2.2.1, fun x hx => (q.2.2.2.2.2.2 x hx).symm⟩
    rw [q.2.2.2.2.1 x (w j) hx (h.lt h1 h2), tw_s_letter h g hc h1 h2]
  · rintro ⟨q1, q2, q3⟩
    have hr := h.1 (n - (d + 1)) (by omega)
    refine ⟨g, hp, by omega, fun a _ => tw_s_l g hc a, fun a b ha hb => ?_, q2, fun a ha => (q3 a ha).symm⟩
    exact tw_hom h (by omega) g hc (fun j x h1 h2 h3 h4 => tw_wd h d (by omega) hk j x (by omega) h2 h3 h4) q1 b hb a ha
/-- the inverse, generator by generator -/
def tw_iv (n : Nat) (r w p : Nat → Nat) (c : Nat → Nat → Nat) : Nat → Nat → Nat
  | 0, _ => 0
  | d + 1, a =>
    if 0 < a / w (n - (d + 1)) then
      (r (n - (d + 1)) - a / w (n - (d + 1))) * w (n - (d + 1)) + tw_iv n r w p c d (tw_op n r w p c d (p (n - (d + 1))) (ex_it (tw_s n r w (c (n - (d + 1))) (tw_op n r w p c d) (n - (d + 1))) (r (n - (d + 1)) - a / w (n - (d + 1))) (a % w (n - (d + 1)))))
    else tw_iv n r w p c d (a % w (n - (d + 1)))
theorem tw_iv_ok (h : tw_w n r w) : ∀ d, d ≤ n → tw_ok n r w p c d → ∀ a, a < tw_sz n r w d → tw_iv n r w p c d a < tw_sz n r w d ∧ tw_op n r w p c d a (tw_iv n r w p c d a) = 0
  | 0, _, _, a, ha => ⟨Nat.one_pos, rfl⟩
  | d + 1, hd, hk, a, ha => by
    have hl := hk d (by omega)
    have g := hl.1
    have ht := g.pos
    have hz : tw_sz n r w (d + 1) = r (n - (d + 1)) * w (n - (d + 1)) := by unfold tw_sz; rw [if_neg (by omega)]
    rw [hz] at ha ⊢
    have hw := tw_sz_w h (show d < n by omega)
    have ih := tw_iv_ok h d (by omega) (hk.le (by omega))
    rw [hw] at ih
    obtain ⟨e, x, he, hx, rfl⟩ := ex_of ht ha
    unfold tw_iv
    rw [(ex_d hx).1, (ex_d hx).2]
    by_cases h0 : 0 < e
    · rw [if_pos h0]
      have hy := g.lt hl.2.1 (ex_itl hl hx (r (n - (d + 1)) - e))
      obtain ⟨i1, i2⟩ := ih _ hy
      refine ⟨ex_lt (by omega) i1, ?_⟩
      show ex_op _ _ _ _ _ _ _ = 0
      rw [ex_pair hx i1, if_pos (by omega), i2, show e + (r (n - (d + 1)) - e) = r (n - (d + 1)) by omega, Nat.mod_self, Nat.zero_mul]
    · rw [if_neg h0]
      obtain ⟨i1, i2⟩ := ih _ hx
      have e0 : e = 0 := by omega
      subst e0
      have hr := h.1 (n - (d + 1)) (by omega)
      have hb : tw_iv n r w p c d x < r (n - (d + 1)) * w (n - (d + 1)) := by
        have := ex_lt (show 0 < r (n - (d + 1)) by omega) i1
        omega
      refine ⟨hb, ?_⟩
      rw [Nat.zero_mul, Nat.zero_add, tw_low h (by omega) hx i1]
      exact i2
end
end
section
/-! The look-up tables: what each level's two rows hold, and that the look-ups give the product and the inverse. -/
def tb_s (n : Nat) (r w p : Nat → Nat) (c : Nat → Nat → Nat) (i : Nat) : Nat → Nat := tw_s n r w (c i) (tw_op n r w p c (n - (i + 1))) i
def tb_ok (n : Nat) (r w p : Nat → Nat) (c mv cr : Nat → Nat → Nat) (i : Nat) : Prop :=
  ∀ k, k < r i * w i → mv i k = ex_it (tb_s n r w p c i) (k / w i) (k % w i) ∧ cr i k = tw_op n r w p c (n - (i + 1)) (p i) (ex_it (tb_s n r w p c i) (k / w i) (k % w i))
section
variable {n : Nat} {r w p : Nat → Nat} {c mv cr : Nat → Nat → Nat}
theorem tb_at {i : Nat} (h : tb_ok n r w p c mv cr i) {y a : Nat} (hy : y < r i) (ha : a < w i) : mv i (y * w i + a) = ex_it (tb_s n r w p c i) y a ∧ cr i (y * w i + a) = tw_op n r w p c (n - (i + 1)) (p i) (ex_it (tb_s n r w p c i) y a) := by
  have := h (y * w i + a) (ex_lt hy ha)
  rw [(ex_d ha).1, (ex_d ha).2] at this
  exact this
theorem tw_szi (h : tw_w n r w) {i : Nat} (hi : i < n) : tw_sz n r w (n - i) = r i * w i ∧ tw_sz n r w (n - (i + 1)) = w i := by
  constructor
  · unfold tw_sz
    rw [if_neg (by omega), show n - (n - i) = i by omega]
  · have := tw_sz_w h (show n - (i + 1) < n by omega)
    rw [show n - (n - (i + 1) + 1) = i by omega] at this
    exact this
theorem tw_lvi {i : Nat} (hi : i < n) (hk : tw_ok n r w p c (n - i)) : ex_h (w i) (r i) (p i) (tw_op n r w p c (n - (i + 1))) (tb_s n r w p c i) := by
  have := hk (n - (i + 1)) (by omega)
  rw [show n - (n - (i + 1) + 1) = i by omega] at this
  exact this
theorem tw_opi {i : Nat} (hi : i < n) : tw_op n r w p c (n - i) = ex_op (w i) (r i) (p i) (tw_op n r w p c (n - (i + 1))) (tb_s n r w p c i) := by
  conv => lhs; rw [show n - i = (n - (i + 1)) + 1 by omega]
  show ex_op (w (n - (n - (i + 1) + 1))) _ _ _ _ = _
  rw [show n - (n - (i + 1) + 1) = i by omega]
  rfl
/-- one level of a product by look-up -/
theorem tw_step (h : tw_w n r w) {i a b : Nat} (hi : i < n) (hk : tw_ok n r w p c (n - i)) (ht : tb_ok n r w p c mv cr i) (ha : a < tw_sz n r w (n - i)) (hb : b < tw_sz n r w (n - i)) :
    b - b % w i + a % w i < r i * w i ∧ a / w i < r i ∧ b / w i < r i ∧ b % w i < w i ∧
      (r i ≤ a / w i + b / w i → cr i (b - b % w i + a % w i) < w i ∧ tw_op n r w p c (n - i) a b = (a / w i + b / w i - r i) * w i + tw_op n r w p c (n - (i + 1)) (cr i (b - b % w i + a % w i)) (b % w i)) ∧
      (a / w i + b / w i < r i → mv i (b - b % w i + a % w i) < w i ∧ tw_op n r w p c (n - i) a b = (a / w i + b / w i) * w i + tw_op n r w p c (n - (i + 1)) (mv i (b - b % w i + a % w i)) (b % w i)) := by
  have hl := tw_lvi hi hk
  have g := hl.1
  rw [(tw_szi h hi).1] at ha hb
  rw [tw_opi hi]
  obtain ⟨x, a0, hx, ha0, rfl⟩ := ex_of g.pos ha
  obtain ⟨y, b0, hy, hb0, rfl⟩ := ex_of g.pos hb
  clear ha hb
  revert ha0 hb0
  intro ha hb
  have ht' := tb_at ht hy ha
  rw [ex_pair ha hb, (ex_d ha).1, (ex_d ha).2, (ex_d hb).1, (ex_d hb).2]
  have e1 : y * w i + b0 - b0 + a0 = y * w i + a0 := by omega
  rw [e1, ht'.1, ht'.2]
  refine ⟨ex_lt hy ha, hx, hy, hb, fun hc => ⟨g.lt hl.2.1 (ex_itl hl ha y), ?_⟩, fun hc => ⟨ex_itl hl ha y, ?_⟩⟩
  · rw [if_pos hc, Nat.mod_eq_sub_mod hc, Nat.mod_eq_of_lt (show x + y - r i < r i by omega)]
  · rw [if_neg (by omega), Nat.mod_eq_of_lt hc]
/-- one level of an inverse by look-up -/
theorem tw_istep (h : tw_w n r w) {i a : Nat} (hi : i < n) (hk : tw_ok n r w p c (n - i)) (ht : tb_ok n r w p c mv cr i) (ha : a < tw_sz n r w (n - i)) :
    a / w i < r i ∧ a % w i < w i ∧ (0 < a / w i → (r i - a / w i) * w i + a % w i < r i * w i ∧ cr i ((r i - a / w i) * w i + a % w i) < w i ∧ tw_iv n r w p c (n - i) a = (r i - a / w i) * w i + tw_iv n r w p c (n - (i + 1)) (cr i ((r i - a / w i) * w i + a % w i))) ∧
      (a / w i = 0 → tw_iv n r w p c (n - i) a = tw_iv n r w p c (n - (i + 1)) (a % w i)) := by
  have hl := tw_lvi hi hk
  have g := hl.1
  rw [(tw_szi h hi).1] at ha
  have e : tw_iv n r w p c (n - i) a = if 0 < a / w i then (r i - a / w i) * w i + tw_iv n r w p c (n - (i + 1)) (tw_op n r w p c (n - (i + 1)) (p i) (ex_it (tb_s n r w p c i) (r i - a / w i) (a % w i))) else tw_iv n r w p c (n - (i + 1)) (a % w i) := by
    have e0 : ∀ k, tw_iv n r w p c (k + 1) a = if 0 < a / w (n - (k + 1)) then (r (n - (k + 1)) - a / w (n - (k + 1))) * w (n - (k + 1)) + tw_iv n r w p c k (tw_op n r w p c k (p (n - (k + 1))) (ex_it (tw_s n r w (c (n - (k + 1))) (tw_op n r w p c k) (n - (k + 1))) (r (n - (k + 1)) - a / w (n - (k + 1))) (a % w (n - (k + 1))))) else tw_iv n r w p c k (a % w (n - (k + 1))) := fun k => rfl
    have e1 := e0 (n - (i + 1))
    rw [show n - (n - (i + 1) + 1) = i by omega, show n - (i + 1) + 1 = n - i by omega] at e1
    exact e1
  rw [e]
  obtain ⟨x, a0, hx, ha0, rfl⟩ := ex_of g.pos ha
  clear ha
  revert ha0
  intro ha
  rw [(ex_d ha).1, (ex_d ha).2]
  refine ⟨hx, ha, fun hc => ?_, fun hc => by rw [if_neg (by omega)]⟩
  have hy : r i - x < r i := by omega
  have ht' := tb_at ht hy ha
  rw [if_pos hc, ht'.2]
  exact ⟨ex_lt hy ha, g.lt hl.2.1 (ex_itl hl ha _), rfl⟩
/-- the whole group -/
theorem tw_all (h : tw_w n r w) (hk : tw_ok n r w p c n) : gp_ok (tw_sz n r w n) (tw_op n r w p c n) := tw_gp h n (Nat.le_refl n) hk
theorem tw_ivg (h : tw_w n r w) (hk : tw_ok n r w p c n) {a : Nat} (ha : a < tw_sz n r w n) : tw_iv n r w p c n a = gp_iv (tw_sz n r w n) (tw_op n r w p c n) a := by
  obtain ⟨h1, h2⟩ := tw_iv_ok h n (Nat.le_refl n) hk a ha
  exact (tw_all h hk).ivu ha h1 h2
theorem tw_w.sz {n : Nat} {r w : Nat → Nat} (h : tw_w n r w) {j : Nat} (hj : j < n) : r j * w j ≤ tw_sz n r w n := by
  unfold tw_sz
  rw [if_neg (by omega), Nat.sub_self]
  by_cases e : j = 0
  · subst e; exact Nat.le_refl _
  · have e1 := h.2.1 (j - 1) (by omega)
    rw [show j - 1 + 1 = j by omega] at e1
    rw [← e1]
    have h0 := h.1 0 (by omega)
    have h1 : 2 * w 0 ≤ r 0 * w 0 := Nat.mul_le_mul_right _ h0
    by_cases e2 : j - 1 = 0
    · rw [e2]; omega
    · have := h.lt (show 0 < j - 1 by omega) (show j - 1 < n by omega)
      omega
theorem tw_w.ltN {n : Nat} {r w : Nat → Nat} (h : tw_w n r w) {j : Nat} (hj : j < n) : w j < tw_sz n r w n := by
  have h1 := h.sz hj
  have h2 : 2 * w j ≤ r j * w j := Nat.mul_le_mul_right _ (h.1 j hj)
  have := h.pos' hj
  omega
/-- every element is a product of the generators -/
theorem tw_gn (h : tw_w n r w) (hk : tw_ok n r w p c n) : ∀ a, a < tw_sz n r w n → gp_gn (tw_sz n r w n) (tw_op n r w p c n) (fun x => ∃ j, j < n ∧ x = w j) a := by
  intro a
  induction a using Nat.strongRecOn with
  | ind a ih =>
    intro ha
    have g := tw_all h hk
    have hX : ∀ x, (∃ j, j < n ∧ x = w j) → x < tw_sz n r w n := fun x hx => by obtain ⟨j, hj, rfl⟩ := hx; exact h.ltN hj
    have hs := gp_gn.sb g hX
    by_cases h0 : a = 0
    · subst h0; exact hs.1
    · have hn : 0 < n := by
        apply Nat.pos_of_ne_zero
        intro z
        subst z
        have : a < 1 := ha
        omega
      have hj : ∃ j, j < n ∧ w j ≤ a ∧ a < r j * w j := by
        have hz : tw_sz n r w n = r 0 * w 0 := by unfold tw_sz; rw [if_neg (by omega), Nat.sub_self]
        by_cases h1 : w 0 ≤ a
        · exact ⟨0, hn, h1, by rw [← hz]; exact ha⟩
        · obtain ⟨j, a1, a2, a3, a4, a5⟩ := h.lead hn (show a < w 0 by omega) (by omega)
          exact ⟨j, a2, a3, a4⟩
      obtain ⟨j, j1, j2, j3⟩ := hj
      have e := tw_wd h n (Nat.le_refl n) hk j a (by omega) j1 j2 j3
      have hp := h.pos' j1
      rw [← e]
      exact hs.2.2 _ _ (gp_gn.in ⟨j, j1, rfl⟩) (ih (a - w j) (by omega) (by omega))
end
end
section
/-! Rows of members without repetition; what the closing loops come to. -/
def ls_add (l : List Nat) (a : Nat) : List Nat := if a ∈ l then l else l ++ [a]
theorem ls_add_mem {l : List Nat} {a x : Nat} : x ∈ ls_add l a ↔ x ∈ l ∨ x = a := by
  unfold ls_add
  by_cases h : a ∈ l
  · rw [if_pos h]
    exact ⟨Or.inl, fun q => q.elim id (fun e => by rw [e]; exact h)⟩
  · rw [if_neg h, List.mem_append, List.mem_singleton]
theorem ls_add_nd {l : List Nat} {a : Nat} (h : l.Nodup) : (ls_add l a).Nodup := by
  unfold ls_add
  by_cases q : a ∈ l
  · rw [if_pos q]; exact h
  · rw [if_neg q]
    refine List.nodup_append.mpr ⟨h, by simp, ?_⟩
    intro x hx y hy e
    rw [List.mem_singleton] at hy
    rw [e, hy] at hx
    exact q hx
theorem ls_add_len {l : List Nat} {a : Nat} : l.length ≤ (ls_add l a).length := by
  unfold ls_add
  by_cases q : a ∈ l
  · rw [if_pos q]; exact Nat.le_refl _
  · rw [if_neg q, List.length_append]; omega
theorem ls_add_at {l : List Nat} {a i : Nat} (h : i < l.length) : (ls_add l a).getD i 0 = l.getD i 0 := by
  unfold ls_add
  by_cases q : a ∈ l
  · rw [if_pos q]
  · rw [if_neg q, List.getD_eq_getElem?_getD, List.getD_eq_getElem?_getD, List.getElem?_append_left h]
theorem ls_at_mem {l : List Nat} {i : Nat} (h : i < l.length) : l.getD i 0 ∈ l := by
  rw [List.getD_eq_getElem?_getD, List.getElem?_eq_getElem h]
  exact List.getElem_mem h
theorem ls_mem_at {l : List Nat} {x : Nat} (h : x ∈ l) : ∃ i, i < l.length ∧ l.getD i 0 = x := by
  obtain ⟨i, hi, e⟩ := List.mem_iff_getElem.mp h
  exact ⟨i, hi, by rw [List.getD_eq_getElem?_getD, List.getElem?_eq_getElem hi]; exact e⟩
/-- how many numbers below N are in a row without repetition -/
theorem ls_ct {N : Nat} : ∀ {l : List Nat}, l.Nodup → (∀ a, a ∈ l → a < N) → gp_ct (fun a => decide (a ∈ l)) N = l.length
  | [], _, _ => gp_ct_none (fun a _ => by simp)
  | a :: l, h, hN => by
    have h1 := List.nodup_cons.mp h
    rw [gp_ct_add (p := fun x => decide (x ∈ l)) (q := fun x => decide (x ∈ a :: l)) (x := a) (by simp [h1.1]) (by simp) (fun b hb => by simp [hb]) (hN a List.mem_cons_self), ls_ct h1.2 (fun b hb => hN b (List.mem_cons_of_mem _ hb)), List.length_cons]
theorem ls_le {N : Nat} {l : List Nat} (h : l.Nodup) (hN : ∀ a, a ∈ l → a < N) : l.length ≤ N := by
  rw [← ls_ct h hN]
  exact gp_ct_le _ _
/-- all of them: no room for another -/
theorem ls_full {N : Nat} {l : List Nat} (h : l.Nodup) (hN : ∀ a, a ∈ l → a < N) {a : Nat} (ha : a < N) (hn : a ∉ l) : l.length < N := by
  have h1 := ls_le (N := N) (l := ls_add l a) (ls_add_nd h) (fun x hx => by rcases ls_add_mem.mp hx with q | q; exact hN x q; rw [q]; exact ha)
  unfold ls_add at h1
  rw [if_neg hn, List.length_append] at h1
  have : [a].length = 1 := rfl
  omega
theorem ls_same {N : Nat} {l l' : List Nat} (h : l.Nodup) (hN : ∀ a, a ∈ l → a < N) (h' : l'.Nodup) (hN' : ∀ a, a ∈ l' → a < N) (e : ∀ x, x ∈ l ↔ x ∈ l') : l.length = l'.length := by
  rw [← ls_ct h hN, ← ls_ct h' hN']
  exact gp_ct_congr (fun a _ => by simp only [e a])
/-- a set's number of elements -/
noncomputable def cb_p (P : Nat → Prop) : Nat → Bool := fun a => @decide (P a) (Classical.propDecidable _)
theorem cb_p_t {P : Nat → Prop} {a : Nat} : cb_p P a = true ↔ P a := by
  unfold cb_p
  exact @decide_eq_true_iff (P a) (Classical.propDecidable _)
theorem cb_p_f {P : Nat → Prop} {a : Nat} : cb_p P a = false ↔ ¬ P a := by
  constructor
  · intro h q
    rw [cb_p_t.mpr q] at h
    cases h
  · intro h
    cases e : cb_p P a with
    | false => rfl
    | true => exact absurd (cb_p_t.mp e) h
noncomputable def gp_cd (N : Nat) (P : Nat → Prop) : Nat := gp_ct (cb_p P) N
theorem gp_cd_ls {N : Nat} {P : Nat → Prop} {l : List Nat} (h : l.Nodup) (hN : ∀ a, a ∈ l → a < N) (e : ∀ x, x < N → (x ∈ l ↔ P x)) : l.length = gp_cd N P := by
  rw [← ls_ct h hN]
  refine gp_ct_congr (fun a ha => ?_)
  have := e a ha
  by_cases q : P a
  · rw [cb_p_t.mpr q]; simp [this.mpr q]
  · rw [cb_p_f.mpr q]; exact decide_eq_false (fun z => q (this.mp z))
theorem gp_cd_congr {N : Nat} {P P' : Nat → Prop} (e : ∀ x, x < N → (P x ↔ P' x)) : gp_cd N P = gp_cd N P' :=
  gp_ct_congr (fun a ha => by
    by_cases q : P a
    · rw [cb_p_t.mpr q, cb_p_t.mpr ((e a ha).mp q)]
    · rw [cb_p_f.mpr q, cb_p_f.mpr (fun z => q ((e a ha).mpr z))])
theorem gp_cd_le (N : Nat) (P : Nat → Prop) : gp_cd N P ≤ N := gp_ct_le _ _
theorem gp_cd_half {N : Nat} {o : Nat → Nat → Nat} (g : gp_ok N o) {S T : Nat → Prop} (hS : gp_sb N o S) (hT : gp_sb N o T) (h : ∀ a, S a → T a) {x : Nat} (hx : T x) (hn : ¬ S x) : 2 * gp_cd N S ≤ gp_cd N T :=
  gp_half g (p := cb_p S) (q := cb_p T)
    ⟨⟨g.pos, cb_p_t.mpr hS.1⟩, fun a q => q.1, fun a b q1 q2 => ⟨g.lt q1.1 q2.1, cb_p_t.mpr (hS.2.2 a b (cb_p_t.mp q1.2) (cb_p_t.mp q2.2))⟩⟩
    ⟨⟨g.pos, cb_p_t.mpr hT.1⟩, fun a q => q.1, fun a b q1 q2 => ⟨g.lt q1.1 q2.1, cb_p_t.mpr (hT.2.2 a b (cb_p_t.mp q1.2) (cb_p_t.mp q2.2))⟩⟩
    (fun a _ q => cb_p_t.mpr (h a (cb_p_t.mp q))) (hT.2.1 x hx) (cb_p_t.mpr hx) (cb_p_f.mpr hn)
theorem gp_gn_ext {N : Nat} {o : Nat → Nat → Nat} {X Y : Nat → Prop} (h : ∀ x, X x ↔ Y x) (a : Nat) : gp_gn N o X a ↔ gp_gn N o Y a := ⟨gp_gn.mono (fun x => (h x).mp), gp_gn.mono (fun x => (h x).mpr)⟩
/-- a row closed under the basis to the right holds just what the basis generates -/
theorem ls_closed {N : Nat} {o : Nat → Nat → Nat} (g : gp_ok N o) {l bs : List Nat} (hb : ∀ b, b ∈ bs → b < N) (h0 : 0 ∈ l) (hg : ∀ x, x ∈ l → gp_gn N o (fun y => y ∈ bs) x) (hc : ∀ i, i < l.length → ∀ b, b ∈ bs → o (l.getD i 0) b ∈ l) : ∀ x, x ∈ l ↔ gp_gn N o (fun y => y ∈ bs) x := by
  intro x
  refine ⟨hg x, fun h => gp_gn.of (S := fun a => a ∈ l) g (fun x hx => hb x hx) h0 (fun a b ha hb' => ?_) h⟩
  obtain ⟨i, hi, e⟩ := ls_mem_at ha
  rw [← e]
  exact hc i hi b hb'
/-- one more generator that wasn't in it: twice as many at least -/
theorem ls_twice {N : Nat} {o : Nat → Nat → Nat} (g : gp_ok N o) {l l' bs bs' : List Nat} (h1 : l.Nodup) (h2 : ∀ a, a ∈ l → a < N) (h1' : l'.Nodup) (h2' : ∀ a, a ∈ l' → a < N) (hb : ∀ b, b ∈ bs → b < N) (hb' : ∀ b, b ∈ bs' → b < N) (e : ∀ x, x ∈ l ↔ gp_gn N o (fun y => y ∈ bs) x) (e' : ∀ x, x ∈ l' ↔ gp_gn N o (fun y => y ∈ bs') x) (hs : ∀ b, b ∈ bs → b ∈ bs') {a : Nat} (ha : a ∈ bs') (hn : a ∉ l) : 2 * l.length ≤ l'.length := by
  have hS := gp_gn.sb (X := fun y => y ∈ bs) g hb
  have hT := gp_gn.sb (X := fun y => y ∈ bs') g hb'
  have := gp_cd_half g hS hT (fun x hx => gp_gn.mono (fun y hy => hs y hy) hx) (x := a) (gp_gn.in ha) (fun q => hn ((e a).mpr q))
  rw [← gp_cd_ls h1 h2 (fun x _ => e x), ← gp_cd_ls h1' h2' (fun x _ => e' x)] at this
  exact this
/-- all conjugates of a subgroup, generated: by a basis that bears conjugation -/
theorem gp_spread {N : Nat} {o : Nat → Nat → Nat} (g : gp_ok N o) {bs bs' bw : List Nat} (hb : ∀ b, b ∈ bs → b < N) (hb' : ∀ b, b ∈ bs' → b < N) (hw : ∀ b, b ∈ bw → b < N) (hall : ∀ x, x < N → gp_gn N o (fun y => y ∈ bw) x)
    (hs : ∀ b, b ∈ bs → gp_gn N o (fun y => y ∈ bs') b) (hc : ∀ y b, y ∈ bs' → b ∈ bw → gp_gn N o (fun y => y ∈ bs') (gp_cj N o y b))
    (hm : ∀ K : Nat → Prop, gp_sb N o K → (∀ b, b ∈ bs → K b) → (∀ k b, K k → b ∈ bw → K (gp_cj N o k b)) → ∀ b, b ∈ bs' → K b) :
    ∀ x, gp_gn N o (fun y => y ∈ bs') x ↔ gp_gn N o (fun c => ∃ a b, gp_gn N o (fun y => y ∈ bs) a ∧ b < N ∧ c = gp_cj N o a b) x := by
  have hS := gp_gn.sb (X := fun y => y ∈ bs) g hb
  have hS' := gp_gn.sb (X := fun y => y ∈ bs') g hb'
  have hY : ∀ c, (∃ a b, gp_gn N o (fun y => y ∈ bs) a ∧ b < N ∧ c = gp_cj N o a b) → c < N := fun c hc => by
    obtain ⟨a, b, h1, h2, rfl⟩ := hc
    exact g.cjl (hS.2.1 a h1) h2
  have hK := gp_gn.sb g hY
  intro x
  constructor
  · intro h
    refine gp_gn.le hK (fun b hb1 => hm _ hK (fun b hb2 => ?_) (fun k b hk hb2 => ?_) b hb1) h
    · refine gp_gn.in ⟨b, 0, gp_gn.in hb2, g.pos, ?_⟩
      rw [g.cj0 (hb b hb2)]
    · refine gp_cjg g hK hY (hw b hb2) (fun y hy => ?_) k hk
      obtain ⟨a, b', h1, h2, rfl⟩ := hy
      exact gp_gn.in ⟨a, o b' b, h1, g.lt h2 (hw b hb2), (g.cjc (hS.2.1 a h1) h2 (hw b hb2)).symm⟩
  · intro h
    have h1 : ∀ k b, gp_gn N o (fun y => y ∈ bs') k → b ∈ bw → gp_gn N o (fun y => y ∈ bs') (gp_cj N o k b) := fun k b hk hb2 => gp_cjg g hS' hb' (hw b hb2) (fun y hy => hc y b hy hb2) k hk
    have h2 := gp_nrm g (X := fun y => y ∈ bw) hS' hw (fun k x hk hx => h1 k x hk hx)
    refine gp_gn.le hS' (fun c hc2 => ?_) h
    obtain ⟨a, b, h3, h4, rfl⟩ := hc2
    exact h2 a b (gp_gn.le hS' (fun y hy => hs y hy) h3) (hall b h4)
/-- the commutator subgroup: by the commutators of two bases, closed under conjugation by both -/
theorem gp_comm {N : Nat} {o : Nat → Nat → Nat} (g : gp_ok N o) {bs bt bu : List Nat} (hs : ∀ b, b ∈ bs → b < N) (ht : ∀ b, b ∈ bt → b < N) (hu : ∀ b, b ∈ bu → b < N)
    (h1 : ∀ x y, x ∈ bs → y ∈ bt → gp_gn N o (fun y => y ∈ bu) (gp_cm N o x y)) (h2 : ∀ y b, y ∈ bu → b ∈ bs → gp_gn N o (fun y => y ∈ bu) (gp_cj N o y b)) (h3 : ∀ y b, y ∈ bu → b ∈ bt → gp_gn N o (fun y => y ∈ bu) (gp_cj N o y b))
    (hm : ∀ K : Nat → Prop, gp_sb N o K → (∀ x y, x ∈ bs → y ∈ bt → K (gp_cm N o x y)) → (∀ k b, K k → b ∈ bs → K (gp_cj N o k b)) → (∀ k b, K k → b ∈ bt → K (gp_cj N o k b)) → ∀ b, b ∈ bu → K b) :
    ∀ x, gp_gn N o (fun y => y ∈ bu) x ↔ gp_cs N o (gp_gn N o (fun y => y ∈ bs)) (gp_gn N o (fun y => y ∈ bt)) x := by
  have hS := gp_gn.sb (X := fun y => y ∈ bs) g hs
  have hT := gp_gn.sb (X := fun y => y ∈ bt) g ht
  have hU := gp_gn.sb (X := fun y => y ∈ bu) g hu
  have hC := gp_cs.sb g hS hT
  intro x
  constructor
  · intro h
    exact gp_gn.le hC (fun b hb => hm _ hC (fun x y hx hy => gp_cs.in (gp_gn.in hx) (gp_gn.in hy)) (fun k b hk hb => gp_cs.cj1 g hS hT (gp_gn.in hb) hk) (fun k b hk hb => gp_cs.cj2 g hS hT (gp_gn.in hb) hk) b hb) h
  · intro h
    have n1 := gp_nrm g (X := fun y => y ∈ bs) hU hs (fun k x hk hx => gp_cjg g hU hu (hs x hx) (fun y hy => h2 y x hy hx) k hk)
    have n2 := gp_nrm g (X := fun y => y ∈ bt) hU ht (fun k x hk hx => gp_cjg g hU hu (ht x hx) (fun y hy => h3 y x hy hx) k hk)
    have n3 := gp_cmg g hs ht hU n1 n2 h1
    refine gp_gn.le hU (fun c hc => ?_) h
    obtain ⟨a, b, q1, q2, rfl⟩ := hc
    exact n3 a b q1 q2
theorem gp_cs_ext {N : Nat} {o : Nat → Nat → Nat} {S S' T T' : Nat → Prop} (h1 : ∀ x, S x ↔ S' x) (h2 : ∀ x, T x ↔ T' x) (a : Nat) : gp_cs N o S T a ↔ gp_cs N o S' T' a :=
  gp_gn_ext (fun c => ⟨fun ⟨s, t, q1, q2, q3⟩ => ⟨s, t, (h1 s).mp q1, (h2 t).mp q2, q3⟩, fun ⟨s, t, q1, q2, q3⟩ => ⟨s, t, (h1 s).mpr q1, (h2 t).mpr q2, q3⟩⟩) a
/-- the terms of a series: f of the term before -/
def gp_ser (F : (Nat → Prop) → Nat → Prop) (S : Nat → Prop) : Nat → Nat → Prop
  | 0 => S
  | k + 1 => F (gp_ser F S k)
/-- a series of subgroups, each in the one before: after seven steps of at most 128 nothing changes -/
theorem gp_ser_stop {N : Nat} {o : Nat → Nat → Nat} (g : gp_ok N o) (hN : N ≤ 128) {F : (Nat → Prop) → Nat → Prop} (hF : ∀ S, gp_sb N o S → gp_sb N o (F S) ∧ ∀ a, F S a → S a) (he : ∀ S S' : Nat → Prop, (∀ x, S x ↔ S' x) → ∀ x, F S x ↔ F S' x) {S : Nat → Prop} (hS : gp_sb N o S) :
    ∀ x, gp_ser F S 8 x ↔ gp_ser F S 7 x := by
  have hsb : ∀ k, gp_sb N o (gp_ser F S k) := by
    intro k
    induction k with
    | zero => exact hS
    | succ k ih => exact (hF _ ih).1
  have hst : ∀ k, (∀ x, gp_ser F S k x → gp_ser F S (k + 1) x) → ∀ j, ∀ x, gp_ser F S (k + j) x ↔ gp_ser F S k x := by
    intro k hk j
    induction j with
    | zero => exact fun x => Iff.rfl
    | succ j ih =>
      intro x
      have h1 := he _ _ ih x
      exact h1.trans ⟨(hF _ (hsb k)).2 x, hk x⟩
  have hlt : ∀ k, (∃ j, j < k ∧ ∀ x, gp_ser F S j x → gp_ser F S (j + 1) x) ∨ 2 ^ k * gp_cd N (gp_ser F S k) ≤ N := by
    intro k
    induction k with
    | zero => exact Or.inr (by rw [Nat.pow_zero, Nat.one_mul]; exact gp_cd_le _ _)
    | succ k ih =>
      rcases ih with ⟨j, h1, h2⟩ | h
      · exact Or.inl ⟨j, by omega, h2⟩
      · by_cases q : ∀ x, gp_ser F S k x → gp_ser F S (k + 1) x
        · exact Or.inl ⟨k, by omega, q⟩
        · right
          have q' : ∃ x, gp_ser F S k x ∧ ¬ gp_ser F S (k + 1) x := by
            apply Classical.byContradiction
            intro z
            exact q (fun x hx => Classical.byContradiction fun y => z ⟨x, hx, y⟩)
          obtain ⟨x, hx, hn⟩ := q'
          have := gp_cd_half g (hsb (k + 1)) (hsb k) (hF _ (hsb k)).2 hx hn
          rw [Nat.pow_succ, Nat.mul_assoc]
          exact Nat.le_trans (Nat.mul_le_mul_left _ this) h
  rcases hlt 7 with ⟨j, h1, h2⟩ | h
  · intro x
    have a := hst j h2 (8 - j) x
    have b := hst j h2 (7 - j) x
    rw [show j + (8 - j) = 8 by omega] at a
    rw [show j + (7 - j) = 7 by omega] at b
    exact a.trans b.symm
  · have h1 : gp_cd N (gp_ser F S 7) ≤ 1 := by
      have : 2 ^ 7 = 128 := rfl
      omega
    intro x
    refine ⟨(hF _ (hsb 7)).2 x, fun hx => ?_⟩
    by_cases e : x = 0
    · rw [e]; exact (hsb 8).1
    · exfalso
      have hl := (hsb 7).2.1 x hx
      have h2 : 2 ≤ gp_cd N (gp_ser F S 7) := by
        have := gp_cd_ls (N := N) (P := fun y => y = 0 ∨ y = x) (l := [0, x]) (by simp; exact fun z => e z.symm) (fun a ha => by rcases List.mem_cons.mp ha with q | q; rw [q]; exact g.pos; rw [List.mem_singleton] at q; rw [q]; exact hl) (fun y _ => by simp)
        rw [show [0, x].length = 2 from rfl] at this
        rw [this]
        refine gp_ct_inj id (fun y hy q => ⟨hy, cb_p_t.mpr ?_⟩) (fun _ _ _ _ _ _ q => q)
        rcases cb_p_t.mp q with z | z
        · show gp_ser F S 7 y
          rw [z]; exact (hsb 7).1
        · show gp_ser F S 7 y
          rw [z]; exact hx
      omega
/-- the orbit of a under conjugation, from a row that bears conjugation by the generators -/
theorem gp_orbit {N : Nat} {o : Nat → Nat → Nat} (g : gp_ok N o) {X : Nat → Prop} (hX : ∀ x, X x → x < N) (hall : ∀ x, x < N → gp_gn N o X x) {l : List Nat} (hl : ∀ x, x ∈ l → x < N) (hc : ∀ x s, x ∈ l → X s → gp_cj N o x s ∈ l) : ∀ x s, x ∈ l → s < N → gp_cj N o x s ∈ l := by
  intro x s hx hs
  have hsb : gp_sb N o (fun s => s < N ∧ ∀ x, x ∈ l → gp_cj N o x s ∈ l) := by
    refine ⟨⟨g.pos, fun x hx => by rw [g.cj0 (hl x hx)]; exact hx⟩, fun a h => h.1, fun a b h1 h2 => ⟨g.lt h1.1 h2.1, fun x hx => ?_⟩⟩
    rw [g.cjc (hl x hx) h1.1 h2.1]
    exact h2.2 _ (h1.2 x hx)
  exact (gp_gn.le hsb (fun y hy => ⟨hX y hy, fun x hx => hc x y hx hy⟩) (hall s hs)).2 x hx
/-- what commutes with the generators commutes with all -/
theorem gp_central {N : Nat} {o : Nat → Nat → Nat} (g : gp_ok N o) {X : Nat → Prop} (hX : ∀ x, X x → x < N) (hall : ∀ x, x < N → gp_gn N o X x) {a : Nat} (ha : a < N) (hc : ∀ s, X s → o a s = o s a) : ∀ s, s < N → o a s = o s a := by
  intro s hs
  have hsb : gp_sb N o (fun s => s < N ∧ o a s = o s a) := by
    refine ⟨⟨g.pos, by rw [g.r0 ha, g.l0 ha]⟩, fun a h => h.1, fun x y h1 h2 => ⟨g.lt h1.1 h2.1, ?_⟩⟩
    rw [← g.as ha h1.1 h2.1, h1.2, g.as h1.1 ha h2.1, h2.2, g.as h1.1 h2.1 ha]
  exact (gp_gn.le hsb (fun y hy => ⟨hX y hy, hc y hy⟩) (hall s hs)).2
end
section
/-! What a level's building asks, by the number of its generator. -/
section
variable {n : Nat} {r w p : Nat → Nat} {c : Nat → Nat → Nat}
theorem tw_gpi (h : tw_w n r w) {i : Nat} (hi : i < n) (hk : tw_ok n r w p c (n - (i + 1))) : gp_ok (w i) (tw_op n r w p c (n - (i + 1))) := by
  have := tw_gp h (n - (i + 1)) (by omega) hk
  rw [(tw_szi h hi).2] at this
  exact this
theorem tb_s_l (h : tw_w n r w) {i : Nat} (hi : i < n) (hk : tw_ok n r w p c (n - (i + 1))) (hc : ∀ j, i < j → j < n → c i j < w i) (a : Nat) : tb_s n r w p c i a < w i := tw_s_l (tw_gpi h hi hk) hc a
theorem tb_it_l (h : tw_w n r w) {i : Nat} (hi : i < n) (hk : tw_ok n r w p c (n - (i + 1))) (hc : ∀ j, i < j → j < n → c i j < w i) {a : Nat} (ha : a < w i) : ∀ k, ex_it (tb_s n r w p c i) k a < w i
  | 0 => ha
  | k + 1 => tb_s_l h hi hk hc _
theorem tb_s_0 (h : tw_w n r w) (i : Nat) : tb_s n r w p c i 0 = 0 := tw_s_0 h
/-- the first letter goes over to its conjugate, the rest as before -/
theorem tb_lead (h : tw_w n r w) {i x j : Nat} (hi : i < n) (hk : tw_ok n r w p c (n - (i + 1))) (hc : ∀ j, i < j → j < n → c i j < w i) (hx : x < w i) (h1 : i < j) (h2 : j < n) (h3 : w j ≤ x) (h5 : ∀ k, i < k → k < j → x < w k) :
    tb_s n r w p c i x = tw_op n r w p c (n - (i + 1)) (c i j) (tb_s n r w p c i (x - w j)) := by
  refine tw_s_lead h (tw_gpi h hi hk) hc h1 h2 h3 ?_ h5
  have e := h.2.1 (j - 1) (by omega)
  rw [show j - 1 + 1 = j by omega] at e
  rw [← e]
  by_cases hj : j = i + 1
  · subst hj; exact hx
  · exact h5 (j - 1) (by omega) (by omega)
theorem tb_none (h : tw_w n r w) {i x : Nat} (hi : i < n) (hx : x < w i) (h5 : ∀ k, i < k → k < n → x < w k) : x = 0 := by
  by_cases e : i + 1 = n
  · have := h.2.2 i e; omega
  · have := h5 (n - 1) (by omega) (by omega)
    rw [h.2.2 (n - 1) (by omega)] at this
    omega
theorem tw_oki {i : Nat} (hi : i < n) : tw_ok n r w p c (n - i) ↔ tw_ok n r w p c (n - (i + 1)) ∧ tw_lv n r w p c (n - (i + 1)) i := by
  constructor
  · intro h
    refine ⟨h.le (by omega), ?_⟩
    have := h (n - (i + 1)) (by omega)
    rw [show n - (n - (i + 1) + 1) = i by omega] at this
    exact this
  · rintro ⟨h1, h2⟩ k hk
    by_cases e : k = n - (i + 1)
    · rw [e, show n - (n - (i + 1) + 1) = i by omega]
      exact h2
    · exact h1 k (by omega)
/-- the class's three questions -/
theorem tw_ask (h : tw_w n r w) {i : Nat} (hi : i < n) (hk : tw_ok n r w p c (n - (i + 1))) (hp : p i < w i) (hc : ∀ j, i < j → j < n → c i j < w i) :
    tw_ok n r w p c (n - i) ↔ ((∀ x j, x < w i → i < j → j < n → tb_s n r w p c i (tw_op n r w p c (n - (i + 1)) x (w j)) = tw_op n r w p c (n - (i + 1)) (tb_s n r w p c i x) (c i j)) ∧ tb_s n r w p c i (p i) = p i ∧
      ∀ x, x < w i → tw_op n r w p c (n - (i + 1)) (p i) (ex_it (tb_s n r w p c i) (r i) x) = tw_op n r w p c (n - (i + 1)) x (p i)) := by
  have e : n - (n - (i + 1) + 1) = i := by omega
  have h1 := tw_lv_iff (d := n - (i + 1)) h (by omega) hk (by rw [e]; exact hp) (by rw [e]; exact hc)
  rw [e] at h1
  rw [tw_oki hi]
  exact ⟨fun q => h1.mp q.2, fun q => ⟨hk, h1.mpr q⟩⟩
/-- the reference's questions -/
theorem tw_ask2 (h : tw_w n r w) {i : Nat} (hi : i < n) (hk : tw_ok n r w p c (n - (i + 1))) (hp : p i < w i) (hc : ∀ j, i < j → j < n → c i j < w i) :
    tw_ok n r w p c (n - i) ↔ ((∀ a b, a < w i → b < w i → tb_s n r w p c i (tw_op n r w p c (n - (i + 1)) a b) = tw_op n r w p c (n - (i + 1)) (tb_s n r w p c i a) (tb_s n r w p c i b)) ∧ tb_s n r w p c i (p i) = p i ∧
      ∀ a, a < w i → tw_op n r w p c (n - (i + 1)) a (p i) = tw_op n r w p c (n - (i + 1)) (p i) (ex_it (tb_s n r w p c i) (r i) a)) := by
  rw [tw_oki hi]
  constructor
  · rintro ⟨-, q⟩
    exact ⟨q.2.2.2.2.1, q.2.2.2.2.2.1, q.2.2.2.2.2.2⟩
  · rintro ⟨q1, q2, q3⟩
    have hr := h.1 i hi
    exact ⟨hk, tw_gpi h hi hk, hp, by omega, fun a _ => tb_s_l h hi hk hc a, q1, q2, q3⟩
end
end
section
/-! Counting once more: a set within another of no more elements is all of it; orders of elements. -/
theorem gp_cd_mono {N : Nat} {P Q : Nat → Prop} (h : ∀ x, x < N → P x → Q x) : gp_cd N P ≤ gp_cd N Q :=
  gp_ct_inj id (fun y hy q => ⟨hy, cb_p_t.mpr (h y hy (cb_p_t.mp q))⟩) (fun _ _ _ _ _ _ q => q)
theorem gp_cd_add {N : Nat} {P : Nat → Prop} {x : Nat} (hx : x < N) (hn : ¬ P x) : gp_cd N (fun y => P y ∨ y = x) = gp_cd N P + 1 := by
  refine gp_ct_add (x := x) (cb_p_f.mpr hn) (cb_p_t.mpr (Or.inr rfl)) (fun a ha => ?_) hx
  by_cases q : P a
  · rw [cb_p_t.mpr q, cb_p_t.mpr (Or.inl q)]
  · rw [cb_p_f.mpr q, cb_p_f.mpr (fun z => z.elim q ha)]
theorem gp_cd_eq {N : Nat} {P Q : Nat → Prop} (h : ∀ x, x < N → P x → Q x) (hc : gp_cd N Q ≤ gp_cd N P) : ∀ x, x < N → Q x → P x := by
  intro x hx hq
  apply Classical.byContradiction
  intro hn
  have h1 := gp_cd_add hx hn
  have h2 : gp_cd N (fun y => P y ∨ y = x) ≤ gp_cd N Q := gp_cd_mono (fun y hy q => q.elim (h y hy) (fun e => by rw [e]; exact hq))
  omega
theorem gp_cd_pos {N : Nat} {P : Nat → Prop} {x : Nat} (hx : x < N) (h : P x) : 0 < gp_cd N P := by
  have h1 : gp_cd N (fun _ => False) = 0 := gp_ct_none (fun a _ => cb_p_f.mpr (fun z => z))
  have h2 := gp_cd_add (N := N) (P := fun _ => False) hx (fun z => z)
  have h3 : gp_cd N (fun y => False ∨ y = x) ≤ gp_cd N P := gp_cd_mono (fun y hy q => q.elim False.elim (fun e => by rw [e]; exact h))
  omega
/-- counting by ones -/
theorem gp_cd_succ {P : Nat → Prop} (n : Nat) : (P n → gp_cd (n + 1) P = gp_cd n P + 1) ∧ (¬ P n → gp_cd (n + 1) P = gp_cd n P) := by
  constructor
  · intro h
    show gp_ct (cb_p P) n + _ = _
    rw [if_pos (cb_p_t.mpr h)]
    rfl
  · intro h
    show gp_ct (cb_p P) n + _ = _
    rw [cb_p_f.mpr h]
    rfl
theorem gp_cd_0 (P : Nat → Prop) : gp_cd 0 P = 0 := rfl
/-- k is the order of a -/
def gp_od (o : Nat → Nat → Nat) (a k : Nat) : Prop := 1 ≤ k ∧ gp_pw o a k = 0 ∧ ∀ j, 1 ≤ j → j < k → gp_pw o a j ≠ 0
theorem gp_od_u {o : Nat → Nat → Nat} {a k k' : Nat} (h : gp_od o a k) (h' : gp_od o a k') : k = k' := by
  apply Classical.byContradiction
  intro e
  rcases Nat.lt_or_ge k k' with q | q
  · exact h'.2.2 k h.1 q h.2.1
  · exact h.2.2 k' h'.1 (by omega) h'.2.1
theorem gp_od_le {N : Nat} {o : Nat → Nat → Nat} (g : gp_ok N o) {a k : Nat} (ha : a < N) (h : gp_od o a k) : k ≤ N := by
  obtain ⟨j, h1, h2, h3⟩ := g.per ha
  apply Nat.le_of_not_lt
  intro q
  exact h.2.2 j h1 (by omega) h3
theorem gp_pw1 {N : Nat} {o : Nat → Nat → Nat} (g : gp_ok N o) {a : Nat} (ha : a < N) : gp_pw o a 1 = a := g.l0 ha
end
section
/-! What a call answers and does, in words that class and reference share. -/
noncomputable def cn_n (P : Prop) (a b : Nat) : Nat := @ite _ P (Classical.propDecidable P) a b
theorem cn_t {P : Prop} {a b : Nat} (h : P) : cn_n P a b = a := by unfold cn_n; exact @if_pos _ (Classical.propDecidable P) h _ _ _
theorem cn_f {P : Prop} {a b : Nat} (h : ¬ P) : cn_n P a b = b := by unfold cn_n; exact @if_neg _ (Classical.propDecidable P) h _ _ _
theorem cn_lt {P : Prop} {b : Nat} (hb : b < 2) (h : b = 1 ↔ P) : b = cn_n P 1 0 := by
  by_cases q : P
  · rw [cn_t q]; exact h.mpr q
  · rw [cn_f q]; have : ¬ b = 1 := fun z => q (h.mp z); omega
/-- an int that is a number below N -/
def el_i (N : Nat) (x : Int32) : Prop := ∃ j, j < N ∧ x = nI j
theorem el_nv {N j : Nat} (hN : N ≤ 2147483648) (h : j < N) : (nI j).toNatClampNeg = j := nI_clamp (show j < 2 ^ 31 by omega)
abbrev el_v (x : Int32) : Nat := x.toNatClampNeg
/-- a number of what is asked, or -1 -/
def an_o (P : Prop) (v : Nat) (r : Int32) : Prop := (P → r = nI v) ∧ (¬ P → r = -1)
theorem an_u {P : Prop} {v v' : Nat} {r r' : Int32} (h : an_o P v r) (h' : an_o P v' r') (e : P → v = v') : r = r' := by
  by_cases q : P
  · rw [h.1 q, h'.1 q, e q]
  · rw [h.2 q, h'.2 q]
/-- a place set anew -/
def sa_t (P : Prop) (k : Nat) (T : Nat → Prop) (S : Nat → Nat → Prop) : Nat → Nat → Prop := fun q v => (P ∧ q = k ∧ T v) ∨ (¬ (P ∧ q = k) ∧ S q v)
theorem sa_in {P : Prop} {k : Nat} {T : Nat → Prop} {S : Nat → Nat → Prop} (h : P) (v : Nat) : sa_t P k T S k v ↔ T v :=
  ⟨fun q => q.elim (fun z => z.2.2) (fun z => absurd ⟨h, rfl⟩ z.1), fun q => Or.inl ⟨h, rfl, q⟩⟩
theorem sa_ot {P : Prop} {k q : Nat} {T : Nat → Prop} {S : Nat → Nat → Prop} (h : q ≠ k) (v : Nat) : sa_t P k T S q v ↔ S q v :=
  ⟨fun z => z.elim (fun w => absurd w.2.1 h) (fun w => w.2), fun z => Or.inr ⟨fun w => h w.2, z⟩⟩
theorem sa_no {P : Prop} {k q : Nat} {T : Nat → Prop} {S : Nat → Nat → Prop} (h : ¬ P) (v : Nat) : sa_t P k T S q v ↔ S q v :=
  ⟨fun z => z.elim (fun w => absurd w.1 h) (fun w => w.2), fun z => Or.inr ⟨fun w => h w.1, z⟩⟩
/-- what each call does to a place -/
abbrev sp_join (N : Nat) (o : Nat → Nat → Nat) (S : Nat → Prop) (a : Nat) : Nat → Prop := gp_gn N o (fun u => S u ∨ u = a)
abbrev sp_spread (N : Nat) (o : Nat → Nat → Nat) (S : Nat → Prop) : Nat → Prop := gp_gn N o (fun c => ∃ a b, S a ∧ b < N ∧ c = gp_cj N o a b)
abbrev sp_all (N : Nat) : Nat → Prop := fun a => a < N
abbrev sp_ser (N : Nat) (o : Nat → Nat → Nat) (w : Bool) (k : Nat) : Nat → Prop := gp_ser (fun S => gp_cs N o S (if w = true then sp_all N else S)) (sp_all N) k
abbrev sp_kin (N : Nat) (o : Nat → Nat → Nat) (a : Nat) : Nat → Prop := fun y => ∃ b, b < N ∧ y = gp_cj N o a b
abbrev sp_head (N : Nat) (o : Nat → Nat → Nat) (a v : Nat) : Prop := sp_kin N o a v ∧ ∀ y, sp_kin N o a y → v ≤ y
abbrev sp_least (N : Nat) (o : Nat → Nat → Nat) : Nat → Prop := fun a => ∀ b, b < N → a ≤ gp_cj N o a b
abbrev sp_central (N : Nat) (o : Nat → Nat → Nat) : Nat → Prop := fun a => ∀ b, b < N → o a b = o b a
/-- the relations that power and conjugate may set -/
def sp_pw (fx n : Nat) (w : Nat → Nat) (x y : Int32) : Prop := fx ≠ 1 ∧ ∃ j v, j < n ∧ x = nI j ∧ v < w j ∧ y = nI v
def sp_cg (fx n : Nat) (w : Nat → Nat) (x y u : Int32) : Prop := fx ≠ 1 ∧ ∃ i j v, i < j ∧ j < n ∧ x = nI i ∧ y = nI j ∧ v < w i ∧ u = nI v
noncomputable def sp_pw1 (fx n : Nat) (w p : Nat → Nat) (x y : Int32) : Nat → Nat := fun i => cn_n (sp_pw fx n w x y ∧ i = el_v x) (el_v y) (p i)
noncomputable def sp_cg1 (fx n : Nat) (w : Nat → Nat) (c : Nat → Nat → Nat) (x y u : Int32) : Nat → Nat → Nat := fun a b => cn_n (sp_cg fx n w x y u ∧ a = el_v x ∧ b = el_v y) (el_v u) (c a b)
/-- k modulo n, never below 0 -/
def sp_md (y : Int32) (n v : Nat) : Prop := (v : Int) = y.toInt % (n : Int)
theorem sp_md_u {y : Int32} {n v v' : Nat} (h : sp_md y n v) (h' : sp_md y n v') : v = v' := by
  have : (v : Int) = (v' : Int) := h.trans h'.symm
  omega
theorem sp_ser_sb {N : Nat} {o : Nat → Nat → Nat} (g : gp_ok N o) (w : Bool) : ∀ S, gp_sb N o S → gp_sb N o (gp_cs N o S (if w = true then sp_all N else S)) := by
  intro S hS
  cases w
  · exact gp_cs.sb g hS hS
  · exact gp_cs.sb g hS (gp_all g)
/-- a commutator subgroup with what bears conjugation is within it -/
def sp_nm (N : Nat) (o : Nat → Nat → Nat) (S : Nat → Prop) : Prop := ∀ k s, S k → s < N → S (gp_cj N o k s)
end
section
/-! What stands where: the class's object, its parts, the reference. A place is a kind and a number. -/
abbrev zz_Z : Type := va_G × (hw_P → Nat) × (hw_P → Prop) × (Nat → ClassId) × Nat × Nat × (Nat → Nat)
def zz_D (z : zz_Z) : va_G := z.1
def zz_A (z : zz_Z) : hw_P → Nat := z.2.1
def zz_O (z : zz_Z) : hw_P → Prop := z.2.2.1
def zz_C (z : zz_Z) : Nat → ClassId := z.2.2.2.1
def zz_n (z : zz_Z) : Nat := z.2.2.2.2.1
def zz_N (z : zz_Z) : Nat := z.2.2.2.2.2.1
def zz_l (z : zz_Z) : Nat → Nat := z.2.2.2.2.2.2
/-- the array classes -/
abbrev zz_T (z : zz_Z) : List (ClassId × FieldType) := [(zz_C z 0, .int), (zz_C z 1, .boolean), (zz_C z 2, .array .int), (zz_C z 3, .object "CollectedGroup$Subgroup")]
abbrev zz_i (c : ClassId) (n : Nat) (f : Nat → Nat) : va_E := .inl (c, n, .inl (fun i => nI (f i)))
abbrev zz_r (c : ClassId) (n : Nat) (g : Nat → Nat) : va_E := .inl (c, n, .inr (.inr (.inr (.inr (fun i => some (g i))))))
def zz_E (z : zz_Z) : hw_E := fun k f => match k.1 with
  | 0 => .inr (3, [.ref (zz_A z (1, 0)), .ref (zz_A z (11, 0)), .ref (zz_A z (12, 4)), .ref (zz_A z (12, 5)), .ref (zz_A z (12, 6)), .ref (zz_A z (13, 7)), .int (nI (f 6))])
  | 1 => .inr (0, [.int (nI (f 0)), .int (nI (f 1)), .ref (zz_A z (2, 0)), .ref (zz_A z (3, 0)), .ref (zz_A z (4, 0)), .ref (zz_A z (5, 0)), .ref (zz_A z (7, 0)), .ref (zz_A z (9, 0))])
  | 2 => zz_i (zz_C z 0) (zz_n z) f
  | 3 => zz_i (zz_C z 0) (zz_n z) f
  | 4 => zz_i (zz_C z 0) (zz_n z) f
  | 5 => zz_r (zz_C z 2) (zz_n z) (fun i => zz_A z (6, i))
  | 6 => zz_i (zz_C z 0) (zz_n z) f
  | 7 => zz_r (zz_C z 2) (zz_n z) (fun i => zz_A z (8, i))
  | 8 => zz_i (zz_C z 0) (zz_l z k.2) f
  | 9 => zz_r (zz_C z 2) (zz_n z) (fun i => zz_A z (10, i))
  | 10 => zz_i (zz_C z 0) (zz_l z k.2) f
  | 11 => zz_r (zz_C z 3) 4 (fun i => zz_A z (12, i))
  | 12 => .inr (2, [.ref (zz_A z (1, 0)), .ref (zz_A z (13, k.2)), .ref (zz_A z (16, k.2)), .int (nI (f 3))])
  | 13 => .inr (1, [.ref (zz_A z (14, k.2)), .ref (zz_A z (15, k.2)), .int (nI (f 2))])
  | 14 => zz_i (zz_C z 1) (zz_N z) f
  | 15 => zz_i (zz_C z 0) (zz_N z) f
  | 16 => zz_i (zz_C z 0) 7 f
  | 20 => .inr (4, [.int (nI (f 0)), .int (nI (f 1)), .ref (zz_A z (21, 0)), .ref (zz_A z (22, 0)), .ref (zz_A z (23, 0)), .ref (zz_A z (24, 0)), .int (nI (f 6)), .ref (zz_A z (25, 0)), .ref (zz_A z (26, 0)), .ref (zz_A z (27, 0)), .ref (zz_A z (28, 0)), .ref (zz_A z (29, 0)), .ref (zz_A z (30, 0)), .ref (zz_A z (31, 0))])
  | 21 => zz_i (zz_C z 0) 7 f
  | 22 => zz_i (zz_C z 0) 7 f
  | 23 => zz_i (zz_C z 0) 7 f
  | 24 => zz_i (zz_C z 0) 49 f
  | 25 => zz_i (zz_C z 0) 16384 f
  | 26 => zz_i (zz_C z 0) 128 f
  | 27 => zz_i (zz_C z 0) 128 f
  | 28 => zz_i (zz_C z 0) 128 f
  | 29 => zz_i (zz_C z 1) 512 f
  | 30 => zz_i (zz_C z 1) 128 f
  | 31 => zz_i (zz_C z 1) 128 f
  | _ => .inr (3, [])
/-- the places that are there once both objects stand -/
def zz_k (n : Nat) (k : hw_P) : Prop := match k.1 with
  | 0 => k.2 = 0
  | 1 => k.2 = 0
  | 2 => k.2 = 0
  | 3 => k.2 = 0
  | 4 => k.2 = 0
  | 5 => k.2 = 0
  | 6 => k.2 < n
  | 7 => k.2 = 0
  | 8 => k.2 < n
  | 9 => k.2 = 0
  | 10 => k.2 < n
  | 11 => k.2 = 0
  | 12 => k.2 < 7
  | 13 => k.2 < 8
  | 14 => k.2 < 8
  | 15 => k.2 < 8
  | 16 => k.2 < 7
  | 17 => False
  | 18 => False
  | 19 => False
  | 20 => k.2 = 0
  | 21 => k.2 = 0
  | 22 => k.2 = 0
  | 23 => k.2 = 0
  | 24 => k.2 = 0
  | 25 => k.2 = 0
  | 26 => k.2 = 0
  | 27 => k.2 = 0
  | 28 => k.2 = 0
  | 29 => k.2 = 0
  | 30 => k.2 = 0
  | 31 => k.2 = 0
  | _ => False
abbrev zz_B (z : zz_Z) : hw_M → State → Prop := hw_b (zz_D z) (zz_E z) (zz_A z) (zz_O z) (zz_T z)
abbrev zz_F (z : zz_Z) : Nat → Prop := hw_A (zz_A z) (zz_O z)
abbrev zz_V (z : zz_Z) (σ : hw_M) (H0 H : Heap) (locs : List Loc) : Prop := hw_v (zz_D z) (zz_E z) (zz_A z) (zz_O z) (zz_F z) σ H0 H locs
end
section
/-! What the memory says: the numbers that never change, a row of members, a subgroup. -/
def st_ok (z : zz_Z) (σ : hw_M) : Prop := zz_n z ≤ 7 ∧ zz_N z ≤ 128 ∧ σ (1, 0) 0 = zz_n z ∧ σ (1, 0) 1 = zz_N z ∧ tw_w (zz_n z) (σ (2, 0)) (σ (3, 0)) ∧ zz_N z = tw_sz (zz_n z) (σ (2, 0)) (σ (3, 0)) (zz_n z) ∧ ∀ i, i < zz_n z → zz_l z i = σ (2, 0) i * σ (3, 0) i
/-- a set of elements: the row of its members -/
def es_ok (z : zz_Z) (σ : hw_M) (j : Nat) (s : List Nat) : Prop :=
  s.Nodup ∧ (∀ a, a ∈ s → a < zz_N z) ∧ σ (13, j) 2 = s.length ∧ (∀ i, i < s.length → σ (15, j) i = s.getD i 0) ∧ ∀ a, a < zz_N z → σ (14, j) a = if a ∈ s then 1 else 0
def es_fr (j : Nat) (σ σ' : hw_M) : Prop := ∀ k : hw_P, k ≠ (13, j) → k ≠ (14, j) → k ≠ (15, j) → σ' k = σ k
theorem es_len {z : zz_Z} {σ : hw_M} {j : Nat} {s : List Nat} (h : es_ok z σ j s) : s.length ≤ zz_N z := ls_le h.1 h.2.1
theorem es_mark {z : zz_Z} {σ : hw_M} {j a : Nat} {s : List Nat} (h : es_ok z σ j s) (ha : a < zz_N z) : (σ (14, j) a = 0 ↔ a ∉ s) ∧ σ (14, j) a < 2 := by
  have := h.2.2.2.2 a ha
  by_cases q : a ∈ s
  · rw [if_pos q] at this
    rw [this]
    exact ⟨⟨fun z => absurd z (by decide), fun z => absurd q z⟩, by decide⟩
  · rw [if_neg q] at this
    rw [this]
    exact ⟨⟨fun _ => q, fun _ => rfl⟩, by decide⟩
theorem es_at {z : zz_Z} {σ : hw_M} {j i : Nat} {s : List Nat} (h : es_ok z σ j s) (hi : i < s.length) : σ (15, j) i < zz_N z := by
  rw [h.2.2.2.1 i hi]
  exact h.2.1 _ (ls_at_mem hi)
theorem es_push {z : zz_Z} {σ : hw_M} {j a : Nat} {s : List Nat} (h : es_ok z σ j s) (ha : a < zz_N z) (hn : a ∉ s) :
    es_ok z (hw_up (hw_up (hw_up σ (14, j) a 1) (15, j) (σ (13, j) 2) a) (13, j) 2 (σ (13, j) 2 + 1)) j (ls_add s a) := by
  have e : ls_add s a = s ++ [a] := by unfold ls_add; rw [if_neg hn]
  have h13 : σ (13, j) 2 = s.length := h.2.2.1
  refine ⟨ls_add_nd h.1, fun x hx => ?_, ?_, fun i hi => ?_, fun x hx => ?_⟩
  · rcases ls_add_mem.mp hx with q | q
    · exact h.2.1 x q
    · rw [q]; exact ha
  · rw [hw_up_s, e, List.length_append, h13]
    rfl
  · rw [hw_up_k _ _ _ (by intro q; injection q with q1; omega)]
    rw [hw_up_v, h13]
    by_cases q : i = s.length
    · rw [if_pos q, q, e, List.getD_eq_getElem?_getD, List.getElem?_append_right (Nat.le_refl _), Nat.sub_self]
      rfl
    · rw [if_neg q, hw_up_k _ _ _ (by intro q; injection q with q1; omega)]
      have hi' : i < s.length := by
        rw [e, List.length_append] at hi
        have : [a].length = 1 := rfl
        omega
      rw [ls_add_at hi']
      exact h.2.2.2.1 i hi'
  · rw [hw_up_k _ _ _ (by intro q; injection q with q1; omega), hw_up_k _ _ _ (by intro q; injection q with q1; omega), hw_up_v]
    by_cases q : x = a
    · rw [if_pos q, if_pos (ls_add_mem.mpr (Or.inr q))]
    · rw [if_neg q, h.2.2.2.2 x hx]
      by_cases q2 : x ∈ s
      · rw [if_pos q2, if_pos (ls_add_mem.mpr (Or.inl q2))]
      · rw [if_neg q2, if_neg (fun z => (ls_add_mem.mp z).elim q2 q)]
theorem es_fr_push {σ : hw_M} {j a b x y v : Nat} : es_fr j σ (hw_up (hw_up (hw_up σ (14, j) a x) (15, j) b y) (13, j) 2 v) := by
  intro k h1 h2 h3
  rw [hw_up_k _ _ _ h1, hw_up_k _ _ _ h3, hw_up_k _ _ _ h2]
theorem es_fr.rf {j : Nat} {σ : hw_M} : es_fr j σ σ := fun _ _ _ _ => rfl
theorem es_fr.tr {j : Nat} {σ σ1 σ2 : hw_M} (h : es_fr j σ σ1) (h2 : es_fr j σ1 σ2) : es_fr j σ σ2 := fun k a b c => (h2 k a b c).trans (h k a b c)
theorem es_keep {z : zz_Z} {σ σ' : hw_M} {j : Nat} {s : List Nat} (h : es_ok z σ j s) (h1 : σ' (13, j) = σ (13, j)) (h2 : σ' (14, j) = σ (14, j)) (h3 : σ' (15, j) = σ (15, j)) : es_ok z σ' j s := by
  unfold es_ok
  rw [h1, h2, h3]
  exact h
theorem hw_ne {a b i j : Nat} (h : a ≠ b) : ((a, i) : hw_P) ≠ (b, j) := fun q => h (congrArg Prod.fst q)
theorem hw_ne2 {a b i j : Nat} (h : i ≠ j) : ((a, i) : hw_P) ≠ (b, j) := fun q => h (congrArg Prod.snd q)
theorem es_unm {σ1 : hw_M} {j k N : Nat} {q : List Nat} (hM : ∀ a, a < N → σ1 (14, j) a = 0 ∨ (a ∈ q ∧ ∀ i, i < k → q.getD i 0 ≠ a)) : ∀ a, a < N → hw_up σ1 (14, j) (q.getD k 0) 0 (14, j) a = 0 ∨ (a ∈ q ∧ ∀ i, i < k + 1 → q.getD i 0 ≠ a) := by
  intro a ha
  rw [hw_up_v]
  by_cases e : a = q.getD k 0
  · rw [if_pos e]; exact Or.inl rfl
  · rw [if_neg e]
    rcases hM a ha with h | ⟨h1, h2⟩
    · exact Or.inl h
    · refine Or.inr ⟨h1, fun i hi => ?_⟩
      by_cases e2 : i = k
      · rw [e2]; exact fun z => e z.symm
      · exact h2 i (by omega)
theorem es_unm0 {z : zz_Z} {σ : hw_M} {j : Nat} {q : List Nat} (hE : es_ok z σ j q) : ∀ a, a < zz_N z → σ (14, j) a = 0 ∨ (a ∈ q ∧ ∀ i, i < 0 → q.getD i 0 ≠ a) := by
  intro a ha
  by_cases h : a ∈ q
  · exact Or.inr ⟨h, fun i hi => absurd hi (Nat.not_lt_zero _)⟩
  · exact Or.inl ((es_mark hE ha).1.mpr h)
theorem es_none {z : zz_Z} {σ σ1 : hw_M} {j k : Nat} {q : List Nat} (hk : k = q.length) (hfr : ∀ u : hw_P, u ≠ (14, j) → σ1 u = σ u) (hM : ∀ a, a < zz_N z → σ1 (14, j) a = 0 ∨ (a ∈ q ∧ ∀ i, i < k → q.getD i 0 ≠ a)) :
    es_ok z (hw_up σ1 (13, j) 2 0) j [] ∧ es_fr j σ (hw_up σ1 (13, j) 2 0) := by
  refine ⟨⟨List.nodup_nil, fun a h => absurd h List.not_mem_nil, hw_up_s _ _ _ _, fun i h => absurd h (Nat.not_lt_zero _), fun a ha => ?_⟩, fun u h1 h2 h3 => (hw_up_k _ _ _ h1).trans (hfr u h2)⟩
  rw [hw_up_k _ _ _ (hw_ne (by decide)), if_neg List.not_mem_nil]
  rcases hM a ha with h | ⟨h1, h2⟩
  · exact h
  · obtain ⟨i, hi, e⟩ := ls_mem_at h1
    exact absurd e (h2 i (by omega))
end
section
/-! A row for each field, by the class that reads or writes it and the number in its pool. By program (wip/whole/gen/fields.py). -/
section
variable {p : Program} {l : Launch} {e : Env} {R : Room} {s : State} {m : MethodId} {args : Array Value} {below : List Frame} {meth : Method} {c : Code} {H : Heap} {locs : List Loc} {cells slots : Nat} {Q : State → Prop}
variable {cc : ByteArray} {nL pc j : Nat} {ls : Array Slot} {rest : List Value} {z : zz_Z} {A : Nat → Prop} {σ : hw_M} {H0 : Heap} {T : List (ClassId × FieldType)}
theorem gf_Col_7 (X : hw_x p c s m args cc nL R_Col (zz_D z) T) (V : hw_v (zz_D z) (zz_E z) (zz_A z) (zz_O z) A σ H0 H locs) (ho : zz_O z (1, 0)) (hdg : decode cc pc = .ok (.getfield 7, 3)) (kk : W p l e R s m args below meth c H locs cells slots Q (F0 m (pc + 3) ls (.int (nI (σ (1, 0) 0)) :: rest))) : W p l e R s m args below meth c H locs cells slots Q (F0 m pc ls (.ref (zz_A z (1, 0)) :: rest)) := hw_get X V ho (ci := 0) (C := R_Col) (Tb := F_Col) (Nf := 8) (ref := R_Col) rfl rfl in_Col 0 (by decide) wi_79 rfl rfl hdg kk
theorem gf_Col_35 (X : hw_x p c s m args cc nL R_Col (zz_D z) T) (V : hw_v (zz_D z) (zz_E z) (zz_A z) (zz_O z) A σ H0 H locs) (ho : zz_O z (1, 0)) (hdg : decode cc pc = .ok (.getfield 35, 3)) (kk : W p l e R s m args below meth c H locs cells slots Q (F0 m (pc + 3) ls (.int (nI (σ (1, 0) 1)) :: rest))) : W p l e R s m args below meth c H locs cells slots Q (F0 m pc ls (.ref (zz_A z (1, 0)) :: rest)) := hw_get X V ho (ci := 0) (C := R_Col) (Tb := F_Col) (Nf := 8) (ref := R_Col) rfl rfl in_Col 1 (by decide) wi_80 rfl rfl hdg kk
theorem gf_Col_13 (X : hw_x p c s m args cc nL R_Col (zz_D z) T) (V : hw_v (zz_D z) (zz_E z) (zz_A z) (zz_O z) A σ H0 H locs) (ho : zz_O z (1, 0)) (hdg : decode cc pc = .ok (.getfield 13, 3)) (kk : W p l e R s m args below meth c H locs cells slots Q (F0 m (pc + 3) ls (.ref (zz_A z (2, 0)) :: rest))) : W p l e R s m args below meth c H locs cells slots Q (F0 m pc ls (.ref (zz_A z (1, 0)) :: rest)) := hw_get X V ho (ci := 0) (C := R_Col) (Tb := F_Col) (Nf := 8) (ref := R_Col) rfl rfl in_Col 2 (by decide) wi_81 rfl rfl hdg kk
theorem gf_Col_17 (X : hw_x p c s m args cc nL R_Col (zz_D z) T) (V : hw_v (zz_D z) (zz_E z) (zz_A z) (zz_O z) A σ H0 H locs) (ho : zz_O z (1, 0)) (hdg : decode cc pc = .ok (.getfield 17, 3)) (kk : W p l e R s m args below meth c H locs cells slots Q (F0 m (pc + 3) ls (.ref (zz_A z (3, 0)) :: rest))) : W p l e R s m args below meth c H locs cells slots Q (F0 m pc ls (.ref (zz_A z (1, 0)) :: rest)) := hw_get X V ho (ci := 0) (C := R_Col) (Tb := F_Col) (Nf := 8) (ref := R_Col) rfl rfl in_Col 3 (by decide) wi_82 rfl rfl hdg kk
theorem gf_Col_20 (X : hw_x p c s m args cc nL R_Col (zz_D z) T) (V : hw_v (zz_D z) (zz_E z) (zz_A z) (zz_O z) A σ H0 H locs) (ho : zz_O z (1, 0)) (hdg : decode cc pc = .ok (.getfield 20, 3)) (kk : W p l e R s m args below meth c H locs cells slots Q (F0 m (pc + 3) ls (.ref (zz_A z (4, 0)) :: rest))) : W p l e R s m args below meth c H locs cells slots Q (F0 m pc ls (.ref (zz_A z (1, 0)) :: rest)) := hw_get X V ho (ci := 0) (C := R_Col) (Tb := F_Col) (Nf := 8) (ref := R_Col) rfl rfl in_Col 4 (by decide) wi_83 rfl rfl hdg kk
theorem gf_Col_25 (X : hw_x p c s m args cc nL R_Col (zz_D z) T) (V : hw_v (zz_D z) (zz_E z) (zz_A z) (zz_O z) A σ H0 H locs) (ho : zz_O z (1, 0)) (hdg : decode cc pc = .ok (.getfield 25, 3)) (kk : W p l e R s m args below meth c H locs cells slots Q (F0 m (pc + 3) ls (.ref (zz_A z (5, 0)) :: rest))) : W p l e R s m args below meth c H locs cells slots Q (F0 m pc ls (.ref (zz_A z (1, 0)) :: rest)) := hw_get X V ho (ci := 0) (C := R_Col) (Tb := F_Col) (Nf := 8) (ref := R_Col) rfl rfl in_Col 5 (by decide) wi_84 rfl rfl hdg kk
theorem gf_Col_29 (X : hw_x p c s m args cc nL R_Col (zz_D z) T) (V : hw_v (zz_D z) (zz_E z) (zz_A z) (zz_O z) A σ H0 H locs) (ho : zz_O z (1, 0)) (hdg : decode cc pc = .ok (.getfield 29, 3)) (kk : W p l e R s m args below meth c H locs cells slots Q (F0 m (pc + 3) ls (.ref (zz_A z (7, 0)) :: rest))) : W p l e R s m args below meth c H locs cells slots Q (F0 m pc ls (.ref (zz_A z (1, 0)) :: rest)) := hw_get X V ho (ci := 0) (C := R_Col) (Tb := F_Col) (Nf := 8) (ref := R_Col) rfl rfl in_Col 6 (by decide) wi_85 rfl rfl hdg kk
theorem gf_Col_32 (X : hw_x p c s m args cc nL R_Col (zz_D z) T) (V : hw_v (zz_D z) (zz_E z) (zz_A z) (zz_O z) A σ H0 H locs) (ho : zz_O z (1, 0)) (hdg : decode cc pc = .ok (.getfield 32, 3)) (kk : W p l e R s m args below meth c H locs cells slots Q (F0 m (pc + 3) ls (.ref (zz_A z (9, 0)) :: rest))) : W p l e R s m args below meth c H locs cells slots Q (F0 m pc ls (.ref (zz_A z (1, 0)) :: rest)) := hw_get X V ho (ci := 0) (C := R_Col) (Tb := F_Col) (Nf := 8) (ref := R_Col) rfl rfl in_Col 7 (by decide) wi_86 rfl rfl hdg kk
theorem gf_Set_9 (X : hw_x p c s m args cc nL R_Set (zz_D z) T) (V : hw_v (zz_D z) (zz_E z) (zz_A z) (zz_O z) A σ H0 H locs) (ho : zz_O z (13, j)) (hdg : decode cc pc = .ok (.getfield 9, 3)) (kk : W p l e R s m args below meth c H locs cells slots Q (F0 m (pc + 3) ls (.ref (zz_A z (14, j)) :: rest))) : W p l e R s m args below meth c H locs cells slots Q (F0 m pc ls (.ref (zz_A z (13, j)) :: rest)) := hw_get X V ho (ci := 1) (C := R_Set) (Tb := F_Set) (Nf := 3) (ref := R_Set) rfl rfl in_Set 0 (by decide) wi_122 rfl rfl hdg kk
theorem gf_Set_15 (X : hw_x p c s m args cc nL R_Set (zz_D z) T) (V : hw_v (zz_D z) (zz_E z) (zz_A z) (zz_O z) A σ H0 H locs) (ho : zz_O z (13, j)) (hdg : decode cc pc = .ok (.getfield 15, 3)) (kk : W p l e R s m args below meth c H locs cells slots Q (F0 m (pc + 3) ls (.ref (zz_A z (15, j)) :: rest))) : W p l e R s m args below meth c H locs cells slots Q (F0 m pc ls (.ref (zz_A z (13, j)) :: rest)) := hw_get X V ho (ci := 1) (C := R_Set) (Tb := F_Set) (Nf := 3) (ref := R_Set) rfl rfl in_Set 1 (by decide) wi_123 rfl rfl hdg kk
theorem gf_Set_19 (X : hw_x p c s m args cc nL R_Set (zz_D z) T) (V : hw_v (zz_D z) (zz_E z) (zz_A z) (zz_O z) A σ H0 H locs) (ho : zz_O z (13, j)) (hdg : decode cc pc = .ok (.getfield 19, 3)) (kk : W p l e R s m args below meth c H locs cells slots Q (F0 m (pc + 3) ls (.int (nI (σ (13, j) 2)) :: rest))) : W p l e R s m args below meth c H locs cells slots Q (F0 m pc ls (.ref (zz_A z (13, j)) :: rest)) := hw_get X V ho (ci := 1) (C := R_Set) (Tb := F_Set) (Nf := 3) (ref := R_Set) rfl rfl in_Set 2 (by decide) wi_124 rfl rfl hdg kk
theorem pf_Set_19 {x : Nat} (X : hw_x p c s m args cc nL R_Set (zz_D z) T) (V : hw_v (zz_D z) (zz_E z) (zz_A z) (zz_O z) A σ H0 H locs) (ho : zz_O z (13, j)) (hx : x < 2147483648) (hdg : decode cc pc = .ok (.putfield 19, 3)) (kk : ∀ (H1 : Heap) (locs1 : List Loc), hw_v (zz_D z) (zz_E z) (zz_A z) (zz_O z) A (hw_up σ (13, j) 2 x) H0 H1 locs1 → W p l e R s m args below meth c H1 locs1 cells slots Q (F0 m (pc + 3) ls rest)) : W p l e R s m args below meth c H locs cells slots Q (F0 m pc ls (.int (nI x) :: .ref (zz_A z (13, j)) :: rest)) := hw_put X V ho (ci := 1) (C := R_Set) (Tb := F_Set) (Nf := 3) (ref := R_Set) (ty := .int) rfl rfl in_Set t_Set t_Set_ok n_Set 2 (by decide) wi_124 rfl rfl (by decide +kernel) (vp_nar_int _) rfl (Nat.le_of_ble_eq_true rfl) (by omega) rfl hdg kk
theorem gf_Sub_9 (X : hw_x p c s m args cc nL R_Sub (zz_D z) T) (V : hw_v (zz_D z) (zz_E z) (zz_A z) (zz_O z) A σ H0 H locs) (ho : zz_O z (12, j)) (hdg : decode cc pc = .ok (.getfield 9, 3)) (kk : W p l e R s m args below meth c H locs cells slots Q (F0 m (pc + 3) ls (.ref (zz_A z (1, 0)) :: rest))) : W p l e R s m args below meth c H locs cells slots Q (F0 m pc ls (.ref (zz_A z (12, j)) :: rest)) := hw_get X V ho (ci := 2) (C := R_Sub) (Tb := F_Sub) (Nf := 4) (ref := R_Sub) rfl rfl in_Sub 0 (by decide) wi_137 rfl rfl hdg kk
theorem gf_Sub_26 (X : hw_x p c s m args cc nL R_Sub (zz_D z) T) (V : hw_v (zz_D z) (zz_E z) (zz_A z) (zz_O z) A σ H0 H locs) (ho : zz_O z (12, j)) (hdg : decode cc pc = .ok (.getfield 26, 3)) (kk : W p l e R s m args below meth c H locs cells slots Q (F0 m (pc + 3) ls (.ref (zz_A z (13, j)) :: rest))) : W p l e R s m args below meth c H locs cells slots Q (F0 m pc ls (.ref (zz_A z (12, j)) :: rest)) := hw_get X V ho (ci := 2) (C := R_Sub) (Tb := F_Sub) (Nf := 4) (ref := R_Sub) rfl rfl in_Sub 1 (by decide) wi_138 rfl rfl hdg kk
theorem gf_Sub_30 (X : hw_x p c s m args cc nL R_Sub (zz_D z) T) (V : hw_v (zz_D z) (zz_E z) (zz_A z) (zz_O z) A σ H0 H locs) (ho : zz_O z (12, j)) (hdg : decode cc pc = .ok (.getfield 30, 3)) (kk : W p l e R s m args below meth c H locs cells slots Q (F0 m (pc + 3) ls (.ref (zz_A z (16, j)) :: rest))) : W p l e R s m args below meth c H locs cells slots Q (F0 m pc ls (.ref (zz_A z (12, j)) :: rest)) := hw_get X V ho (ci := 2) (C := R_Sub) (Tb := F_Sub) (Nf := 4) (ref := R_Sub) rfl rfl in_Sub 2 (by decide) wi_139 rfl rfl hdg kk
theorem gf_Sub_34 (X : hw_x p c s m args cc nL R_Sub (zz_D z) T) (V : hw_v (zz_D z) (zz_E z) (zz_A z) (zz_O z) A σ H0 H locs) (ho : zz_O z (12, j)) (hdg : decode cc pc = .ok (.getfield 34, 3)) (kk : W p l e R s m args below meth c H locs cells slots Q (F0 m (pc + 3) ls (.int (nI (σ (12, j) 3)) :: rest))) : W p l e R s m args below meth c H locs cells slots Q (F0 m pc ls (.ref (zz_A z (12, j)) :: rest)) := hw_get X V ho (ci := 2) (C := R_Sub) (Tb := F_Sub) (Nf := 4) (ref := R_Sub) rfl rfl in_Sub 3 (by decide) wi_140 rfl rfl hdg kk
theorem pf_Sub_34 {x : Nat} (X : hw_x p c s m args cc nL R_Sub (zz_D z) T) (V : hw_v (zz_D z) (zz_E z) (zz_A z) (zz_O z) A σ H0 H locs) (ho : zz_O z (12, j)) (hx : x < 2147483648) (hdg : decode cc pc = .ok (.putfield 34, 3)) (kk : ∀ (H1 : Heap) (locs1 : List Loc), hw_v (zz_D z) (zz_E z) (zz_A z) (zz_O z) A (hw_up σ (12, j) 3 x) H0 H1 locs1 → W p l e R s m args below meth c H1 locs1 cells slots Q (F0 m (pc + 3) ls rest)) : W p l e R s m args below meth c H locs cells slots Q (F0 m pc ls (.int (nI x) :: .ref (zz_A z (12, j)) :: rest)) := hw_put X V ho (ci := 2) (C := R_Sub) (Tb := F_Sub) (Nf := 4) (ref := R_Sub) (ty := .int) rfl rfl in_Sub t_Sub t_Sub_ok n_Sub 3 (by decide) wi_140 rfl rfl (by decide +kernel) (vp_nar_int _) rfl (Nat.le_of_ble_eq_true rfl) (by omega) rfl hdg kk
theorem gf_Top_18 (X : hw_x p c s m args cc nL R_Top (zz_D z) T) (V : hw_v (zz_D z) (zz_E z) (zz_A z) (zz_O z) A σ H0 H locs) (ho : zz_O z (0, 0)) (hdg : decode cc pc = .ok (.getfield 18, 3)) (kk : W p l e R s m args below meth c H locs cells slots Q (F0 m (pc + 3) ls (.ref (zz_A z (1, 0)) :: rest))) : W p l e R s m args below meth c H locs cells slots Q (F0 m pc ls (.ref (zz_A z (0, 0)) :: rest)) := hw_get X V ho (ci := 3) (C := R_Top) (Tb := F_Top) (Nf := 7) (ref := R_Top) rfl rfl in_Top 0 (by decide) wi_153 rfl rfl hdg kk
theorem gf_Top_24 (X : hw_x p c s m args cc nL R_Top (zz_D z) T) (V : hw_v (zz_D z) (zz_E z) (zz_A z) (zz_O z) A σ H0 H locs) (ho : zz_O z (0, 0)) (hdg : decode cc pc = .ok (.getfield 24, 3)) (kk : W p l e R s m args below meth c H locs cells slots Q (F0 m (pc + 3) ls (.ref (zz_A z (11, 0)) :: rest))) : W p l e R s m args below meth c H locs cells slots Q (F0 m pc ls (.ref (zz_A z (0, 0)) :: rest)) := hw_get X V ho (ci := 3) (C := R_Top) (Tb := F_Top) (Nf := 7) (ref := R_Top) rfl rfl in_Top 1 (by decide) wi_154 rfl rfl hdg kk
theorem gf_Top_31 (X : hw_x p c s m args cc nL R_Top (zz_D z) T) (V : hw_v (zz_D z) (zz_E z) (zz_A z) (zz_O z) A σ H0 H locs) (ho : zz_O z (0, 0)) (hdg : decode cc pc = .ok (.getfield 31, 3)) (kk : W p l e R s m args below meth c H locs cells slots Q (F0 m (pc + 3) ls (.ref (zz_A z (12, 4)) :: rest))) : W p l e R s m args below meth c H locs cells slots Q (F0 m pc ls (.ref (zz_A z (0, 0)) :: rest)) := hw_get X V ho (ci := 3) (C := R_Top) (Tb := F_Top) (Nf := 7) (ref := R_Top) rfl rfl in_Top 2 (by decide) wi_155 rfl rfl hdg kk
theorem gf_Top_35 (X : hw_x p c s m args cc nL R_Top (zz_D z) T) (V : hw_v (zz_D z) (zz_E z) (zz_A z) (zz_O z) A σ H0 H locs) (ho : zz_O z (0, 0)) (hdg : decode cc pc = .ok (.getfield 35, 3)) (kk : W p l e R s m args below meth c H locs cells slots Q (F0 m (pc + 3) ls (.ref (zz_A z (12, 5)) :: rest))) : W p l e R s m args below meth c H locs cells slots Q (F0 m pc ls (.ref (zz_A z (0, 0)) :: rest)) := hw_get X V ho (ci := 3) (C := R_Top) (Tb := F_Top) (Nf := 7) (ref := R_Top) rfl rfl in_Top 3 (by decide) wi_156 rfl rfl hdg kk
theorem gf_Top_38 (X : hw_x p c s m args cc nL R_Top (zz_D z) T) (V : hw_v (zz_D z) (zz_E z) (zz_A z) (zz_O z) A σ H0 H locs) (ho : zz_O z (0, 0)) (hdg : decode cc pc = .ok (.getfield 38, 3)) (kk : W p l e R s m args below meth c H locs cells slots Q (F0 m (pc + 3) ls (.ref (zz_A z (12, 6)) :: rest))) : W p l e R s m args below meth c H locs cells slots Q (F0 m pc ls (.ref (zz_A z (0, 0)) :: rest)) := hw_get X V ho (ci := 3) (C := R_Top) (Tb := F_Top) (Nf := 7) (ref := R_Top) rfl rfl in_Top 4 (by decide) wi_157 rfl rfl hdg kk
theorem gf_Top_50 (X : hw_x p c s m args cc nL R_Top (zz_D z) T) (V : hw_v (zz_D z) (zz_E z) (zz_A z) (zz_O z) A σ H0 H locs) (ho : zz_O z (0, 0)) (hdg : decode cc pc = .ok (.getfield 50, 3)) (kk : W p l e R s m args below meth c H locs cells slots Q (F0 m (pc + 3) ls (.ref (zz_A z (13, 7)) :: rest))) : W p l e R s m args below meth c H locs cells slots Q (F0 m pc ls (.ref (zz_A z (0, 0)) :: rest)) := hw_get X V ho (ci := 3) (C := R_Top) (Tb := F_Top) (Nf := 7) (ref := R_Top) rfl rfl in_Top 5 (by decide) wi_158 rfl rfl hdg kk
theorem gf_Top_54 (X : hw_x p c s m args cc nL R_Top (zz_D z) T) (V : hw_v (zz_D z) (zz_E z) (zz_A z) (zz_O z) A σ H0 H locs) (ho : zz_O z (0, 0)) (hdg : decode cc pc = .ok (.getfield 54, 3)) (kk : W p l e R s m args below meth c H locs cells slots Q (F0 m (pc + 3) ls (.int (nI (σ (0, 0) 6)) :: rest))) : W p l e R s m args below meth c H locs cells slots Q (F0 m pc ls (.ref (zz_A z (0, 0)) :: rest)) := hw_get X V ho (ci := 3) (C := R_Top) (Tb := F_Top) (Nf := 7) (ref := R_Top) rfl rfl in_Top 6 (by decide) wi_159 rfl rfl hdg kk
theorem pf_Top_54 {x : Nat} (X : hw_x p c s m args cc nL R_Top (zz_D z) T) (V : hw_v (zz_D z) (zz_E z) (zz_A z) (zz_O z) A σ H0 H locs) (ho : zz_O z (0, 0)) (hx : x < 2) (hdg : decode cc pc = .ok (.putfield 54, 3)) (kk : ∀ (H1 : Heap) (locs1 : List Loc), hw_v (zz_D z) (zz_E z) (zz_A z) (zz_O z) A (hw_up σ (0, 0) 6 x) H0 H1 locs1 → W p l e R s m args below meth c H1 locs1 cells slots Q (F0 m (pc + 3) ls rest)) : W p l e R s m args below meth c H locs cells slots Q (F0 m pc ls (.int (nI x) :: .ref (zz_A z (0, 0)) :: rest)) := hw_put X V ho (ci := 3) (C := R_Top) (Tb := F_Top) (Nf := 7) (ref := R_Top) (ty := .boolean) rfl rfl in_Top t_Top t_Top_ok n_Top 6 (by decide) wi_159 rfl rfl (by decide +kernel) (by rcases (show x = 0 ∨ x = 1 by omega) with rfl | rfl <;> decide) (by rcases (show x = 0 ∨ x = 1 by omega) with rfl | rfl <;> decide) (Nat.le_of_ble_eq_true rfl) (by omega) rfl hdg kk
theorem gf_Mod_44 (X : hw_x p c s m args cc nL R_Mod (zz_D z) T) (V : hw_v (zz_D z) (zz_E z) (zz_A z) (zz_O z) A σ H0 H locs) (ho : zz_O z (20, 0)) (hdg : decode cc pc = .ok (.getfield 44, 3)) (kk : W p l e R s m args below meth c H locs cells slots Q (F0 m (pc + 3) ls (.int (nI (σ (20, 0) 0)) :: rest))) : W p l e R s m args below meth c H locs cells slots Q (F0 m pc ls (.ref (zz_A z (20, 0)) :: rest)) := hw_get X V ho (ci := 4) (C := R_Mod) (Tb := F_Mod) (Nf := 14) (ref := R_Mod) rfl rfl in_Mod 0 (by decide) wi_457 rfl rfl hdg kk
theorem gf_Mod_48 (X : hw_x p c s m args cc nL R_Mod (zz_D z) T) (V : hw_v (zz_D z) (zz_E z) (zz_A z) (zz_O z) A σ H0 H locs) (ho : zz_O z (20, 0)) (hdg : decode cc pc = .ok (.getfield 48, 3)) (kk : W p l e R s m args below meth c H locs cells slots Q (F0 m (pc + 3) ls (.int (nI (σ (20, 0) 1)) :: rest))) : W p l e R s m args below meth c H locs cells slots Q (F0 m pc ls (.ref (zz_A z (20, 0)) :: rest)) := hw_get X V ho (ci := 4) (C := R_Mod) (Tb := F_Mod) (Nf := 14) (ref := R_Mod) rfl rfl in_Mod 1 (by decide) wi_458 rfl rfl hdg kk
theorem gf_Mod_7 (X : hw_x p c s m args cc nL R_Mod (zz_D z) T) (V : hw_v (zz_D z) (zz_E z) (zz_A z) (zz_O z) A σ H0 H locs) (ho : zz_O z (20, 0)) (hdg : decode cc pc = .ok (.getfield 7, 3)) (kk : W p l e R s m args below meth c H locs cells slots Q (F0 m (pc + 3) ls (.ref (zz_A z (21, 0)) :: rest))) : W p l e R s m args below meth c H locs cells slots Q (F0 m pc ls (.ref (zz_A z (20, 0)) :: rest)) := hw_get X V ho (ci := 4) (C := R_Mod) (Tb := F_Mod) (Nf := 14) (ref := R_Mod) rfl rfl in_Mod 2 (by decide) wi_459 rfl rfl hdg kk
theorem gf_Mod_13 (X : hw_x p c s m args cc nL R_Mod (zz_D z) T) (V : hw_v (zz_D z) (zz_E z) (zz_A z) (zz_O z) A σ H0 H locs) (ho : zz_O z (20, 0)) (hdg : decode cc pc = .ok (.getfield 13, 3)) (kk : W p l e R s m args below meth c H locs cells slots Q (F0 m (pc + 3) ls (.ref (zz_A z (22, 0)) :: rest))) : W p l e R s m args below meth c H locs cells slots Q (F0 m pc ls (.ref (zz_A z (20, 0)) :: rest)) := hw_get X V ho (ci := 4) (C := R_Mod) (Tb := F_Mod) (Nf := 14) (ref := R_Mod) rfl rfl in_Mod 3 (by decide) wi_460 rfl rfl hdg kk
theorem gf_Mod_16 (X : hw_x p c s m args cc nL R_Mod (zz_D z) T) (V : hw_v (zz_D z) (zz_E z) (zz_A z) (zz_O z) A σ H0 H locs) (ho : zz_O z (20, 0)) (hdg : decode cc pc = .ok (.getfield 16, 3)) (kk : W p l e R s m args below meth c H locs cells slots Q (F0 m (pc + 3) ls (.ref (zz_A z (23, 0)) :: rest))) : W p l e R s m args below meth c H locs cells slots Q (F0 m pc ls (.ref (zz_A z (20, 0)) :: rest)) := hw_get X V ho (ci := 4) (C := R_Mod) (Tb := F_Mod) (Nf := 14) (ref := R_Mod) rfl rfl in_Mod 4 (by decide) wi_461 rfl rfl hdg kk
theorem gf_Mod_19 (X : hw_x p c s m args cc nL R_Mod (zz_D z) T) (V : hw_v (zz_D z) (zz_E z) (zz_A z) (zz_O z) A σ H0 H locs) (ho : zz_O z (20, 0)) (hdg : decode cc pc = .ok (.getfield 19, 3)) (kk : W p l e R s m args below meth c H locs cells slots Q (F0 m (pc + 3) ls (.ref (zz_A z (24, 0)) :: rest))) : W p l e R s m args below meth c H locs cells slots Q (F0 m pc ls (.ref (zz_A z (20, 0)) :: rest)) := hw_get X V ho (ci := 4) (C := R_Mod) (Tb := F_Mod) (Nf := 14) (ref := R_Mod) rfl rfl in_Mod 5 (by decide) wi_462 rfl rfl hdg kk
theorem gf_Mod_55 (X : hw_x p c s m args cc nL R_Mod (zz_D z) T) (V : hw_v (zz_D z) (zz_E z) (zz_A z) (zz_O z) A σ H0 H locs) (ho : zz_O z (20, 0)) (hdg : decode cc pc = .ok (.getfield 55, 3)) (kk : W p l e R s m args below meth c H locs cells slots Q (F0 m (pc + 3) ls (.int (nI (σ (20, 0) 6)) :: rest))) : W p l e R s m args below meth c H locs cells slots Q (F0 m pc ls (.ref (zz_A z (20, 0)) :: rest)) := hw_get X V ho (ci := 4) (C := R_Mod) (Tb := F_Mod) (Nf := 14) (ref := R_Mod) rfl rfl in_Mod 6 (by decide) wi_463 rfl rfl hdg kk
theorem pf_Mod_55 {x : Nat} (X : hw_x p c s m args cc nL R_Mod (zz_D z) T) (V : hw_v (zz_D z) (zz_E z) (zz_A z) (zz_O z) A σ H0 H locs) (ho : zz_O z (20, 0)) (hx : x < 2) (hdg : decode cc pc = .ok (.putfield 55, 3)) (kk : ∀ (H1 : Heap) (locs1 : List Loc), hw_v (zz_D z) (zz_E z) (zz_A z) (zz_O z) A (hw_up σ (20, 0) 6 x) H0 H1 locs1 → W p l e R s m args below meth c H1 locs1 cells slots Q (F0 m (pc + 3) ls rest)) : W p l e R s m args below meth c H locs cells slots Q (F0 m pc ls (.int (nI x) :: .ref (zz_A z (20, 0)) :: rest)) := hw_put X V ho (ci := 4) (C := R_Mod) (Tb := F_Mod) (Nf := 14) (ref := R_Mod) (ty := .boolean) rfl rfl in_Mod t_Mod t_Mod_ok n_Mod 6 (by decide) wi_463 rfl rfl (by decide +kernel) (by rcases (show x = 0 ∨ x = 1 by omega) with rfl | rfl <;> decide) (by rcases (show x = 0 ∨ x = 1 by omega) with rfl | rfl <;> decide) (Nat.le_of_ble_eq_true rfl) (by omega) rfl hdg kk
theorem gf_Mod_22 (X : hw_x p c s m args cc nL R_Mod (zz_D z) T) (V : hw_v (zz_D z) (zz_E z) (zz_A z) (zz_O z) A σ H0 H locs) (ho : zz_O z (20, 0)) (hdg : decode cc pc = .ok (.getfield 22, 3)) (kk : W p l e R s m args below meth c H locs cells slots Q (F0 m (pc + 3) ls (.ref (zz_A z (25, 0)) :: rest))) : W p l e R s m args below meth c H locs cells slots Q (F0 m pc ls (.ref (zz_A z (20, 0)) :: rest)) := hw_get X V ho (ci := 4) (C := R_Mod) (Tb := F_Mod) (Nf := 14) (ref := R_Mod) rfl rfl in_Mod 7 (by decide) wi_464 rfl rfl hdg kk
theorem gf_Mod_25 (X : hw_x p c s m args cc nL R_Mod (zz_D z) T) (V : hw_v (zz_D z) (zz_E z) (zz_A z) (zz_O z) A σ H0 H locs) (ho : zz_O z (20, 0)) (hdg : decode cc pc = .ok (.getfield 25, 3)) (kk : W p l e R s m args below meth c H locs cells slots Q (F0 m (pc + 3) ls (.ref (zz_A z (26, 0)) :: rest))) : W p l e R s m args below meth c H locs cells slots Q (F0 m pc ls (.ref (zz_A z (20, 0)) :: rest)) := hw_get X V ho (ci := 4) (C := R_Mod) (Tb := F_Mod) (Nf := 14) (ref := R_Mod) rfl rfl in_Mod 8 (by decide) wi_465 rfl rfl hdg kk
theorem gf_Mod_28 (X : hw_x p c s m args cc nL R_Mod (zz_D z) T) (V : hw_v (zz_D z) (zz_E z) (zz_A z) (zz_O z) A σ H0 H locs) (ho : zz_O z (20, 0)) (hdg : decode cc pc = .ok (.getfield 28, 3)) (kk : W p l e R s m args below meth c H locs cells slots Q (F0 m (pc + 3) ls (.ref (zz_A z (27, 0)) :: rest))) : W p l e R s m args below meth c H locs cells slots Q (F0 m pc ls (.ref (zz_A z (20, 0)) :: rest)) := hw_get X V ho (ci := 4) (C := R_Mod) (Tb := F_Mod) (Nf := 14) (ref := R_Mod) rfl rfl in_Mod 9 (by decide) wi_466 rfl rfl hdg kk
theorem gf_Mod_31 (X : hw_x p c s m args cc nL R_Mod (zz_D z) T) (V : hw_v (zz_D z) (zz_E z) (zz_A z) (zz_O z) A σ H0 H locs) (ho : zz_O z (20, 0)) (hdg : decode cc pc = .ok (.getfield 31, 3)) (kk : W p l e R s m args below meth c H locs cells slots Q (F0 m (pc + 3) ls (.ref (zz_A z (28, 0)) :: rest))) : W p l e R s m args below meth c H locs cells slots Q (F0 m pc ls (.ref (zz_A z (20, 0)) :: rest)) := hw_get X V ho (ci := 4) (C := R_Mod) (Tb := F_Mod) (Nf := 14) (ref := R_Mod) rfl rfl in_Mod 10 (by decide) wi_467 rfl rfl hdg kk
theorem gf_Mod_34 (X : hw_x p c s m args cc nL R_Mod (zz_D z) T) (V : hw_v (zz_D z) (zz_E z) (zz_A z) (zz_O z) A σ H0 H locs) (ho : zz_O z (20, 0)) (hdg : decode cc pc = .ok (.getfield 34, 3)) (kk : W p l e R s m args below meth c H locs cells slots Q (F0 m (pc + 3) ls (.ref (zz_A z (29, 0)) :: rest))) : W p l e R s m args below meth c H locs cells slots Q (F0 m pc ls (.ref (zz_A z (20, 0)) :: rest)) := hw_get X V ho (ci := 4) (C := R_Mod) (Tb := F_Mod) (Nf := 14) (ref := R_Mod) rfl rfl in_Mod 11 (by decide) wi_468 rfl rfl hdg kk
theorem gf_Mod_38 (X : hw_x p c s m args cc nL R_Mod (zz_D z) T) (V : hw_v (zz_D z) (zz_E z) (zz_A z) (zz_O z) A σ H0 H locs) (ho : zz_O z (20, 0)) (hdg : decode cc pc = .ok (.getfield 38, 3)) (kk : W p l e R s m args below meth c H locs cells slots Q (F0 m (pc + 3) ls (.ref (zz_A z (30, 0)) :: rest))) : W p l e R s m args below meth c H locs cells slots Q (F0 m pc ls (.ref (zz_A z (20, 0)) :: rest)) := hw_get X V ho (ci := 4) (C := R_Mod) (Tb := F_Mod) (Nf := 14) (ref := R_Mod) rfl rfl in_Mod 12 (by decide) wi_469 rfl rfl hdg kk
theorem gf_Mod_41 (X : hw_x p c s m args cc nL R_Mod (zz_D z) T) (V : hw_v (zz_D z) (zz_E z) (zz_A z) (zz_O z) A σ H0 H locs) (ho : zz_O z (20, 0)) (hdg : decode cc pc = .ok (.getfield 41, 3)) (kk : W p l e R s m args below meth c H locs cells slots Q (F0 m (pc + 3) ls (.ref (zz_A z (31, 0)) :: rest))) : W p l e R s m args below meth c H locs cells slots Q (F0 m pc ls (.ref (zz_A z (20, 0)) :: rest)) := hw_get X V ho (ci := 4) (C := R_Mod) (Tb := F_Mod) (Nf := 14) (ref := R_Mod) rfl rfl in_Mod 13 (by decide) wi_470 rfl rfl hdg kk
end
end
section
theorem d_Set_init_0 : decode b_Set_init 0 = .ok (.aload_n 0, 1) := by decide +kernel
theorem d_Set_init_1 : decode b_Set_init 1 = .ok (.invokespecial 3, 3) := by decide +kernel
theorem d_Set_init_4 : decode b_Set_init 4 = .ok (.aload_n 0, 1) := by decide +kernel
theorem d_Set_init_5 : decode b_Set_init 5 = .ok (.iload_n 1, 1) := by decide +kernel
theorem d_Set_init_6 : decode b_Set_init 6 = .ok (.newarray .boolean, 2) := by decide +kernel
theorem d_Set_init_8 : decode b_Set_init 8 = .ok (.putfield 9, 3) := by decide +kernel
theorem d_Set_init_11 : decode b_Set_init 11 = .ok (.aload_n 0, 1) := by decide +kernel
theorem d_Set_init_12 : decode b_Set_init 12 = .ok (.iload_n 1, 1) := by decide +kernel
theorem d_Set_init_13 : decode b_Set_init 13 = .ok (.newarray .int, 2) := by decide +kernel
theorem d_Set_init_15 : decode b_Set_init 15 = .ok (.putfield 15, 3) := by decide +kernel
theorem d_Set_init_18 : decode b_Set_init 18 = .ok (.aload_n 0, 1) := by decide +kernel
theorem d_Set_init_19 : decode b_Set_init 19 = .ok (.iconst 0, 1) := by decide +kernel
theorem d_Set_init_20 : decode b_Set_init 20 = .ok (.putfield 19, 3) := by decide +kernel
theorem d_Set_init_23 : decode b_Set_init 23 = .ok (.return_, 1) := by decide +kernel
theorem d_Set_empty_0 : decode b_Set_empty 0 = .ok (.iconst 0, 1) := by decide +kernel
theorem d_Set_empty_1 : decode b_Set_empty 1 = .ok (.istore_n 1, 1) := by decide +kernel
theorem d_Set_empty_2 : decode b_Set_empty 2 = .ok (.iload_n 1, 1) := by decide +kernel
theorem d_Set_empty_3 : decode b_Set_empty 3 = .ok (.aload_n 0, 1) := by decide +kernel
theorem d_Set_empty_4 : decode b_Set_empty 4 = .ok (.getfield 19, 3) := by decide +kernel
theorem d_Set_empty_7 : decode b_Set_empty 7 = .ok (.if_icmp .ge 21, 3) := by decide +kernel
theorem d_Set_empty_10 : decode b_Set_empty 10 = .ok (.aload_n 0, 1) := by decide +kernel
theorem d_Set_empty_11 : decode b_Set_empty 11 = .ok (.getfield 9, 3) := by decide +kernel
theorem d_Set_empty_14 : decode b_Set_empty 14 = .ok (.aload_n 0, 1) := by decide +kernel
theorem d_Set_empty_15 : decode b_Set_empty 15 = .ok (.getfield 15, 3) := by decide +kernel
theorem d_Set_empty_18 : decode b_Set_empty 18 = .ok (.iload_n 1, 1) := by decide +kernel
theorem d_Set_empty_19 : decode b_Set_empty 19 = .ok (.iaload, 1) := by decide +kernel
theorem d_Set_empty_20 : decode b_Set_empty 20 = .ok (.iconst 0, 1) := by decide +kernel
theorem d_Set_empty_21 : decode b_Set_empty 21 = .ok (.bastore, 1) := by decide +kernel
theorem d_Set_empty_22 : decode b_Set_empty 22 = .ok (.iinc 1 1, 3) := by decide +kernel
theorem d_Set_empty_25 : decode b_Set_empty 25 = .ok (.goto (-23), 3) := by decide +kernel
theorem d_Set_empty_28 : decode b_Set_empty 28 = .ok (.aload_n 0, 1) := by decide +kernel
theorem d_Set_empty_29 : decode b_Set_empty 29 = .ok (.iconst 0, 1) := by decide +kernel
theorem d_Set_empty_30 : decode b_Set_empty 30 = .ok (.putfield 19, 3) := by decide +kernel
theorem d_Set_empty_33 : decode b_Set_empty 33 = .ok (.return_, 1) := by decide +kernel
theorem d_Set_add_0 : decode b_Set_add 0 = .ok (.aload_n 0, 1) := by decide +kernel
theorem d_Set_add_1 : decode b_Set_add 1 = .ok (.getfield 9, 3) := by decide +kernel
theorem d_Set_add_4 : decode b_Set_add 4 = .ok (.iload_n 1, 1) := by decide +kernel
theorem d_Set_add_5 : decode b_Set_add 5 = .ok (.baload, 1) := by decide +kernel
theorem d_Set_add_6 : decode b_Set_add 6 = .ok (.ifCond .ne 30, 3) := by decide +kernel
theorem d_Set_add_9 : decode b_Set_add 9 = .ok (.aload_n 0, 1) := by decide +kernel
theorem d_Set_add_10 : decode b_Set_add 10 = .ok (.getfield 9, 3) := by decide +kernel
theorem d_Set_add_13 : decode b_Set_add 13 = .ok (.iload_n 1, 1) := by decide +kernel
theorem d_Set_add_14 : decode b_Set_add 14 = .ok (.iconst 1, 1) := by decide +kernel
theorem d_Set_add_15 : decode b_Set_add 15 = .ok (.bastore, 1) := by decide +kernel
theorem d_Set_add_16 : decode b_Set_add 16 = .ok (.aload_n 0, 1) := by decide +kernel
theorem d_Set_add_17 : decode b_Set_add 17 = .ok (.getfield 15, 3) := by decide +kernel
theorem d_Set_add_20 : decode b_Set_add 20 = .ok (.aload_n 0, 1) := by decide +kernel
theorem d_Set_add_21 : decode b_Set_add 21 = .ok (.getfield 19, 3) := by decide +kernel
theorem d_Set_add_24 : decode b_Set_add 24 = .ok (.iload_n 1, 1) := by decide +kernel
theorem d_Set_add_25 : decode b_Set_add 25 = .ok (.iastore, 1) := by decide +kernel
theorem d_Set_add_26 : decode b_Set_add 26 = .ok (.aload_n 0, 1) := by decide +kernel
theorem d_Set_add_27 : decode b_Set_add 27 = .ok (.dup, 1) := by decide +kernel
theorem d_Set_add_28 : decode b_Set_add 28 = .ok (.getfield 19, 3) := by decide +kernel
theorem d_Set_add_31 : decode b_Set_add 31 = .ok (.iconst 1, 1) := by decide +kernel
theorem d_Set_add_32 : decode b_Set_add 32 = .ok (.iadd, 1) := by decide +kernel
theorem d_Set_add_33 : decode b_Set_add 33 = .ok (.putfield 19, 3) := by decide +kernel
theorem d_Set_add_36 : decode b_Set_add 36 = .ok (.return_, 1) := by decide +kernel
theorem d_Set_holds_0 : decode b_Set_holds 0 = .ok (.aload_n 0, 1) := by decide +kernel
theorem d_Set_holds_1 : decode b_Set_holds 1 = .ok (.getfield 9, 3) := by decide +kernel
theorem d_Set_holds_4 : decode b_Set_holds 4 = .ok (.iload_n 1, 1) := by decide +kernel
theorem d_Set_holds_5 : decode b_Set_holds 5 = .ok (.baload, 1) := by decide +kernel
theorem d_Set_holds_6 : decode b_Set_holds 6 = .ok (.ireturn, 1) := by decide +kernel
theorem d_Set_amount_0 : decode b_Set_amount 0 = .ok (.aload_n 0, 1) := by decide +kernel
theorem d_Set_amount_1 : decode b_Set_amount 1 = .ok (.getfield 19, 3) := by decide +kernel
theorem d_Set_amount_4 : decode b_Set_amount 4 = .ok (.ireturn, 1) := by decide +kernel
theorem d_Set_member_0 : decode b_Set_member 0 = .ok (.aload_n 0, 1) := by decide +kernel
theorem d_Set_member_1 : decode b_Set_member 1 = .ok (.getfield 15, 3) := by decide +kernel
theorem d_Set_member_4 : decode b_Set_member 4 = .ok (.iload_n 1, 1) := by decide +kernel
theorem d_Set_member_5 : decode b_Set_member 5 = .ok (.iaload, 1) := by decide +kernel
theorem d_Set_member_6 : decode b_Set_member 6 = .ok (.ireturn, 1) := by decide +kernel
theorem d_Set_least_0 : decode b_Set_least 0 = .ok (.iconst 0, 1) := by decide +kernel
theorem d_Set_least_1 : decode b_Set_least 1 = .ok (.istore_n 1, 1) := by decide +kernel
theorem d_Set_least_2 : decode b_Set_least 2 = .ok (.iload_n 1, 1) := by decide +kernel
theorem d_Set_least_3 : decode b_Set_least 3 = .ok (.aload_n 0, 1) := by decide +kernel
theorem d_Set_least_4 : decode b_Set_least 4 = .ok (.getfield 9, 3) := by decide +kernel
theorem d_Set_least_7 : decode b_Set_least 7 = .ok (.arraylength, 1) := by decide +kernel
theorem d_Set_least_8 : decode b_Set_least 8 = .ok (.if_icmp .ge 20, 3) := by decide +kernel
theorem d_Set_least_11 : decode b_Set_least 11 = .ok (.aload_n 0, 1) := by decide +kernel
theorem d_Set_least_12 : decode b_Set_least 12 = .ok (.getfield 9, 3) := by decide +kernel
theorem d_Set_least_15 : decode b_Set_least 15 = .ok (.iload_n 1, 1) := by decide +kernel
theorem d_Set_least_16 : decode b_Set_least 16 = .ok (.baload, 1) := by decide +kernel
theorem d_Set_least_17 : decode b_Set_least 17 = .ok (.ifCond .eq 5, 3) := by decide +kernel
theorem d_Set_least_20 : decode b_Set_least 20 = .ok (.iload_n 1, 1) := by decide +kernel
theorem d_Set_least_21 : decode b_Set_least 21 = .ok (.ireturn, 1) := by decide +kernel
theorem d_Set_least_22 : decode b_Set_least 22 = .ok (.iinc 1 1, 3) := by decide +kernel
theorem d_Set_least_25 : decode b_Set_least 25 = .ok (.goto (-23), 3) := by decide +kernel
theorem d_Set_least_28 : decode b_Set_least 28 = .ok (.iconst (-1), 1) := by decide +kernel
theorem d_Set_least_29 : decode b_Set_least 29 = .ok (.ireturn, 1) := by decide +kernel
end
section
theorem d_Col_init_0 : decode b_Col_init 0 = .ok (.aload_n 0, 1) := by decide +kernel
theorem d_Col_init_1 : decode b_Col_init 1 = .ok (.invokespecial 1, 3) := by decide +kernel
theorem d_Col_init_4 : decode b_Col_init 4 = .ok (.aload_n 0, 1) := by decide +kernel
theorem d_Col_init_5 : decode b_Col_init 5 = .ok (.aload_n 1, 1) := by decide +kernel
theorem d_Col_init_6 : decode b_Col_init 6 = .ok (.arraylength, 1) := by decide +kernel
theorem d_Col_init_7 : decode b_Col_init 7 = .ok (.putfield 7, 3) := by decide +kernel
theorem d_Col_init_10 : decode b_Col_init 10 = .ok (.aload_n 0, 1) := by decide +kernel
theorem d_Col_init_11 : decode b_Col_init 11 = .ok (.aload_n 1, 1) := by decide +kernel
theorem d_Col_init_12 : decode b_Col_init 12 = .ok (.putfield 13, 3) := by decide +kernel
theorem d_Col_init_15 : decode b_Col_init 15 = .ok (.aload_n 0, 1) := by decide +kernel
theorem d_Col_init_16 : decode b_Col_init 16 = .ok (.aload_n 0, 1) := by decide +kernel
theorem d_Col_init_17 : decode b_Col_init 17 = .ok (.getfield 7, 3) := by decide +kernel
theorem d_Col_init_20 : decode b_Col_init 20 = .ok (.newarray .int, 2) := by decide +kernel
theorem d_Col_init_22 : decode b_Col_init 22 = .ok (.putfield 17, 3) := by decide +kernel
theorem d_Col_init_25 : decode b_Col_init 25 = .ok (.aload_n 0, 1) := by decide +kernel
theorem d_Col_init_26 : decode b_Col_init 26 = .ok (.aload_n 0, 1) := by decide +kernel
theorem d_Col_init_27 : decode b_Col_init 27 = .ok (.getfield 7, 3) := by decide +kernel
theorem d_Col_init_30 : decode b_Col_init 30 = .ok (.newarray .int, 2) := by decide +kernel
theorem d_Col_init_32 : decode b_Col_init 32 = .ok (.putfield 20, 3) := by decide +kernel
theorem d_Col_init_35 : decode b_Col_init 35 = .ok (.aload_n 0, 1) := by decide +kernel
theorem d_Col_init_36 : decode b_Col_init 36 = .ok (.aload_n 0, 1) := by decide +kernel
theorem d_Col_init_37 : decode b_Col_init 37 = .ok (.getfield 7, 3) := by decide +kernel
theorem d_Col_init_40 : decode b_Col_init 40 = .ok (.aload_n 0, 1) := by decide +kernel
theorem d_Col_init_41 : decode b_Col_init 41 = .ok (.getfield 7, 3) := by decide +kernel
theorem d_Col_init_44 : decode b_Col_init 44 = .ok (.multianewarray 23 2, 4) := by decide +kernel
theorem d_Col_init_48 : decode b_Col_init 48 = .ok (.putfield 25, 3) := by decide +kernel
theorem d_Col_init_51 : decode b_Col_init 51 = .ok (.aload_n 0, 1) := by decide +kernel
theorem d_Col_init_52 : decode b_Col_init 52 = .ok (.aload_n 0, 1) := by decide +kernel
theorem d_Col_init_53 : decode b_Col_init 53 = .ok (.getfield 7, 3) := by decide +kernel
theorem d_Col_init_56 : decode b_Col_init 56 = .ok (.anewarray 28, 3) := by decide +kernel
theorem d_Col_init_59 : decode b_Col_init 59 = .ok (.putfield 29, 3) := by decide +kernel
theorem d_Col_init_62 : decode b_Col_init 62 = .ok (.aload_n 0, 1) := by decide +kernel
theorem d_Col_init_63 : decode b_Col_init 63 = .ok (.aload_n 0, 1) := by decide +kernel
theorem d_Col_init_64 : decode b_Col_init 64 = .ok (.getfield 7, 3) := by decide +kernel
theorem d_Col_init_67 : decode b_Col_init 67 = .ok (.anewarray 28, 3) := by decide +kernel
theorem d_Col_init_70 : decode b_Col_init 70 = .ok (.putfield 32, 3) := by decide +kernel
theorem d_Col_init_73 : decode b_Col_init 73 = .ok (.iconst 1, 1) := by decide +kernel
theorem d_Col_init_74 : decode b_Col_init 74 = .ok (.istore_n 2, 1) := by decide +kernel
theorem d_Col_init_75 : decode b_Col_init 75 = .ok (.aload_n 0, 1) := by decide +kernel
theorem d_Col_init_76 : decode b_Col_init 76 = .ok (.getfield 7, 3) := by decide +kernel
theorem d_Col_init_79 : decode b_Col_init 79 = .ok (.iconst 1, 1) := by decide +kernel
theorem d_Col_init_80 : decode b_Col_init 80 = .ok (.isub, 1) := by decide +kernel
theorem d_Col_init_81 : decode b_Col_init 81 = .ok (.istore_n 3, 1) := by decide +kernel
theorem d_Col_init_82 : decode b_Col_init 82 = .ok (.iload_n 3, 1) := by decide +kernel
theorem d_Col_init_83 : decode b_Col_init 83 = .ok (.ifCond .lt 43, 3) := by decide +kernel
theorem d_Col_init_86 : decode b_Col_init 86 = .ok (.aload_n 0, 1) := by decide +kernel
theorem d_Col_init_87 : decode b_Col_init 87 = .ok (.getfield 17, 3) := by decide +kernel
theorem d_Col_init_90 : decode b_Col_init 90 = .ok (.iload_n 3, 1) := by decide +kernel
theorem d_Col_init_91 : decode b_Col_init 91 = .ok (.iload_n 2, 1) := by decide +kernel
theorem d_Col_init_92 : decode b_Col_init 92 = .ok (.iastore, 1) := by decide +kernel
theorem d_Col_init_93 : decode b_Col_init 93 = .ok (.iload_n 2, 1) := by decide +kernel
theorem d_Col_init_94 : decode b_Col_init 94 = .ok (.aload_n 0, 1) := by decide +kernel
theorem d_Col_init_95 : decode b_Col_init 95 = .ok (.getfield 13, 3) := by decide +kernel
theorem d_Col_init_98 : decode b_Col_init 98 = .ok (.iload_n 3, 1) := by decide +kernel
theorem d_Col_init_99 : decode b_Col_init 99 = .ok (.iaload, 1) := by decide +kernel
theorem d_Col_init_100 : decode b_Col_init 100 = .ok (.imul, 1) := by decide +kernel
theorem d_Col_init_101 : decode b_Col_init 101 = .ok (.istore_n 2, 1) := by decide +kernel
theorem d_Col_init_102 : decode b_Col_init 102 = .ok (.aload_n 0, 1) := by decide +kernel
theorem d_Col_init_103 : decode b_Col_init 103 = .ok (.getfield 29, 3) := by decide +kernel
theorem d_Col_init_106 : decode b_Col_init 106 = .ok (.iload_n 3, 1) := by decide +kernel
theorem d_Col_init_107 : decode b_Col_init 107 = .ok (.iload_n 2, 1) := by decide +kernel
theorem d_Col_init_108 : decode b_Col_init 108 = .ok (.newarray .int, 2) := by decide +kernel
theorem d_Col_init_110 : decode b_Col_init 110 = .ok (.aastore, 1) := by decide +kernel
theorem d_Col_init_111 : decode b_Col_init 111 = .ok (.aload_n 0, 1) := by decide +kernel
theorem d_Col_init_112 : decode b_Col_init 112 = .ok (.getfield 32, 3) := by decide +kernel
theorem d_Col_init_115 : decode b_Col_init 115 = .ok (.iload_n 3, 1) := by decide +kernel
theorem d_Col_init_116 : decode b_Col_init 116 = .ok (.iload_n 2, 1) := by decide +kernel
theorem d_Col_init_117 : decode b_Col_init 117 = .ok (.newarray .int, 2) := by decide +kernel
theorem d_Col_init_119 : decode b_Col_init 119 = .ok (.aastore, 1) := by decide +kernel
theorem d_Col_init_120 : decode b_Col_init 120 = .ok (.iinc 3 (-1), 3) := by decide +kernel
theorem d_Col_init_123 : decode b_Col_init 123 = .ok (.goto (-41), 3) := by decide +kernel
theorem d_Col_init_126 : decode b_Col_init 126 = .ok (.aload_n 0, 1) := by decide +kernel
theorem d_Col_init_127 : decode b_Col_init 127 = .ok (.iload_n 2, 1) := by decide +kernel
theorem d_Col_init_128 : decode b_Col_init 128 = .ok (.putfield 35, 3) := by decide +kernel
theorem d_Col_init_131 : decode b_Col_init 131 = .ok (.iconst 0, 1) := by decide +kernel
theorem d_Col_init_132 : decode b_Col_init 132 = .ok (.istore_n 3, 1) := by decide +kernel
theorem d_Col_init_133 : decode b_Col_init 133 = .ok (.iload_n 3, 1) := by decide +kernel
theorem d_Col_init_134 : decode b_Col_init 134 = .ok (.aload_n 0, 1) := by decide +kernel
theorem d_Col_init_135 : decode b_Col_init 135 = .ok (.getfield 7, 3) := by decide +kernel
theorem d_Col_init_138 : decode b_Col_init 138 = .ok (.if_icmp .ge 45, 3) := by decide +kernel
theorem d_Col_init_141 : decode b_Col_init 141 = .ok (.iload_n 3, 1) := by decide +kernel
theorem d_Col_init_142 : decode b_Col_init 142 = .ok (.iconst 1, 1) := by decide +kernel
theorem d_Col_init_143 : decode b_Col_init 143 = .ok (.iadd, 1) := by decide +kernel
theorem d_Col_init_144 : decode b_Col_init 144 = .ok (.istore 4, 2) := by decide +kernel
theorem d_Col_init_146 : decode b_Col_init 146 = .ok (.iload 4, 2) := by decide +kernel
theorem d_Col_init_148 : decode b_Col_init 148 = .ok (.aload_n 0, 1) := by decide +kernel
theorem d_Col_init_149 : decode b_Col_init 149 = .ok (.getfield 7, 3) := by decide +kernel
theorem d_Col_init_152 : decode b_Col_init 152 = .ok (.if_icmp .ge 25, 3) := by decide +kernel
theorem d_Col_init_155 : decode b_Col_init 155 = .ok (.aload_n 0, 1) := by decide +kernel
theorem d_Col_init_156 : decode b_Col_init 156 = .ok (.getfield 25, 3) := by decide +kernel
theorem d_Col_init_159 : decode b_Col_init 159 = .ok (.iload_n 3, 1) := by decide +kernel
theorem d_Col_init_160 : decode b_Col_init 160 = .ok (.aaload, 1) := by decide +kernel
theorem d_Col_init_161 : decode b_Col_init 161 = .ok (.iload 4, 2) := by decide +kernel
theorem d_Col_init_163 : decode b_Col_init 163 = .ok (.aload_n 0, 1) := by decide +kernel
theorem d_Col_init_164 : decode b_Col_init 164 = .ok (.getfield 17, 3) := by decide +kernel
theorem d_Col_init_167 : decode b_Col_init 167 = .ok (.iload 4, 2) := by decide +kernel
theorem d_Col_init_169 : decode b_Col_init 169 = .ok (.iaload, 1) := by decide +kernel
theorem d_Col_init_170 : decode b_Col_init 170 = .ok (.iastore, 1) := by decide +kernel
theorem d_Col_init_171 : decode b_Col_init 171 = .ok (.iinc 4 1, 3) := by decide +kernel
theorem d_Col_init_174 : decode b_Col_init 174 = .ok (.goto (-28), 3) := by decide +kernel
theorem d_Col_init_177 : decode b_Col_init 177 = .ok (.iinc 3 1, 3) := by decide +kernel
theorem d_Col_init_180 : decode b_Col_init 180 = .ok (.goto (-47), 3) := by decide +kernel
theorem d_Col_init_183 : decode b_Col_init 183 = .ok (.return_, 1) := by decide +kernel
theorem d_Col_letterCount_0 : decode b_Col_letterCount 0 = .ok (.aload_n 0, 1) := by decide +kernel
theorem d_Col_letterCount_1 : decode b_Col_letterCount 1 = .ok (.getfield 7, 3) := by decide +kernel
theorem d_Col_letterCount_4 : decode b_Col_letterCount 4 = .ok (.ireturn, 1) := by decide +kernel
theorem d_Col_elementCount_0 : decode b_Col_elementCount 0 = .ok (.aload_n 0, 1) := by decide +kernel
theorem d_Col_elementCount_1 : decode b_Col_elementCount 1 = .ok (.getfield 35, 3) := by decide +kernel
theorem d_Col_elementCount_4 : decode b_Col_elementCount 4 = .ok (.ireturn, 1) := by decide +kernel
theorem d_Col_isLetter_0 : decode b_Col_isLetter 0 = .ok (.iload_n 1, 1) := by decide +kernel
theorem d_Col_isLetter_1 : decode b_Col_isLetter 1 = .ok (.ifCond .lt 15, 3) := by decide +kernel
theorem d_Col_isLetter_4 : decode b_Col_isLetter 4 = .ok (.iload_n 1, 1) := by decide +kernel
theorem d_Col_isLetter_5 : decode b_Col_isLetter 5 = .ok (.aload_n 0, 1) := by decide +kernel
theorem d_Col_isLetter_6 : decode b_Col_isLetter 6 = .ok (.getfield 7, 3) := by decide +kernel
theorem d_Col_isLetter_9 : decode b_Col_isLetter 9 = .ok (.if_icmp .ge 7, 3) := by decide +kernel
theorem d_Col_isLetter_12 : decode b_Col_isLetter 12 = .ok (.iconst 1, 1) := by decide +kernel
theorem d_Col_isLetter_13 : decode b_Col_isLetter 13 = .ok (.goto 4, 3) := by decide +kernel
theorem d_Col_isLetter_16 : decode b_Col_isLetter 16 = .ok (.iconst 0, 1) := by decide +kernel
theorem d_Col_isLetter_17 : decode b_Col_isLetter 17 = .ok (.ireturn, 1) := by decide +kernel
theorem d_Col_letter_0 : decode b_Col_letter 0 = .ok (.aload_n 0, 1) := by decide +kernel
theorem d_Col_letter_1 : decode b_Col_letter 1 = .ok (.getfield 17, 3) := by decide +kernel
theorem d_Col_letter_4 : decode b_Col_letter 4 = .ok (.iload_n 1, 1) := by decide +kernel
theorem d_Col_letter_5 : decode b_Col_letter 5 = .ok (.iaload, 1) := by decide +kernel
theorem d_Col_letter_6 : decode b_Col_letter 6 = .ok (.ireturn, 1) := by decide +kernel
theorem d_Col_isWordBehind_0 : decode b_Col_isWordBehind 0 = .ok (.aload_n 0, 1) := by decide +kernel
theorem d_Col_isWordBehind_1 : decode b_Col_isWordBehind 1 = .ok (.iload_n 1, 1) := by decide +kernel
theorem d_Col_isWordBehind_2 : decode b_Col_isWordBehind 2 = .ok (.invokevirtual 38, 3) := by decide +kernel
theorem d_Col_isWordBehind_5 : decode b_Col_isWordBehind 5 = .ok (.ifCond .eq 21, 3) := by decide +kernel
theorem d_Col_isWordBehind_8 : decode b_Col_isWordBehind 8 = .ok (.iload_n 2, 1) := by decide +kernel
theorem d_Col_isWordBehind_9 : decode b_Col_isWordBehind 9 = .ok (.ifCond .lt 17, 3) := by decide +kernel
theorem d_Col_isWordBehind_12 : decode b_Col_isWordBehind 12 = .ok (.iload_n 2, 1) := by decide +kernel
theorem d_Col_isWordBehind_13 : decode b_Col_isWordBehind 13 = .ok (.aload_n 0, 1) := by decide +kernel
theorem d_Col_isWordBehind_14 : decode b_Col_isWordBehind 14 = .ok (.getfield 17, 3) := by decide +kernel
theorem d_Col_isWordBehind_17 : decode b_Col_isWordBehind 17 = .ok (.iload_n 1, 1) := by decide +kernel
theorem d_Col_isWordBehind_18 : decode b_Col_isWordBehind 18 = .ok (.iaload, 1) := by decide +kernel
theorem d_Col_isWordBehind_19 : decode b_Col_isWordBehind 19 = .ok (.if_icmp .ge 7, 3) := by decide +kernel
theorem d_Col_isWordBehind_22 : decode b_Col_isWordBehind 22 = .ok (.iconst 1, 1) := by decide +kernel
theorem d_Col_isWordBehind_23 : decode b_Col_isWordBehind 23 = .ok (.goto 4, 3) := by decide +kernel
theorem d_Col_isWordBehind_26 : decode b_Col_isWordBehind 26 = .ok (.iconst 0, 1) := by decide +kernel
theorem d_Col_isWordBehind_27 : decode b_Col_isWordBehind 27 = .ok (.ireturn, 1) := by decide +kernel
theorem d_Col_setPower_0 : decode b_Col_setPower 0 = .ok (.aload_n 0, 1) := by decide +kernel
theorem d_Col_setPower_1 : decode b_Col_setPower 1 = .ok (.getfield 20, 3) := by decide +kernel
theorem d_Col_setPower_4 : decode b_Col_setPower 4 = .ok (.iload_n 1, 1) := by decide +kernel
theorem d_Col_setPower_5 : decode b_Col_setPower 5 = .ok (.iload_n 2, 1) := by decide +kernel
theorem d_Col_setPower_6 : decode b_Col_setPower 6 = .ok (.iastore, 1) := by decide +kernel
theorem d_Col_setPower_7 : decode b_Col_setPower 7 = .ok (.return_, 1) := by decide +kernel
theorem d_Col_setConjugate_0 : decode b_Col_setConjugate 0 = .ok (.aload_n 0, 1) := by decide +kernel
theorem d_Col_setConjugate_1 : decode b_Col_setConjugate 1 = .ok (.getfield 25, 3) := by decide +kernel
theorem d_Col_setConjugate_4 : decode b_Col_setConjugate 4 = .ok (.iload_n 1, 1) := by decide +kernel
theorem d_Col_setConjugate_5 : decode b_Col_setConjugate 5 = .ok (.aaload, 1) := by decide +kernel
theorem d_Col_setConjugate_6 : decode b_Col_setConjugate 6 = .ok (.iload_n 2, 1) := by decide +kernel
theorem d_Col_setConjugate_7 : decode b_Col_setConjugate 7 = .ok (.iload_n 3, 1) := by decide +kernel
theorem d_Col_setConjugate_8 : decode b_Col_setConjugate 8 = .ok (.iastore, 1) := by decide +kernel
theorem d_Col_setConjugate_9 : decode b_Col_setConjugate 9 = .ok (.return_, 1) := by decide +kernel
theorem d_Col_build_0 : decode b_Col_build 0 = .ok (.aload_n 0, 1) := by decide +kernel
theorem d_Col_build_1 : decode b_Col_build 1 = .ok (.getfield 7, 3) := by decide +kernel
theorem d_Col_build_4 : decode b_Col_build 4 = .ok (.iconst 1, 1) := by decide +kernel
theorem d_Col_build_5 : decode b_Col_build 5 = .ok (.isub, 1) := by decide +kernel
theorem d_Col_build_6 : decode b_Col_build 6 = .ok (.istore_n 1, 1) := by decide +kernel
theorem d_Col_build_7 : decode b_Col_build 7 = .ok (.iload_n 1, 1) := by decide +kernel
theorem d_Col_build_8 : decode b_Col_build 8 = .ok (.ifCond .lt 45, 3) := by decide +kernel
theorem d_Col_build_11 : decode b_Col_build 11 = .ok (.aload_n 0, 1) := by decide +kernel
theorem d_Col_build_12 : decode b_Col_build 12 = .ok (.iload_n 1, 1) := by decide +kernel
theorem d_Col_build_13 : decode b_Col_build 13 = .ok (.invokevirtual 42, 3) := by decide +kernel
theorem d_Col_build_16 : decode b_Col_build 16 = .ok (.aload_n 0, 1) := by decide +kernel
theorem d_Col_build_17 : decode b_Col_build 17 = .ok (.iload_n 1, 1) := by decide +kernel
theorem d_Col_build_18 : decode b_Col_build 18 = .ok (.invokevirtual 46, 3) := by decide +kernel
theorem d_Col_build_21 : decode b_Col_build 21 = .ok (.aload_n 0, 1) := by decide +kernel
theorem d_Col_build_22 : decode b_Col_build 22 = .ok (.iload_n 1, 1) := by decide +kernel
theorem d_Col_build_23 : decode b_Col_build 23 = .ok (.invokevirtual 49, 3) := by decide +kernel
theorem d_Col_build_26 : decode b_Col_build 26 = .ok (.ifCond .eq 19, 3) := by decide +kernel
theorem d_Col_build_29 : decode b_Col_build 29 = .ok (.aload_n 0, 1) := by decide +kernel
theorem d_Col_build_30 : decode b_Col_build 30 = .ok (.iload_n 1, 1) := by decide +kernel
theorem d_Col_build_31 : decode b_Col_build 31 = .ok (.invokevirtual 52, 3) := by decide +kernel
theorem d_Col_build_34 : decode b_Col_build 34 = .ok (.ifCond .eq 11, 3) := by decide +kernel
theorem d_Col_build_37 : decode b_Col_build 37 = .ok (.aload_n 0, 1) := by decide +kernel
theorem d_Col_build_38 : decode b_Col_build 38 = .ok (.iload_n 1, 1) := by decide +kernel
theorem d_Col_build_39 : decode b_Col_build 39 = .ok (.invokevirtual 55, 3) := by decide +kernel
theorem d_Col_build_42 : decode b_Col_build 42 = .ok (.ifCond .ne 5, 3) := by decide +kernel
theorem d_Col_build_45 : decode b_Col_build 45 = .ok (.iconst 0, 1) := by decide +kernel
theorem d_Col_build_46 : decode b_Col_build 46 = .ok (.ireturn, 1) := by decide +kernel
theorem d_Col_build_47 : decode b_Col_build 47 = .ok (.iinc 1 (-1), 3) := by decide +kernel
theorem d_Col_build_50 : decode b_Col_build 50 = .ok (.goto (-43), 3) := by decide +kernel
theorem d_Col_build_53 : decode b_Col_build 53 = .ok (.iconst 1, 1) := by decide +kernel
theorem d_Col_build_54 : decode b_Col_build 54 = .ok (.ireturn, 1) := by decide +kernel
theorem d_Col_multiply_0 : decode b_Col_multiply 0 = .ok (.aload_n 0, 1) := by decide +kernel
theorem d_Col_multiply_1 : decode b_Col_multiply 1 = .ok (.iconst 0, 1) := by decide +kernel
theorem d_Col_multiply_2 : decode b_Col_multiply 2 = .ok (.iload_n 1, 1) := by decide +kernel
theorem d_Col_multiply_3 : decode b_Col_multiply 3 = .ok (.iload_n 2, 1) := by decide +kernel
theorem d_Col_multiply_4 : decode b_Col_multiply 4 = .ok (.invokevirtual 58, 3) := by decide +kernel
theorem d_Col_multiply_7 : decode b_Col_multiply 7 = .ok (.ireturn, 1) := by decide +kernel
theorem d_Col_inverseOf_0 : decode b_Col_inverseOf 0 = .ok (.iload_n 1, 1) := by decide +kernel
theorem d_Col_inverseOf_1 : decode b_Col_inverseOf 1 = .ok (.istore_n 2, 1) := by decide +kernel
theorem d_Col_inverseOf_2 : decode b_Col_inverseOf 2 = .ok (.iconst 0, 1) := by decide +kernel
theorem d_Col_inverseOf_3 : decode b_Col_inverseOf 3 = .ok (.istore_n 3, 1) := by decide +kernel
theorem d_Col_inverseOf_4 : decode b_Col_inverseOf 4 = .ok (.iconst 0, 1) := by decide +kernel
theorem d_Col_inverseOf_5 : decode b_Col_inverseOf 5 = .ok (.istore 4, 2) := by decide +kernel
theorem d_Col_inverseOf_7 : decode b_Col_inverseOf 7 = .ok (.iload 4, 2) := by decide +kernel
theorem d_Col_inverseOf_9 : decode b_Col_inverseOf 9 = .ok (.aload_n 0, 1) := by decide +kernel
theorem d_Col_inverseOf_10 : decode b_Col_inverseOf 10 = .ok (.getfield 7, 3) := by decide +kernel
theorem d_Col_inverseOf_13 : decode b_Col_inverseOf 13 = .ok (.if_icmp .ge 67, 3) := by decide +kernel
theorem d_Col_inverseOf_16 : decode b_Col_inverseOf 16 = .ok (.aload_n 0, 1) := by decide +kernel
theorem d_Col_inverseOf_17 : decode b_Col_inverseOf 17 = .ok (.getfield 17, 3) := by decide +kernel
theorem d_Col_inverseOf_20 : decode b_Col_inverseOf 20 = .ok (.iload 4, 2) := by decide +kernel
theorem d_Col_inverseOf_22 : decode b_Col_inverseOf 22 = .ok (.iaload, 1) := by decide +kernel
theorem d_Col_inverseOf_23 : decode b_Col_inverseOf 23 = .ok (.istore 5, 2) := by decide +kernel
theorem d_Col_inverseOf_25 : decode b_Col_inverseOf 25 = .ok (.iload_n 2, 1) := by decide +kernel
theorem d_Col_inverseOf_26 : decode b_Col_inverseOf 26 = .ok (.iload 5, 2) := by decide +kernel
theorem d_Col_inverseOf_28 : decode b_Col_inverseOf 28 = .ok (.idiv, 1) := by decide +kernel
theorem d_Col_inverseOf_29 : decode b_Col_inverseOf 29 = .ok (.istore 6, 2) := by decide +kernel
theorem d_Col_inverseOf_31 : decode b_Col_inverseOf 31 = .ok (.iload_n 2, 1) := by decide +kernel
theorem d_Col_inverseOf_32 : decode b_Col_inverseOf 32 = .ok (.iload 5, 2) := by decide +kernel
theorem d_Col_inverseOf_34 : decode b_Col_inverseOf 34 = .ok (.irem, 1) := by decide +kernel
theorem d_Col_inverseOf_35 : decode b_Col_inverseOf 35 = .ok (.istore_n 2, 1) := by decide +kernel
theorem d_Col_inverseOf_36 : decode b_Col_inverseOf 36 = .ok (.iload 6, 2) := by decide +kernel
theorem d_Col_inverseOf_38 : decode b_Col_inverseOf 38 = .ok (.ifCond .le 36, 3) := by decide +kernel
theorem d_Col_inverseOf_41 : decode b_Col_inverseOf 41 = .ok (.aload_n 0, 1) := by decide +kernel
theorem d_Col_inverseOf_42 : decode b_Col_inverseOf 42 = .ok (.getfield 13, 3) := by decide +kernel
theorem d_Col_inverseOf_45 : decode b_Col_inverseOf 45 = .ok (.iload 4, 2) := by decide +kernel
theorem d_Col_inverseOf_47 : decode b_Col_inverseOf 47 = .ok (.iaload, 1) := by decide +kernel
theorem d_Col_inverseOf_48 : decode b_Col_inverseOf 48 = .ok (.iload 6, 2) := by decide +kernel
theorem d_Col_inverseOf_50 : decode b_Col_inverseOf 50 = .ok (.isub, 1) := by decide +kernel
theorem d_Col_inverseOf_51 : decode b_Col_inverseOf 51 = .ok (.iload 5, 2) := by decide +kernel
theorem d_Col_inverseOf_53 : decode b_Col_inverseOf 53 = .ok (.imul, 1) := by decide +kernel
theorem d_Col_inverseOf_54 : decode b_Col_inverseOf 54 = .ok (.istore 7, 2) := by decide +kernel
theorem d_Col_inverseOf_56 : decode b_Col_inverseOf 56 = .ok (.iload_n 3, 1) := by decide +kernel
theorem d_Col_inverseOf_57 : decode b_Col_inverseOf 57 = .ok (.iload 7, 2) := by decide +kernel
theorem d_Col_inverseOf_59 : decode b_Col_inverseOf 59 = .ok (.iadd, 1) := by decide +kernel
theorem d_Col_inverseOf_60 : decode b_Col_inverseOf 60 = .ok (.istore_n 3, 1) := by decide +kernel
theorem d_Col_inverseOf_61 : decode b_Col_inverseOf 61 = .ok (.aload_n 0, 1) := by decide +kernel
theorem d_Col_inverseOf_62 : decode b_Col_inverseOf 62 = .ok (.getfield 32, 3) := by decide +kernel
theorem d_Col_inverseOf_65 : decode b_Col_inverseOf 65 = .ok (.iload 4, 2) := by decide +kernel
theorem d_Col_inverseOf_67 : decode b_Col_inverseOf 67 = .ok (.aaload, 1) := by decide +kernel
theorem d_Col_inverseOf_68 : decode b_Col_inverseOf 68 = .ok (.iload 7, 2) := by decide +kernel
theorem d_Col_inverseOf_70 : decode b_Col_inverseOf 70 = .ok (.iload_n 2, 1) := by decide +kernel
theorem d_Col_inverseOf_71 : decode b_Col_inverseOf 71 = .ok (.iadd, 1) := by decide +kernel
theorem d_Col_inverseOf_72 : decode b_Col_inverseOf 72 = .ok (.iaload, 1) := by decide +kernel
theorem d_Col_inverseOf_73 : decode b_Col_inverseOf 73 = .ok (.istore_n 2, 1) := by decide +kernel
theorem d_Col_inverseOf_74 : decode b_Col_inverseOf 74 = .ok (.iinc 4 1, 3) := by decide +kernel
theorem d_Col_inverseOf_77 : decode b_Col_inverseOf 77 = .ok (.goto (-70), 3) := by decide +kernel
theorem d_Col_inverseOf_80 : decode b_Col_inverseOf 80 = .ok (.iload_n 3, 1) := by decide +kernel
theorem d_Col_inverseOf_81 : decode b_Col_inverseOf 81 = .ok (.ireturn, 1) := by decide +kernel
theorem d_Col_conjugateOf_0 : decode b_Col_conjugateOf 0 = .ok (.aload_n 0, 1) := by decide +kernel
theorem d_Col_conjugateOf_1 : decode b_Col_conjugateOf 1 = .ok (.aload_n 0, 1) := by decide +kernel
theorem d_Col_conjugateOf_2 : decode b_Col_conjugateOf 2 = .ok (.iload_n 2, 1) := by decide +kernel
theorem d_Col_conjugateOf_3 : decode b_Col_conjugateOf 3 = .ok (.invokevirtual 62, 3) := by decide +kernel
theorem d_Col_conjugateOf_6 : decode b_Col_conjugateOf 6 = .ok (.aload_n 0, 1) := by decide +kernel
theorem d_Col_conjugateOf_7 : decode b_Col_conjugateOf 7 = .ok (.iload_n 1, 1) := by decide +kernel
theorem d_Col_conjugateOf_8 : decode b_Col_conjugateOf 8 = .ok (.iload_n 2, 1) := by decide +kernel
theorem d_Col_conjugateOf_9 : decode b_Col_conjugateOf 9 = .ok (.invokevirtual 66, 3) := by decide +kernel
theorem d_Col_conjugateOf_12 : decode b_Col_conjugateOf 12 = .ok (.invokevirtual 66, 3) := by decide +kernel
theorem d_Col_conjugateOf_15 : decode b_Col_conjugateOf 15 = .ok (.ireturn, 1) := by decide +kernel
theorem d_Col_commutatorOf_0 : decode b_Col_commutatorOf 0 = .ok (.aload_n 0, 1) := by decide +kernel
theorem d_Col_commutatorOf_1 : decode b_Col_commutatorOf 1 = .ok (.aload_n 0, 1) := by decide +kernel
theorem d_Col_commutatorOf_2 : decode b_Col_commutatorOf 2 = .ok (.iload_n 1, 1) := by decide +kernel
theorem d_Col_commutatorOf_3 : decode b_Col_commutatorOf 3 = .ok (.invokevirtual 62, 3) := by decide +kernel
theorem d_Col_commutatorOf_6 : decode b_Col_commutatorOf 6 = .ok (.aload_n 0, 1) := by decide +kernel
theorem d_Col_commutatorOf_7 : decode b_Col_commutatorOf 7 = .ok (.iload_n 1, 1) := by decide +kernel
theorem d_Col_commutatorOf_8 : decode b_Col_commutatorOf 8 = .ok (.iload_n 2, 1) := by decide +kernel
theorem d_Col_commutatorOf_9 : decode b_Col_commutatorOf 9 = .ok (.invokevirtual 70, 3) := by decide +kernel
theorem d_Col_commutatorOf_12 : decode b_Col_commutatorOf 12 = .ok (.invokevirtual 66, 3) := by decide +kernel
theorem d_Col_commutatorOf_15 : decode b_Col_commutatorOf 15 = .ok (.ireturn, 1) := by decide +kernel
theorem d_Col_orderOf_0 : decode b_Col_orderOf 0 = .ok (.iconst 1, 1) := by decide +kernel
theorem d_Col_orderOf_1 : decode b_Col_orderOf 1 = .ok (.istore_n 2, 1) := by decide +kernel
theorem d_Col_orderOf_2 : decode b_Col_orderOf 2 = .ok (.iload_n 1, 1) := by decide +kernel
theorem d_Col_orderOf_3 : decode b_Col_orderOf 3 = .ok (.istore_n 3, 1) := by decide +kernel
theorem d_Col_orderOf_4 : decode b_Col_orderOf 4 = .ok (.iload_n 3, 1) := by decide +kernel
theorem d_Col_orderOf_5 : decode b_Col_orderOf 5 = .ok (.ifCond .eq 24, 3) := by decide +kernel
theorem d_Col_orderOf_8 : decode b_Col_orderOf 8 = .ok (.iload_n 2, 1) := by decide +kernel
theorem d_Col_orderOf_9 : decode b_Col_orderOf 9 = .ok (.aload_n 0, 1) := by decide +kernel
theorem d_Col_orderOf_10 : decode b_Col_orderOf 10 = .ok (.getfield 35, 3) := by decide +kernel
theorem d_Col_orderOf_13 : decode b_Col_orderOf 13 = .ok (.if_icmp .ge 16, 3) := by decide +kernel
theorem d_Col_orderOf_16 : decode b_Col_orderOf 16 = .ok (.aload_n 0, 1) := by decide +kernel
theorem d_Col_orderOf_17 : decode b_Col_orderOf 17 = .ok (.iload_n 3, 1) := by decide +kernel
theorem d_Col_orderOf_18 : decode b_Col_orderOf 18 = .ok (.iload_n 1, 1) := by decide +kernel
theorem d_Col_orderOf_19 : decode b_Col_orderOf 19 = .ok (.invokevirtual 66, 3) := by decide +kernel
theorem d_Col_orderOf_22 : decode b_Col_orderOf 22 = .ok (.istore_n 3, 1) := by decide +kernel
theorem d_Col_orderOf_23 : decode b_Col_orderOf 23 = .ok (.iinc 2 1, 3) := by decide +kernel
theorem d_Col_orderOf_26 : decode b_Col_orderOf 26 = .ok (.goto (-22), 3) := by decide +kernel
theorem d_Col_orderOf_29 : decode b_Col_orderOf 29 = .ok (.iload_n 2, 1) := by decide +kernel
theorem d_Col_orderOf_30 : decode b_Col_orderOf 30 = .ok (.ireturn, 1) := by decide +kernel
theorem d_Col_multiple_0 : decode b_Col_multiple 0 = .ok (.iconst 0, 1) := by decide +kernel
theorem d_Col_multiple_1 : decode b_Col_multiple 1 = .ok (.istore_n 3, 1) := by decide +kernel
theorem d_Col_multiple_2 : decode b_Col_multiple 2 = .ok (.iconst 0, 1) := by decide +kernel
theorem d_Col_multiple_3 : decode b_Col_multiple 3 = .ok (.istore 4, 2) := by decide +kernel
theorem d_Col_multiple_5 : decode b_Col_multiple 5 = .ok (.iload 4, 2) := by decide +kernel
theorem d_Col_multiple_7 : decode b_Col_multiple 7 = .ok (.iload_n 2, 1) := by decide +kernel
theorem d_Col_multiple_8 : decode b_Col_multiple 8 = .ok (.if_icmp .ge 16, 3) := by decide +kernel
theorem d_Col_multiple_11 : decode b_Col_multiple 11 = .ok (.aload_n 0, 1) := by decide +kernel
theorem d_Col_multiple_12 : decode b_Col_multiple 12 = .ok (.iload_n 3, 1) := by decide +kernel
theorem d_Col_multiple_13 : decode b_Col_multiple 13 = .ok (.iload_n 1, 1) := by decide +kernel
theorem d_Col_multiple_14 : decode b_Col_multiple 14 = .ok (.invokevirtual 66, 3) := by decide +kernel
theorem d_Col_multiple_17 : decode b_Col_multiple 17 = .ok (.istore_n 3, 1) := by decide +kernel
theorem d_Col_multiple_18 : decode b_Col_multiple 18 = .ok (.iinc 4 1, 3) := by decide +kernel
theorem d_Col_multiple_21 : decode b_Col_multiple 21 = .ok (.goto (-16), 3) := by decide +kernel
theorem d_Col_multiple_24 : decode b_Col_multiple 24 = .ok (.iload_n 3, 1) := by decide +kernel
theorem d_Col_multiple_25 : decode b_Col_multiple 25 = .ok (.ireturn, 1) := by decide +kernel
theorem d_Col_isCentral_0 : decode b_Col_isCentral 0 = .ok (.iconst 0, 1) := by decide +kernel
theorem d_Col_isCentral_1 : decode b_Col_isCentral 1 = .ok (.istore_n 2, 1) := by decide +kernel
theorem d_Col_isCentral_2 : decode b_Col_isCentral 2 = .ok (.iload_n 2, 1) := by decide +kernel
theorem d_Col_isCentral_3 : decode b_Col_isCentral 3 = .ok (.aload_n 0, 1) := by decide +kernel
theorem d_Col_isCentral_4 : decode b_Col_isCentral 4 = .ok (.getfield 7, 3) := by decide +kernel
theorem d_Col_isCentral_7 : decode b_Col_isCentral 7 = .ok (.if_icmp .ge 36, 3) := by decide +kernel
theorem d_Col_isCentral_10 : decode b_Col_isCentral 10 = .ok (.aload_n 0, 1) := by decide +kernel
theorem d_Col_isCentral_11 : decode b_Col_isCentral 11 = .ok (.iload_n 1, 1) := by decide +kernel
theorem d_Col_isCentral_12 : decode b_Col_isCentral 12 = .ok (.aload_n 0, 1) := by decide +kernel
theorem d_Col_isCentral_13 : decode b_Col_isCentral 13 = .ok (.getfield 17, 3) := by decide +kernel
theorem d_Col_isCentral_16 : decode b_Col_isCentral 16 = .ok (.iload_n 2, 1) := by decide +kernel
theorem d_Col_isCentral_17 : decode b_Col_isCentral 17 = .ok (.iaload, 1) := by decide +kernel
theorem d_Col_isCentral_18 : decode b_Col_isCentral 18 = .ok (.invokevirtual 66, 3) := by decide +kernel
theorem d_Col_isCentral_21 : decode b_Col_isCentral 21 = .ok (.aload_n 0, 1) := by decide +kernel
theorem d_Col_isCentral_22 : decode b_Col_isCentral 22 = .ok (.aload_n 0, 1) := by decide +kernel
theorem d_Col_isCentral_23 : decode b_Col_isCentral 23 = .ok (.getfield 17, 3) := by decide +kernel
theorem d_Col_isCentral_26 : decode b_Col_isCentral 26 = .ok (.iload_n 2, 1) := by decide +kernel
theorem d_Col_isCentral_27 : decode b_Col_isCentral 27 = .ok (.iaload, 1) := by decide +kernel
theorem d_Col_isCentral_28 : decode b_Col_isCentral 28 = .ok (.iload_n 1, 1) := by decide +kernel
theorem d_Col_isCentral_29 : decode b_Col_isCentral 29 = .ok (.invokevirtual 66, 3) := by decide +kernel
theorem d_Col_isCentral_32 : decode b_Col_isCentral 32 = .ok (.if_icmp .eq 5, 3) := by decide +kernel
theorem d_Col_isCentral_35 : decode b_Col_isCentral 35 = .ok (.iconst 0, 1) := by decide +kernel
theorem d_Col_isCentral_36 : decode b_Col_isCentral 36 = .ok (.ireturn, 1) := by decide +kernel
theorem d_Col_isCentral_37 : decode b_Col_isCentral 37 = .ok (.iinc 2 1, 3) := by decide +kernel
theorem d_Col_isCentral_40 : decode b_Col_isCentral 40 = .ok (.goto (-38), 3) := by decide +kernel
theorem d_Col_isCentral_43 : decode b_Col_isCentral 43 = .ok (.iconst 1, 1) := by decide +kernel
theorem d_Col_isCentral_44 : decode b_Col_isCentral 44 = .ok (.ireturn, 1) := by decide +kernel
theorem d_Col_multiplyFrom_0 : decode b_Col_multiplyFrom 0 = .ok (.iload_n 2, 1) := by decide +kernel
theorem d_Col_multiplyFrom_1 : decode b_Col_multiplyFrom 1 = .ok (.istore 4, 2) := by decide +kernel
theorem d_Col_multiplyFrom_3 : decode b_Col_multiplyFrom 3 = .ok (.iload_n 3, 1) := by decide +kernel
theorem d_Col_multiplyFrom_4 : decode b_Col_multiplyFrom 4 = .ok (.istore 5, 2) := by decide +kernel
theorem d_Col_multiplyFrom_6 : decode b_Col_multiplyFrom 6 = .ok (.iconst 0, 1) := by decide +kernel
theorem d_Col_multiplyFrom_7 : decode b_Col_multiplyFrom 7 = .ok (.istore 6, 2) := by decide +kernel
theorem d_Col_multiplyFrom_9 : decode b_Col_multiplyFrom 9 = .ok (.iload_n 1, 1) := by decide +kernel
theorem d_Col_multiplyFrom_10 : decode b_Col_multiplyFrom 10 = .ok (.istore 7, 2) := by decide +kernel
theorem d_Col_multiplyFrom_12 : decode b_Col_multiplyFrom 12 = .ok (.iload 7, 2) := by decide +kernel
theorem d_Col_multiplyFrom_14 : decode b_Col_multiplyFrom 14 = .ok (.aload_n 0, 1) := by decide +kernel
theorem d_Col_multiplyFrom_15 : decode b_Col_multiplyFrom 15 = .ok (.getfield 7, 3) := by decide +kernel
theorem d_Col_multiplyFrom_18 : decode b_Col_multiplyFrom 18 = .ok (.if_icmp .ge 116, 3) := by decide +kernel
theorem d_Col_multiplyFrom_21 : decode b_Col_multiplyFrom 21 = .ok (.aload_n 0, 1) := by decide +kernel
theorem d_Col_multiplyFrom_22 : decode b_Col_multiplyFrom 22 = .ok (.getfield 17, 3) := by decide +kernel
theorem d_Col_multiplyFrom_25 : decode b_Col_multiplyFrom 25 = .ok (.iload 7, 2) := by decide +kernel
theorem d_Col_multiplyFrom_27 : decode b_Col_multiplyFrom 27 = .ok (.iaload, 1) := by decide +kernel
theorem d_Col_multiplyFrom_28 : decode b_Col_multiplyFrom 28 = .ok (.istore 8, 2) := by decide +kernel
theorem d_Col_multiplyFrom_30 : decode b_Col_multiplyFrom 30 = .ok (.iload 5, 2) := by decide +kernel
theorem d_Col_multiplyFrom_32 : decode b_Col_multiplyFrom 32 = .ok (.iload 8, 2) := by decide +kernel
theorem d_Col_multiplyFrom_34 : decode b_Col_multiplyFrom 34 = .ok (.irem, 1) := by decide +kernel
theorem d_Col_multiplyFrom_35 : decode b_Col_multiplyFrom 35 = .ok (.istore 9, 2) := by decide +kernel
theorem d_Col_multiplyFrom_37 : decode b_Col_multiplyFrom 37 = .ok (.iload 5, 2) := by decide +kernel
theorem d_Col_multiplyFrom_39 : decode b_Col_multiplyFrom 39 = .ok (.iload 9, 2) := by decide +kernel
theorem d_Col_multiplyFrom_41 : decode b_Col_multiplyFrom 41 = .ok (.isub, 1) := by decide +kernel
theorem d_Col_multiplyFrom_42 : decode b_Col_multiplyFrom 42 = .ok (.iload 4, 2) := by decide +kernel
theorem d_Col_multiplyFrom_44 : decode b_Col_multiplyFrom 44 = .ok (.iload 8, 2) := by decide +kernel
theorem d_Col_multiplyFrom_46 : decode b_Col_multiplyFrom 46 = .ok (.irem, 1) := by decide +kernel
theorem d_Col_multiplyFrom_47 : decode b_Col_multiplyFrom 47 = .ok (.iadd, 1) := by decide +kernel
theorem d_Col_multiplyFrom_48 : decode b_Col_multiplyFrom 48 = .ok (.istore 10, 2) := by decide +kernel
theorem d_Col_multiplyFrom_50 : decode b_Col_multiplyFrom 50 = .ok (.iload 4, 2) := by decide +kernel
theorem d_Col_multiplyFrom_52 : decode b_Col_multiplyFrom 52 = .ok (.iload 8, 2) := by decide +kernel
theorem d_Col_multiplyFrom_54 : decode b_Col_multiplyFrom 54 = .ok (.idiv, 1) := by decide +kernel
theorem d_Col_multiplyFrom_55 : decode b_Col_multiplyFrom 55 = .ok (.iload 5, 2) := by decide +kernel
theorem d_Col_multiplyFrom_57 : decode b_Col_multiplyFrom 57 = .ok (.iload 8, 2) := by decide +kernel
theorem d_Col_multiplyFrom_59 : decode b_Col_multiplyFrom 59 = .ok (.idiv, 1) := by decide +kernel
theorem d_Col_multiplyFrom_60 : decode b_Col_multiplyFrom 60 = .ok (.iadd, 1) := by decide +kernel
theorem d_Col_multiplyFrom_61 : decode b_Col_multiplyFrom 61 = .ok (.istore 11, 2) := by decide +kernel
theorem d_Col_multiplyFrom_63 : decode b_Col_multiplyFrom 63 = .ok (.iload 11, 2) := by decide +kernel
theorem d_Col_multiplyFrom_65 : decode b_Col_multiplyFrom 65 = .ok (.aload_n 0, 1) := by decide +kernel
theorem d_Col_multiplyFrom_66 : decode b_Col_multiplyFrom 66 = .ok (.getfield 13, 3) := by decide +kernel
theorem d_Col_multiplyFrom_69 : decode b_Col_multiplyFrom 69 = .ok (.iload 7, 2) := by decide +kernel
theorem d_Col_multiplyFrom_71 : decode b_Col_multiplyFrom 71 = .ok (.iaload, 1) := by decide +kernel
theorem d_Col_multiplyFrom_72 : decode b_Col_multiplyFrom 72 = .ok (.if_icmp .lt 30, 3) := by decide +kernel
theorem d_Col_multiplyFrom_75 : decode b_Col_multiplyFrom 75 = .ok (.iload 11, 2) := by decide +kernel
theorem d_Col_multiplyFrom_77 : decode b_Col_multiplyFrom 77 = .ok (.aload_n 0, 1) := by decide +kernel
theorem d_Col_multiplyFrom_78 : decode b_Col_multiplyFrom 78 = .ok (.getfield 13, 3) := by decide +kernel
theorem d_Col_multiplyFrom_81 : decode b_Col_multiplyFrom 81 = .ok (.iload 7, 2) := by decide +kernel
theorem d_Col_multiplyFrom_83 : decode b_Col_multiplyFrom 83 = .ok (.iaload, 1) := by decide +kernel
theorem d_Col_multiplyFrom_84 : decode b_Col_multiplyFrom 84 = .ok (.isub, 1) := by decide +kernel
theorem d_Col_multiplyFrom_85 : decode b_Col_multiplyFrom 85 = .ok (.istore 11, 2) := by decide +kernel
theorem d_Col_multiplyFrom_87 : decode b_Col_multiplyFrom 87 = .ok (.aload_n 0, 1) := by decide +kernel
theorem d_Col_multiplyFrom_88 : decode b_Col_multiplyFrom 88 = .ok (.getfield 32, 3) := by decide +kernel
theorem d_Col_multiplyFrom_91 : decode b_Col_multiplyFrom 91 = .ok (.iload 7, 2) := by decide +kernel
theorem d_Col_multiplyFrom_93 : decode b_Col_multiplyFrom 93 = .ok (.aaload, 1) := by decide +kernel
theorem d_Col_multiplyFrom_94 : decode b_Col_multiplyFrom 94 = .ok (.iload 10, 2) := by decide +kernel
theorem d_Col_multiplyFrom_96 : decode b_Col_multiplyFrom 96 = .ok (.iaload, 1) := by decide +kernel
theorem d_Col_multiplyFrom_97 : decode b_Col_multiplyFrom 97 = .ok (.istore 4, 2) := by decide +kernel
theorem d_Col_multiplyFrom_99 : decode b_Col_multiplyFrom 99 = .ok (.goto 15, 3) := by decide +kernel
theorem d_Col_multiplyFrom_102 : decode b_Col_multiplyFrom 102 = .ok (.aload_n 0, 1) := by decide +kernel
theorem d_Col_multiplyFrom_103 : decode b_Col_multiplyFrom 103 = .ok (.getfield 29, 3) := by decide +kernel
theorem d_Col_multiplyFrom_106 : decode b_Col_multiplyFrom 106 = .ok (.iload 7, 2) := by decide +kernel
theorem d_Col_multiplyFrom_108 : decode b_Col_multiplyFrom 108 = .ok (.aaload, 1) := by decide +kernel
theorem d_Col_multiplyFrom_109 : decode b_Col_multiplyFrom 109 = .ok (.iload 10, 2) := by decide +kernel
theorem d_Col_multiplyFrom_111 : decode b_Col_multiplyFrom 111 = .ok (.iaload, 1) := by decide +kernel
theorem d_Col_multiplyFrom_112 : decode b_Col_multiplyFrom 112 = .ok (.istore 4, 2) := by decide +kernel
theorem d_Col_multiplyFrom_114 : decode b_Col_multiplyFrom 114 = .ok (.iload 9, 2) := by decide +kernel
theorem d_Col_multiplyFrom_116 : decode b_Col_multiplyFrom 116 = .ok (.istore 5, 2) := by decide +kernel
theorem d_Col_multiplyFrom_118 : decode b_Col_multiplyFrom 118 = .ok (.iload 6, 2) := by decide +kernel
theorem d_Col_multiplyFrom_120 : decode b_Col_multiplyFrom 120 = .ok (.iload 11, 2) := by decide +kernel
theorem d_Col_multiplyFrom_122 : decode b_Col_multiplyFrom 122 = .ok (.iload 8, 2) := by decide +kernel
theorem d_Col_multiplyFrom_124 : decode b_Col_multiplyFrom 124 = .ok (.imul, 1) := by decide +kernel
theorem d_Col_multiplyFrom_125 : decode b_Col_multiplyFrom 125 = .ok (.iadd, 1) := by decide +kernel
theorem d_Col_multiplyFrom_126 : decode b_Col_multiplyFrom 126 = .ok (.istore 6, 2) := by decide +kernel
theorem d_Col_multiplyFrom_128 : decode b_Col_multiplyFrom 128 = .ok (.iinc 7 1, 3) := by decide +kernel
theorem d_Col_multiplyFrom_131 : decode b_Col_multiplyFrom 131 = .ok (.goto (-119), 3) := by decide +kernel
theorem d_Col_multiplyFrom_134 : decode b_Col_multiplyFrom 134 = .ok (.iload 6, 2) := by decide +kernel
end
section
theorem d_Col_multiplyFrom_136 : decode b_Col_multiplyFrom 136 = .ok (.ireturn, 1) := by decide +kernel
theorem d_Col_fillMoves_0 : decode b_Col_fillMoves 0 = .ok (.aload_n 0, 1) := by decide +kernel
theorem d_Col_fillMoves_1 : decode b_Col_fillMoves 1 = .ok (.getfield 17, 3) := by decide +kernel
theorem d_Col_fillMoves_4 : decode b_Col_fillMoves 4 = .ok (.iload_n 1, 1) := by decide +kernel
theorem d_Col_fillMoves_5 : decode b_Col_fillMoves 5 = .ok (.iaload, 1) := by decide +kernel
theorem d_Col_fillMoves_6 : decode b_Col_fillMoves 6 = .ok (.istore_n 2, 1) := by decide +kernel
theorem d_Col_fillMoves_7 : decode b_Col_fillMoves 7 = .ok (.aload_n 0, 1) := by decide +kernel
theorem d_Col_fillMoves_8 : decode b_Col_fillMoves 8 = .ok (.getfield 29, 3) := by decide +kernel
theorem d_Col_fillMoves_11 : decode b_Col_fillMoves 11 = .ok (.iload_n 1, 1) := by decide +kernel
theorem d_Col_fillMoves_12 : decode b_Col_fillMoves 12 = .ok (.aaload, 1) := by decide +kernel
theorem d_Col_fillMoves_13 : decode b_Col_fillMoves 13 = .ok (.astore_n 3, 1) := by decide +kernel
theorem d_Col_fillMoves_14 : decode b_Col_fillMoves 14 = .ok (.iconst 0, 1) := by decide +kernel
theorem d_Col_fillMoves_15 : decode b_Col_fillMoves 15 = .ok (.istore 4, 2) := by decide +kernel
theorem d_Col_fillMoves_17 : decode b_Col_fillMoves 17 = .ok (.iload 4, 2) := by decide +kernel
theorem d_Col_fillMoves_19 : decode b_Col_fillMoves 19 = .ok (.iload_n 2, 1) := by decide +kernel
theorem d_Col_fillMoves_20 : decode b_Col_fillMoves 20 = .ok (.if_icmp .ge 15, 3) := by decide +kernel
theorem d_Col_fillMoves_23 : decode b_Col_fillMoves 23 = .ok (.aload_n 3, 1) := by decide +kernel
theorem d_Col_fillMoves_24 : decode b_Col_fillMoves 24 = .ok (.iload 4, 2) := by decide +kernel
theorem d_Col_fillMoves_26 : decode b_Col_fillMoves 26 = .ok (.iload 4, 2) := by decide +kernel
theorem d_Col_fillMoves_28 : decode b_Col_fillMoves 28 = .ok (.iastore, 1) := by decide +kernel
theorem d_Col_fillMoves_29 : decode b_Col_fillMoves 29 = .ok (.iinc 4 1, 3) := by decide +kernel
theorem d_Col_fillMoves_32 : decode b_Col_fillMoves 32 = .ok (.goto (-15), 3) := by decide +kernel
theorem d_Col_fillMoves_35 : decode b_Col_fillMoves 35 = .ok (.iconst 0, 1) := by decide +kernel
theorem d_Col_fillMoves_36 : decode b_Col_fillMoves 36 = .ok (.istore 4, 2) := by decide +kernel
theorem d_Col_fillMoves_38 : decode b_Col_fillMoves 38 = .ok (.iload 4, 2) := by decide +kernel
theorem d_Col_fillMoves_40 : decode b_Col_fillMoves 40 = .ok (.iload_n 2, 1) := by decide +kernel
theorem d_Col_fillMoves_41 : decode b_Col_fillMoves 41 = .ok (.if_icmp .ge 22, 3) := by decide +kernel
theorem d_Col_fillMoves_44 : decode b_Col_fillMoves 44 = .ok (.aload_n 3, 1) := by decide +kernel
theorem d_Col_fillMoves_45 : decode b_Col_fillMoves 45 = .ok (.iload_n 2, 1) := by decide +kernel
theorem d_Col_fillMoves_46 : decode b_Col_fillMoves 46 = .ok (.iload 4, 2) := by decide +kernel
theorem d_Col_fillMoves_48 : decode b_Col_fillMoves 48 = .ok (.iadd, 1) := by decide +kernel
theorem d_Col_fillMoves_49 : decode b_Col_fillMoves 49 = .ok (.aload_n 0, 1) := by decide +kernel
theorem d_Col_fillMoves_50 : decode b_Col_fillMoves 50 = .ok (.iload_n 1, 1) := by decide +kernel
theorem d_Col_fillMoves_51 : decode b_Col_fillMoves 51 = .ok (.iload 4, 2) := by decide +kernel
theorem d_Col_fillMoves_53 : decode b_Col_fillMoves 53 = .ok (.invokevirtual 73, 3) := by decide +kernel
theorem d_Col_fillMoves_56 : decode b_Col_fillMoves 56 = .ok (.iastore, 1) := by decide +kernel
theorem d_Col_fillMoves_57 : decode b_Col_fillMoves 57 = .ok (.iinc 4 1, 3) := by decide +kernel
theorem d_Col_fillMoves_60 : decode b_Col_fillMoves 60 = .ok (.goto (-22), 3) := by decide +kernel
theorem d_Col_fillMoves_63 : decode b_Col_fillMoves 63 = .ok (.iconst 2, 1) := by decide +kernel
theorem d_Col_fillMoves_64 : decode b_Col_fillMoves 64 = .ok (.iload_n 2, 1) := by decide +kernel
theorem d_Col_fillMoves_65 : decode b_Col_fillMoves 65 = .ok (.imul, 1) := by decide +kernel
theorem d_Col_fillMoves_66 : decode b_Col_fillMoves 66 = .ok (.istore 4, 2) := by decide +kernel
theorem d_Col_fillMoves_68 : decode b_Col_fillMoves 68 = .ok (.iload 4, 2) := by decide +kernel
theorem d_Col_fillMoves_70 : decode b_Col_fillMoves 70 = .ok (.aload_n 3, 1) := by decide +kernel
theorem d_Col_fillMoves_71 : decode b_Col_fillMoves 71 = .ok (.arraylength, 1) := by decide +kernel
theorem d_Col_fillMoves_72 : decode b_Col_fillMoves 72 = .ok (.if_icmp .ge 23, 3) := by decide +kernel
theorem d_Col_fillMoves_75 : decode b_Col_fillMoves 75 = .ok (.aload_n 3, 1) := by decide +kernel
theorem d_Col_fillMoves_76 : decode b_Col_fillMoves 76 = .ok (.iload 4, 2) := by decide +kernel
theorem d_Col_fillMoves_78 : decode b_Col_fillMoves 78 = .ok (.aload_n 3, 1) := by decide +kernel
theorem d_Col_fillMoves_79 : decode b_Col_fillMoves 79 = .ok (.iload_n 2, 1) := by decide +kernel
theorem d_Col_fillMoves_80 : decode b_Col_fillMoves 80 = .ok (.aload_n 3, 1) := by decide +kernel
theorem d_Col_fillMoves_81 : decode b_Col_fillMoves 81 = .ok (.iload 4, 2) := by decide +kernel
theorem d_Col_fillMoves_83 : decode b_Col_fillMoves 83 = .ok (.iload_n 2, 1) := by decide +kernel
theorem d_Col_fillMoves_84 : decode b_Col_fillMoves 84 = .ok (.isub, 1) := by decide +kernel
theorem d_Col_fillMoves_85 : decode b_Col_fillMoves 85 = .ok (.iaload, 1) := by decide +kernel
theorem d_Col_fillMoves_86 : decode b_Col_fillMoves 86 = .ok (.iadd, 1) := by decide +kernel
theorem d_Col_fillMoves_87 : decode b_Col_fillMoves 87 = .ok (.iaload, 1) := by decide +kernel
theorem d_Col_fillMoves_88 : decode b_Col_fillMoves 88 = .ok (.iastore, 1) := by decide +kernel
theorem d_Col_fillMoves_89 : decode b_Col_fillMoves 89 = .ok (.iinc 4 1, 3) := by decide +kernel
theorem d_Col_fillMoves_92 : decode b_Col_fillMoves 92 = .ok (.goto (-24), 3) := by decide +kernel
theorem d_Col_fillMoves_95 : decode b_Col_fillMoves 95 = .ok (.return_, 1) := by decide +kernel
theorem d_Col_movedOnce_0 : decode b_Col_movedOnce 0 = .ok (.aload_n 0, 1) := by decide +kernel
theorem d_Col_movedOnce_1 : decode b_Col_movedOnce 1 = .ok (.getfield 17, 3) := by decide +kernel
theorem d_Col_movedOnce_4 : decode b_Col_movedOnce 4 = .ok (.iload_n 1, 1) := by decide +kernel
theorem d_Col_movedOnce_5 : decode b_Col_movedOnce 5 = .ok (.iaload, 1) := by decide +kernel
theorem d_Col_movedOnce_6 : decode b_Col_movedOnce 6 = .ok (.istore_n 3, 1) := by decide +kernel
theorem d_Col_movedOnce_7 : decode b_Col_movedOnce 7 = .ok (.iload_n 1, 1) := by decide +kernel
theorem d_Col_movedOnce_8 : decode b_Col_movedOnce 8 = .ok (.iconst 1, 1) := by decide +kernel
theorem d_Col_movedOnce_9 : decode b_Col_movedOnce 9 = .ok (.iadd, 1) := by decide +kernel
theorem d_Col_movedOnce_10 : decode b_Col_movedOnce 10 = .ok (.istore 4, 2) := by decide +kernel
theorem d_Col_movedOnce_12 : decode b_Col_movedOnce 12 = .ok (.iload 4, 2) := by decide +kernel
theorem d_Col_movedOnce_14 : decode b_Col_movedOnce 14 = .ok (.aload_n 0, 1) := by decide +kernel
theorem d_Col_movedOnce_15 : decode b_Col_movedOnce 15 = .ok (.getfield 7, 3) := by decide +kernel
theorem d_Col_movedOnce_18 : decode b_Col_movedOnce 18 = .ok (.if_icmp .ge 59, 3) := by decide +kernel
theorem d_Col_movedOnce_21 : decode b_Col_movedOnce 21 = .ok (.iload_n 2, 1) := by decide +kernel
theorem d_Col_movedOnce_22 : decode b_Col_movedOnce 22 = .ok (.aload_n 0, 1) := by decide +kernel
theorem d_Col_movedOnce_23 : decode b_Col_movedOnce 23 = .ok (.getfield 17, 3) := by decide +kernel
theorem d_Col_movedOnce_26 : decode b_Col_movedOnce 26 = .ok (.iload 4, 2) := by decide +kernel
theorem d_Col_movedOnce_28 : decode b_Col_movedOnce 28 = .ok (.iaload, 1) := by decide +kernel
theorem d_Col_movedOnce_29 : decode b_Col_movedOnce 29 = .ok (.if_icmp .lt 42, 3) := by decide +kernel
theorem d_Col_movedOnce_32 : decode b_Col_movedOnce 32 = .ok (.aload_n 0, 1) := by decide +kernel
theorem d_Col_movedOnce_33 : decode b_Col_movedOnce 33 = .ok (.getfield 29, 3) := by decide +kernel
theorem d_Col_movedOnce_36 : decode b_Col_movedOnce 36 = .ok (.iload_n 1, 1) := by decide +kernel
theorem d_Col_movedOnce_37 : decode b_Col_movedOnce 37 = .ok (.aaload, 1) := by decide +kernel
theorem d_Col_movedOnce_38 : decode b_Col_movedOnce 38 = .ok (.iload_n 3, 1) := by decide +kernel
theorem d_Col_movedOnce_39 : decode b_Col_movedOnce 39 = .ok (.iload_n 2, 1) := by decide +kernel
theorem d_Col_movedOnce_40 : decode b_Col_movedOnce 40 = .ok (.iadd, 1) := by decide +kernel
theorem d_Col_movedOnce_41 : decode b_Col_movedOnce 41 = .ok (.aload_n 0, 1) := by decide +kernel
theorem d_Col_movedOnce_42 : decode b_Col_movedOnce 42 = .ok (.getfield 17, 3) := by decide +kernel
theorem d_Col_movedOnce_45 : decode b_Col_movedOnce 45 = .ok (.iload 4, 2) := by decide +kernel
theorem d_Col_movedOnce_47 : decode b_Col_movedOnce 47 = .ok (.iaload, 1) := by decide +kernel
theorem d_Col_movedOnce_48 : decode b_Col_movedOnce 48 = .ok (.isub, 1) := by decide +kernel
theorem d_Col_movedOnce_49 : decode b_Col_movedOnce 49 = .ok (.iaload, 1) := by decide +kernel
theorem d_Col_movedOnce_50 : decode b_Col_movedOnce 50 = .ok (.istore 5, 2) := by decide +kernel
theorem d_Col_movedOnce_52 : decode b_Col_movedOnce 52 = .ok (.aload_n 0, 1) := by decide +kernel
theorem d_Col_movedOnce_53 : decode b_Col_movedOnce 53 = .ok (.iload_n 1, 1) := by decide +kernel
theorem d_Col_movedOnce_54 : decode b_Col_movedOnce 54 = .ok (.iconst 1, 1) := by decide +kernel
theorem d_Col_movedOnce_55 : decode b_Col_movedOnce 55 = .ok (.iadd, 1) := by decide +kernel
theorem d_Col_movedOnce_56 : decode b_Col_movedOnce 56 = .ok (.aload_n 0, 1) := by decide +kernel
theorem d_Col_movedOnce_57 : decode b_Col_movedOnce 57 = .ok (.getfield 25, 3) := by decide +kernel
theorem d_Col_movedOnce_60 : decode b_Col_movedOnce 60 = .ok (.iload_n 1, 1) := by decide +kernel
theorem d_Col_movedOnce_61 : decode b_Col_movedOnce 61 = .ok (.aaload, 1) := by decide +kernel
theorem d_Col_movedOnce_62 : decode b_Col_movedOnce 62 = .ok (.iload 4, 2) := by decide +kernel
theorem d_Col_movedOnce_64 : decode b_Col_movedOnce 64 = .ok (.iaload, 1) := by decide +kernel
theorem d_Col_movedOnce_65 : decode b_Col_movedOnce 65 = .ok (.iload 5, 2) := by decide +kernel
theorem d_Col_movedOnce_67 : decode b_Col_movedOnce 67 = .ok (.invokevirtual 58, 3) := by decide +kernel
theorem d_Col_movedOnce_70 : decode b_Col_movedOnce 70 = .ok (.ireturn, 1) := by decide +kernel
theorem d_Col_movedOnce_71 : decode b_Col_movedOnce 71 = .ok (.iinc 4 1, 3) := by decide +kernel
theorem d_Col_movedOnce_74 : decode b_Col_movedOnce 74 = .ok (.goto (-62), 3) := by decide +kernel
theorem d_Col_movedOnce_77 : decode b_Col_movedOnce 77 = .ok (.iconst 0, 1) := by decide +kernel
theorem d_Col_movedOnce_78 : decode b_Col_movedOnce 78 = .ok (.ireturn, 1) := by decide +kernel
theorem d_Col_fillCarries_0 : decode b_Col_fillCarries 0 = .ok (.aload_n 0, 1) := by decide +kernel
theorem d_Col_fillCarries_1 : decode b_Col_fillCarries 1 = .ok (.getfield 32, 3) := by decide +kernel
theorem d_Col_fillCarries_4 : decode b_Col_fillCarries 4 = .ok (.iload_n 1, 1) := by decide +kernel
theorem d_Col_fillCarries_5 : decode b_Col_fillCarries 5 = .ok (.aaload, 1) := by decide +kernel
theorem d_Col_fillCarries_6 : decode b_Col_fillCarries 6 = .ok (.astore_n 2, 1) := by decide +kernel
theorem d_Col_fillCarries_7 : decode b_Col_fillCarries 7 = .ok (.iconst 0, 1) := by decide +kernel
theorem d_Col_fillCarries_8 : decode b_Col_fillCarries 8 = .ok (.istore_n 3, 1) := by decide +kernel
theorem d_Col_fillCarries_9 : decode b_Col_fillCarries 9 = .ok (.iload_n 3, 1) := by decide +kernel
theorem d_Col_fillCarries_10 : decode b_Col_fillCarries 10 = .ok (.aload_n 2, 1) := by decide +kernel
theorem d_Col_fillCarries_11 : decode b_Col_fillCarries 11 = .ok (.arraylength, 1) := by decide +kernel
theorem d_Col_fillCarries_12 : decode b_Col_fillCarries 12 = .ok (.if_icmp .ge 33, 3) := by decide +kernel
theorem d_Col_fillCarries_15 : decode b_Col_fillCarries 15 = .ok (.aload_n 2, 1) := by decide +kernel
theorem d_Col_fillCarries_16 : decode b_Col_fillCarries 16 = .ok (.iload_n 3, 1) := by decide +kernel
theorem d_Col_fillCarries_17 : decode b_Col_fillCarries 17 = .ok (.aload_n 0, 1) := by decide +kernel
theorem d_Col_fillCarries_18 : decode b_Col_fillCarries 18 = .ok (.iload_n 1, 1) := by decide +kernel
theorem d_Col_fillCarries_19 : decode b_Col_fillCarries 19 = .ok (.iconst 1, 1) := by decide +kernel
theorem d_Col_fillCarries_20 : decode b_Col_fillCarries 20 = .ok (.iadd, 1) := by decide +kernel
theorem d_Col_fillCarries_21 : decode b_Col_fillCarries 21 = .ok (.aload_n 0, 1) := by decide +kernel
theorem d_Col_fillCarries_22 : decode b_Col_fillCarries 22 = .ok (.getfield 20, 3) := by decide +kernel
theorem d_Col_fillCarries_25 : decode b_Col_fillCarries 25 = .ok (.iload_n 1, 1) := by decide +kernel
theorem d_Col_fillCarries_26 : decode b_Col_fillCarries 26 = .ok (.iaload, 1) := by decide +kernel
theorem d_Col_fillCarries_27 : decode b_Col_fillCarries 27 = .ok (.aload_n 0, 1) := by decide +kernel
theorem d_Col_fillCarries_28 : decode b_Col_fillCarries 28 = .ok (.getfield 29, 3) := by decide +kernel
theorem d_Col_fillCarries_31 : decode b_Col_fillCarries 31 = .ok (.iload_n 1, 1) := by decide +kernel
theorem d_Col_fillCarries_32 : decode b_Col_fillCarries 32 = .ok (.aaload, 1) := by decide +kernel
theorem d_Col_fillCarries_33 : decode b_Col_fillCarries 33 = .ok (.iload_n 3, 1) := by decide +kernel
theorem d_Col_fillCarries_34 : decode b_Col_fillCarries 34 = .ok (.iaload, 1) := by decide +kernel
theorem d_Col_fillCarries_35 : decode b_Col_fillCarries 35 = .ok (.invokevirtual 58, 3) := by decide +kernel
theorem d_Col_fillCarries_38 : decode b_Col_fillCarries 38 = .ok (.iastore, 1) := by decide +kernel
theorem d_Col_fillCarries_39 : decode b_Col_fillCarries 39 = .ok (.iinc 3 1, 3) := by decide +kernel
theorem d_Col_fillCarries_42 : decode b_Col_fillCarries 42 = .ok (.goto (-33), 3) := by decide +kernel
theorem d_Col_fillCarries_45 : decode b_Col_fillCarries 45 = .ok (.return_, 1) := by decide +kernel
theorem d_Col_moveKeepsProducts_0 : decode b_Col_moveKeepsProducts 0 = .ok (.aload_n 0, 1) := by decide +kernel
theorem d_Col_moveKeepsProducts_1 : decode b_Col_moveKeepsProducts 1 = .ok (.getfield 17, 3) := by decide +kernel
theorem d_Col_moveKeepsProducts_4 : decode b_Col_moveKeepsProducts 4 = .ok (.iload_n 1, 1) := by decide +kernel
theorem d_Col_moveKeepsProducts_5 : decode b_Col_moveKeepsProducts 5 = .ok (.iaload, 1) := by decide +kernel
theorem d_Col_moveKeepsProducts_6 : decode b_Col_moveKeepsProducts 6 = .ok (.istore_n 2, 1) := by decide +kernel
theorem d_Col_moveKeepsProducts_7 : decode b_Col_moveKeepsProducts 7 = .ok (.aload_n 0, 1) := by decide +kernel
theorem d_Col_moveKeepsProducts_8 : decode b_Col_moveKeepsProducts 8 = .ok (.getfield 29, 3) := by decide +kernel
theorem d_Col_moveKeepsProducts_11 : decode b_Col_moveKeepsProducts 11 = .ok (.iload_n 1, 1) := by decide +kernel
theorem d_Col_moveKeepsProducts_12 : decode b_Col_moveKeepsProducts 12 = .ok (.aaload, 1) := by decide +kernel
theorem d_Col_moveKeepsProducts_13 : decode b_Col_moveKeepsProducts 13 = .ok (.astore_n 3, 1) := by decide +kernel
theorem d_Col_moveKeepsProducts_14 : decode b_Col_moveKeepsProducts 14 = .ok (.iconst 0, 1) := by decide +kernel
theorem d_Col_moveKeepsProducts_15 : decode b_Col_moveKeepsProducts 15 = .ok (.istore 4, 2) := by decide +kernel
theorem d_Col_moveKeepsProducts_17 : decode b_Col_moveKeepsProducts 17 = .ok (.iload 4, 2) := by decide +kernel
theorem d_Col_moveKeepsProducts_19 : decode b_Col_moveKeepsProducts 19 = .ok (.iload_n 2, 1) := by decide +kernel
theorem d_Col_moveKeepsProducts_20 : decode b_Col_moveKeepsProducts 20 = .ok (.if_icmp .ge 84, 3) := by decide +kernel
theorem d_Col_moveKeepsProducts_23 : decode b_Col_moveKeepsProducts 23 = .ok (.iload_n 1, 1) := by decide +kernel
theorem d_Col_moveKeepsProducts_24 : decode b_Col_moveKeepsProducts 24 = .ok (.iconst 1, 1) := by decide +kernel
theorem d_Col_moveKeepsProducts_25 : decode b_Col_moveKeepsProducts 25 = .ok (.iadd, 1) := by decide +kernel
theorem d_Col_moveKeepsProducts_26 : decode b_Col_moveKeepsProducts 26 = .ok (.istore 5, 2) := by decide +kernel
theorem d_Col_moveKeepsProducts_28 : decode b_Col_moveKeepsProducts 28 = .ok (.iload 5, 2) := by decide +kernel
theorem d_Col_moveKeepsProducts_30 : decode b_Col_moveKeepsProducts 30 = .ok (.aload_n 0, 1) := by decide +kernel
theorem d_Col_moveKeepsProducts_31 : decode b_Col_moveKeepsProducts 31 = .ok (.getfield 7, 3) := by decide +kernel
theorem d_Col_moveKeepsProducts_34 : decode b_Col_moveKeepsProducts 34 = .ok (.if_icmp .ge 64, 3) := by decide +kernel
theorem d_Col_moveKeepsProducts_37 : decode b_Col_moveKeepsProducts 37 = .ok (.aload_n 0, 1) := by decide +kernel
theorem d_Col_moveKeepsProducts_38 : decode b_Col_moveKeepsProducts 38 = .ok (.iload_n 1, 1) := by decide +kernel
theorem d_Col_moveKeepsProducts_39 : decode b_Col_moveKeepsProducts 39 = .ok (.iconst 1, 1) := by decide +kernel
theorem d_Col_moveKeepsProducts_40 : decode b_Col_moveKeepsProducts 40 = .ok (.iadd, 1) := by decide +kernel
theorem d_Col_moveKeepsProducts_41 : decode b_Col_moveKeepsProducts 41 = .ok (.iload 4, 2) := by decide +kernel
theorem d_Col_moveKeepsProducts_43 : decode b_Col_moveKeepsProducts 43 = .ok (.aload_n 0, 1) := by decide +kernel
theorem d_Col_moveKeepsProducts_44 : decode b_Col_moveKeepsProducts 44 = .ok (.getfield 17, 3) := by decide +kernel
theorem d_Col_moveKeepsProducts_47 : decode b_Col_moveKeepsProducts 47 = .ok (.iload 5, 2) := by decide +kernel
theorem d_Col_moveKeepsProducts_49 : decode b_Col_moveKeepsProducts 49 = .ok (.iaload, 1) := by decide +kernel
theorem d_Col_moveKeepsProducts_50 : decode b_Col_moveKeepsProducts 50 = .ok (.invokevirtual 58, 3) := by decide +kernel
theorem d_Col_moveKeepsProducts_53 : decode b_Col_moveKeepsProducts 53 = .ok (.istore 6, 2) := by decide +kernel
theorem d_Col_moveKeepsProducts_55 : decode b_Col_moveKeepsProducts 55 = .ok (.aload_n 0, 1) := by decide +kernel
theorem d_Col_moveKeepsProducts_56 : decode b_Col_moveKeepsProducts 56 = .ok (.iload_n 1, 1) := by decide +kernel
theorem d_Col_moveKeepsProducts_57 : decode b_Col_moveKeepsProducts 57 = .ok (.iconst 1, 1) := by decide +kernel
theorem d_Col_moveKeepsProducts_58 : decode b_Col_moveKeepsProducts 58 = .ok (.iadd, 1) := by decide +kernel
theorem d_Col_moveKeepsProducts_59 : decode b_Col_moveKeepsProducts 59 = .ok (.aload_n 3, 1) := by decide +kernel
theorem d_Col_moveKeepsProducts_60 : decode b_Col_moveKeepsProducts 60 = .ok (.iload_n 2, 1) := by decide +kernel
theorem d_Col_moveKeepsProducts_61 : decode b_Col_moveKeepsProducts 61 = .ok (.iload 4, 2) := by decide +kernel
theorem d_Col_moveKeepsProducts_63 : decode b_Col_moveKeepsProducts 63 = .ok (.iadd, 1) := by decide +kernel
theorem d_Col_moveKeepsProducts_64 : decode b_Col_moveKeepsProducts 64 = .ok (.iaload, 1) := by decide +kernel
theorem d_Col_moveKeepsProducts_65 : decode b_Col_moveKeepsProducts 65 = .ok (.aload_n 0, 1) := by decide +kernel
theorem d_Col_moveKeepsProducts_66 : decode b_Col_moveKeepsProducts 66 = .ok (.getfield 25, 3) := by decide +kernel
theorem d_Col_moveKeepsProducts_69 : decode b_Col_moveKeepsProducts 69 = .ok (.iload_n 1, 1) := by decide +kernel
theorem d_Col_moveKeepsProducts_70 : decode b_Col_moveKeepsProducts 70 = .ok (.aaload, 1) := by decide +kernel
theorem d_Col_moveKeepsProducts_71 : decode b_Col_moveKeepsProducts 71 = .ok (.iload 5, 2) := by decide +kernel
theorem d_Col_moveKeepsProducts_73 : decode b_Col_moveKeepsProducts 73 = .ok (.iaload, 1) := by decide +kernel
theorem d_Col_moveKeepsProducts_74 : decode b_Col_moveKeepsProducts 74 = .ok (.invokevirtual 58, 3) := by decide +kernel
theorem d_Col_moveKeepsProducts_77 : decode b_Col_moveKeepsProducts 77 = .ok (.istore 7, 2) := by decide +kernel
theorem d_Col_moveKeepsProducts_79 : decode b_Col_moveKeepsProducts 79 = .ok (.aload_n 3, 1) := by decide +kernel
theorem d_Col_moveKeepsProducts_80 : decode b_Col_moveKeepsProducts 80 = .ok (.iload_n 2, 1) := by decide +kernel
theorem d_Col_moveKeepsProducts_81 : decode b_Col_moveKeepsProducts 81 = .ok (.iload 6, 2) := by decide +kernel
theorem d_Col_moveKeepsProducts_83 : decode b_Col_moveKeepsProducts 83 = .ok (.iadd, 1) := by decide +kernel
theorem d_Col_moveKeepsProducts_84 : decode b_Col_moveKeepsProducts 84 = .ok (.iaload, 1) := by decide +kernel
theorem d_Col_moveKeepsProducts_85 : decode b_Col_moveKeepsProducts 85 = .ok (.iload 7, 2) := by decide +kernel
theorem d_Col_moveKeepsProducts_87 : decode b_Col_moveKeepsProducts 87 = .ok (.if_icmp .eq 5, 3) := by decide +kernel
theorem d_Col_moveKeepsProducts_90 : decode b_Col_moveKeepsProducts 90 = .ok (.iconst 0, 1) := by decide +kernel
theorem d_Col_moveKeepsProducts_91 : decode b_Col_moveKeepsProducts 91 = .ok (.ireturn, 1) := by decide +kernel
theorem d_Col_moveKeepsProducts_92 : decode b_Col_moveKeepsProducts 92 = .ok (.iinc 5 1, 3) := by decide +kernel
theorem d_Col_moveKeepsProducts_95 : decode b_Col_moveKeepsProducts 95 = .ok (.goto (-67), 3) := by decide +kernel
theorem d_Col_moveKeepsProducts_98 : decode b_Col_moveKeepsProducts 98 = .ok (.iinc 4 1, 3) := by decide +kernel
theorem d_Col_moveKeepsProducts_101 : decode b_Col_moveKeepsProducts 101 = .ok (.goto (-84), 3) := by decide +kernel
theorem d_Col_moveKeepsProducts_104 : decode b_Col_moveKeepsProducts 104 = .ok (.iconst 1, 1) := by decide +kernel
theorem d_Col_moveKeepsProducts_105 : decode b_Col_moveKeepsProducts 105 = .ok (.ireturn, 1) := by decide +kernel
theorem d_Col_moveKeepsPower_0 : decode b_Col_moveKeepsPower 0 = .ok (.aload_n 0, 1) := by decide +kernel
theorem d_Col_moveKeepsPower_1 : decode b_Col_moveKeepsPower 1 = .ok (.getfield 29, 3) := by decide +kernel
theorem d_Col_moveKeepsPower_4 : decode b_Col_moveKeepsPower 4 = .ok (.iload_n 1, 1) := by decide +kernel
theorem d_Col_moveKeepsPower_5 : decode b_Col_moveKeepsPower 5 = .ok (.aaload, 1) := by decide +kernel
theorem d_Col_moveKeepsPower_6 : decode b_Col_moveKeepsPower 6 = .ok (.aload_n 0, 1) := by decide +kernel
theorem d_Col_moveKeepsPower_7 : decode b_Col_moveKeepsPower 7 = .ok (.getfield 17, 3) := by decide +kernel
theorem d_Col_moveKeepsPower_10 : decode b_Col_moveKeepsPower 10 = .ok (.iload_n 1, 1) := by decide +kernel
theorem d_Col_moveKeepsPower_11 : decode b_Col_moveKeepsPower 11 = .ok (.iaload, 1) := by decide +kernel
theorem d_Col_moveKeepsPower_12 : decode b_Col_moveKeepsPower 12 = .ok (.aload_n 0, 1) := by decide +kernel
theorem d_Col_moveKeepsPower_13 : decode b_Col_moveKeepsPower 13 = .ok (.getfield 20, 3) := by decide +kernel
theorem d_Col_moveKeepsPower_16 : decode b_Col_moveKeepsPower 16 = .ok (.iload_n 1, 1) := by decide +kernel
theorem d_Col_moveKeepsPower_17 : decode b_Col_moveKeepsPower 17 = .ok (.iaload, 1) := by decide +kernel
theorem d_Col_moveKeepsPower_18 : decode b_Col_moveKeepsPower 18 = .ok (.iadd, 1) := by decide +kernel
theorem d_Col_moveKeepsPower_19 : decode b_Col_moveKeepsPower 19 = .ok (.iaload, 1) := by decide +kernel
theorem d_Col_moveKeepsPower_20 : decode b_Col_moveKeepsPower 20 = .ok (.aload_n 0, 1) := by decide +kernel
theorem d_Col_moveKeepsPower_21 : decode b_Col_moveKeepsPower 21 = .ok (.getfield 20, 3) := by decide +kernel
theorem d_Col_moveKeepsPower_24 : decode b_Col_moveKeepsPower 24 = .ok (.iload_n 1, 1) := by decide +kernel
theorem d_Col_moveKeepsPower_25 : decode b_Col_moveKeepsPower 25 = .ok (.iaload, 1) := by decide +kernel
theorem d_Col_moveKeepsPower_26 : decode b_Col_moveKeepsPower 26 = .ok (.if_icmp .ne 7, 3) := by decide +kernel
theorem d_Col_moveKeepsPower_29 : decode b_Col_moveKeepsPower 29 = .ok (.iconst 1, 1) := by decide +kernel
theorem d_Col_moveKeepsPower_30 : decode b_Col_moveKeepsPower 30 = .ok (.goto 4, 3) := by decide +kernel
theorem d_Col_moveKeepsPower_33 : decode b_Col_moveKeepsPower 33 = .ok (.iconst 0, 1) := by decide +kernel
theorem d_Col_moveKeepsPower_34 : decode b_Col_moveKeepsPower 34 = .ok (.ireturn, 1) := by decide +kernel
theorem d_Col_fullTurnIsPower_0 : decode b_Col_fullTurnIsPower 0 = .ok (.aload_n 0, 1) := by decide +kernel
theorem d_Col_fullTurnIsPower_1 : decode b_Col_fullTurnIsPower 1 = .ok (.getfield 17, 3) := by decide +kernel
theorem d_Col_fullTurnIsPower_4 : decode b_Col_fullTurnIsPower 4 = .ok (.iload_n 1, 1) := by decide +kernel
theorem d_Col_fullTurnIsPower_5 : decode b_Col_fullTurnIsPower 5 = .ok (.iaload, 1) := by decide +kernel
theorem d_Col_fullTurnIsPower_6 : decode b_Col_fullTurnIsPower 6 = .ok (.istore_n 2, 1) := by decide +kernel
theorem d_Col_fullTurnIsPower_7 : decode b_Col_fullTurnIsPower 7 = .ok (.aload_n 0, 1) := by decide +kernel
theorem d_Col_fullTurnIsPower_8 : decode b_Col_fullTurnIsPower 8 = .ok (.getfield 29, 3) := by decide +kernel
theorem d_Col_fullTurnIsPower_11 : decode b_Col_fullTurnIsPower 11 = .ok (.iload_n 1, 1) := by decide +kernel
theorem d_Col_fullTurnIsPower_12 : decode b_Col_fullTurnIsPower 12 = .ok (.aaload, 1) := by decide +kernel
theorem d_Col_fullTurnIsPower_13 : decode b_Col_fullTurnIsPower 13 = .ok (.astore_n 3, 1) := by decide +kernel
theorem d_Col_fullTurnIsPower_14 : decode b_Col_fullTurnIsPower 14 = .ok (.aload_n 0, 1) := by decide +kernel
theorem d_Col_fullTurnIsPower_15 : decode b_Col_fullTurnIsPower 15 = .ok (.getfield 13, 3) := by decide +kernel
theorem d_Col_fullTurnIsPower_18 : decode b_Col_fullTurnIsPower 18 = .ok (.iload_n 1, 1) := by decide +kernel
theorem d_Col_fullTurnIsPower_19 : decode b_Col_fullTurnIsPower 19 = .ok (.iaload, 1) := by decide +kernel
theorem d_Col_fullTurnIsPower_20 : decode b_Col_fullTurnIsPower 20 = .ok (.iconst 1, 1) := by decide +kernel
theorem d_Col_fullTurnIsPower_21 : decode b_Col_fullTurnIsPower 21 = .ok (.isub, 1) := by decide +kernel
theorem d_Col_fullTurnIsPower_22 : decode b_Col_fullTurnIsPower 22 = .ok (.iload_n 2, 1) := by decide +kernel
theorem d_Col_fullTurnIsPower_23 : decode b_Col_fullTurnIsPower 23 = .ok (.imul, 1) := by decide +kernel
theorem d_Col_fullTurnIsPower_24 : decode b_Col_fullTurnIsPower 24 = .ok (.istore 4, 2) := by decide +kernel
theorem d_Col_fullTurnIsPower_26 : decode b_Col_fullTurnIsPower 26 = .ok (.iconst 0, 1) := by decide +kernel
theorem d_Col_fullTurnIsPower_27 : decode b_Col_fullTurnIsPower 27 = .ok (.istore 5, 2) := by decide +kernel
theorem d_Col_fullTurnIsPower_29 : decode b_Col_fullTurnIsPower 29 = .ok (.iload 5, 2) := by decide +kernel
theorem d_Col_fullTurnIsPower_31 : decode b_Col_fullTurnIsPower 31 = .ok (.iload_n 2, 1) := by decide +kernel
theorem d_Col_fullTurnIsPower_32 : decode b_Col_fullTurnIsPower 32 = .ok (.if_icmp .ge 57, 3) := by decide +kernel
theorem d_Col_fullTurnIsPower_35 : decode b_Col_fullTurnIsPower 35 = .ok (.aload_n 3, 1) := by decide +kernel
theorem d_Col_fullTurnIsPower_36 : decode b_Col_fullTurnIsPower 36 = .ok (.iload_n 2, 1) := by decide +kernel
theorem d_Col_fullTurnIsPower_37 : decode b_Col_fullTurnIsPower 37 = .ok (.aload_n 3, 1) := by decide +kernel
theorem d_Col_fullTurnIsPower_38 : decode b_Col_fullTurnIsPower 38 = .ok (.iload 4, 2) := by decide +kernel
theorem d_Col_fullTurnIsPower_40 : decode b_Col_fullTurnIsPower 40 = .ok (.iload 5, 2) := by decide +kernel
theorem d_Col_fullTurnIsPower_42 : decode b_Col_fullTurnIsPower 42 = .ok (.iadd, 1) := by decide +kernel
theorem d_Col_fullTurnIsPower_43 : decode b_Col_fullTurnIsPower 43 = .ok (.iaload, 1) := by decide +kernel
theorem d_Col_fullTurnIsPower_44 : decode b_Col_fullTurnIsPower 44 = .ok (.iadd, 1) := by decide +kernel
theorem d_Col_fullTurnIsPower_45 : decode b_Col_fullTurnIsPower 45 = .ok (.iaload, 1) := by decide +kernel
theorem d_Col_fullTurnIsPower_46 : decode b_Col_fullTurnIsPower 46 = .ok (.istore 6, 2) := by decide +kernel
theorem d_Col_fullTurnIsPower_48 : decode b_Col_fullTurnIsPower 48 = .ok (.aload_n 0, 1) := by decide +kernel
theorem d_Col_fullTurnIsPower_49 : decode b_Col_fullTurnIsPower 49 = .ok (.iload_n 1, 1) := by decide +kernel
theorem d_Col_fullTurnIsPower_50 : decode b_Col_fullTurnIsPower 50 = .ok (.iconst 1, 1) := by decide +kernel
theorem d_Col_fullTurnIsPower_51 : decode b_Col_fullTurnIsPower 51 = .ok (.iadd, 1) := by decide +kernel
theorem d_Col_fullTurnIsPower_52 : decode b_Col_fullTurnIsPower 52 = .ok (.aload_n 0, 1) := by decide +kernel
theorem d_Col_fullTurnIsPower_53 : decode b_Col_fullTurnIsPower 53 = .ok (.getfield 20, 3) := by decide +kernel
theorem d_Col_fullTurnIsPower_56 : decode b_Col_fullTurnIsPower 56 = .ok (.iload_n 1, 1) := by decide +kernel
theorem d_Col_fullTurnIsPower_57 : decode b_Col_fullTurnIsPower 57 = .ok (.iaload, 1) := by decide +kernel
theorem d_Col_fullTurnIsPower_58 : decode b_Col_fullTurnIsPower 58 = .ok (.iload 6, 2) := by decide +kernel
theorem d_Col_fullTurnIsPower_60 : decode b_Col_fullTurnIsPower 60 = .ok (.invokevirtual 58, 3) := by decide +kernel
theorem d_Col_fullTurnIsPower_63 : decode b_Col_fullTurnIsPower 63 = .ok (.aload_n 0, 1) := by decide +kernel
theorem d_Col_fullTurnIsPower_64 : decode b_Col_fullTurnIsPower 64 = .ok (.iload_n 1, 1) := by decide +kernel
theorem d_Col_fullTurnIsPower_65 : decode b_Col_fullTurnIsPower 65 = .ok (.iconst 1, 1) := by decide +kernel
theorem d_Col_fullTurnIsPower_66 : decode b_Col_fullTurnIsPower 66 = .ok (.iadd, 1) := by decide +kernel
theorem d_Col_fullTurnIsPower_67 : decode b_Col_fullTurnIsPower 67 = .ok (.iload 5, 2) := by decide +kernel
theorem d_Col_fullTurnIsPower_69 : decode b_Col_fullTurnIsPower 69 = .ok (.aload_n 0, 1) := by decide +kernel
theorem d_Col_fullTurnIsPower_70 : decode b_Col_fullTurnIsPower 70 = .ok (.getfield 20, 3) := by decide +kernel
theorem d_Col_fullTurnIsPower_73 : decode b_Col_fullTurnIsPower 73 = .ok (.iload_n 1, 1) := by decide +kernel
theorem d_Col_fullTurnIsPower_74 : decode b_Col_fullTurnIsPower 74 = .ok (.iaload, 1) := by decide +kernel
theorem d_Col_fullTurnIsPower_75 : decode b_Col_fullTurnIsPower 75 = .ok (.invokevirtual 58, 3) := by decide +kernel
theorem d_Col_fullTurnIsPower_78 : decode b_Col_fullTurnIsPower 78 = .ok (.if_icmp .eq 5, 3) := by decide +kernel
theorem d_Col_fullTurnIsPower_81 : decode b_Col_fullTurnIsPower 81 = .ok (.iconst 0, 1) := by decide +kernel
theorem d_Col_fullTurnIsPower_82 : decode b_Col_fullTurnIsPower 82 = .ok (.ireturn, 1) := by decide +kernel
theorem d_Col_fullTurnIsPower_83 : decode b_Col_fullTurnIsPower 83 = .ok (.iinc 5 1, 3) := by decide +kernel
theorem d_Col_fullTurnIsPower_86 : decode b_Col_fullTurnIsPower 86 = .ok (.goto (-57), 3) := by decide +kernel
theorem d_Col_fullTurnIsPower_89 : decode b_Col_fullTurnIsPower 89 = .ok (.iconst 1, 1) := by decide +kernel
theorem d_Col_fullTurnIsPower_90 : decode b_Col_fullTurnIsPower 90 = .ok (.ireturn, 1) := by decide +kernel
end
section
/-! The Collector's memory: products, what a generator turns a word into, which levels stand. -/
abbrev mo_p (z : zz_Z) (σ : hw_M) (d : Nat) : Nat → Nat → Nat := tw_op (zz_n z) (σ (2, 0)) (σ (3, 0)) (σ (4, 0)) (fun i => σ (6, i)) d
abbrev mo_t (z : zz_Z) (σ : hw_M) (i : Nat) : Nat → Nat := tb_s (zz_n z) (σ (2, 0)) (σ (3, 0)) (σ (4, 0)) (fun i => σ (6, i)) i
abbrev mo_k (z : zz_Z) (σ : hw_M) (d : Nat) : Prop := tw_ok (zz_n z) (σ (2, 0)) (σ (3, 0)) (σ (4, 0)) (fun i => σ (6, i)) d
abbrev mo_z (z : zz_Z) (σ : hw_M) (d : Nat) : Nat := tw_sz (zz_n z) (σ (2, 0)) (σ (3, 0)) d
/-- the levels from f on stand, and their tables hold -/
def lo_ok (z : zz_Z) (σ : hw_M) (f : Nat) : Prop := st_ok z σ ∧ mo_k z σ (zz_n z - f) ∧ ∀ i, f ≤ i → i < zz_n z → tb_ok (zz_n z) (σ (2, 0)) (σ (3, 0)) (σ (4, 0)) (fun i => σ (6, i)) (fun i => σ (8, i)) (fun i => σ (10, i)) i
/-- the relations are in bounds -/
def rl_ok (z : zz_Z) (σ : hw_M) : Prop := (∀ i, i < zz_n z → σ (4, 0) i < σ (3, 0) i) ∧ ∀ i j, i < j → j < zz_n z → σ (6, i) j < σ (3, 0) i
/-- the whole group's product -/
abbrev gr_p (z : zz_Z) (σ : hw_M) : Nat → Nat → Nat := mo_p z σ (zz_n z)
theorem lo_gp {z : zz_Z} {σ : hw_M} (h : lo_ok z σ 0) : gp_ok (zz_N z) (gr_p z σ) := by
  obtain ⟨⟨-, -, -, -, hw, hsz, -⟩, hk, -⟩ := h
  rw [hsz]
  exact tw_all hw hk
theorem st_lv {z : zz_Z} {σ : hw_M} (h : st_ok z σ) {i : Nat} (hi : i < zz_n z) : 0 < σ (3, 0) i ∧ 2 ≤ σ (2, 0) i ∧ σ (2, 0) i * σ (3, 0) i ≤ 128 ∧ σ (3, 0) i ≤ 128 ∧ σ (2, 0) i ≤ 128 ∧ zz_l z i = σ (2, 0) i * σ (3, 0) i ∧ 2 * σ (3, 0) i ≤ σ (2, 0) i * σ (3, 0) i := by
  obtain ⟨hn7, hN, hn, hNe, hw, hsz, hln⟩ := h
  have h1 := hw.pos' hi
  have h2 := hw.1 i hi
  have h3 := hw.sz hi
  rw [← hsz] at h3
  have h4 : 2 * σ (3, 0) i ≤ σ (2, 0) i * σ (3, 0) i := Nat.mul_le_mul_right _ h2
  have h5 : σ (2, 0) i * 1 ≤ σ (2, 0) i * σ (3, 0) i := Nat.mul_le_mul_left _ h1
  rw [Nat.mul_one] at h5
  exact ⟨h1, h2, by omega, by omega, by omega, hln i hi, h4⟩
theorem st_sz {z : zz_Z} {σ : hw_M} (h : st_ok z σ) {i : Nat} (hi : i < zz_n z) : mo_z z σ (zz_n z - i) = σ (2, 0) i * σ (3, 0) i ∧ mo_z z σ (zz_n z - (i + 1)) = σ (3, 0) i := tw_szi h.2.2.2.2.1 hi
/-- memory that is the same but for tables below a level -/
def lo_fr (f : Nat) (σ σ1 : hw_M) : Prop := ∀ u : hw_P, 0 < u.1 → u.1 < 12 → (u.1 = 8 → f ≤ u.2) → (u.1 = 10 → f ≤ u.2) → σ1 u = σ u
theorem lo_keep {z : zz_Z} {σ σ1 : hw_M} {f : Nat} (h : lo_ok z σ f) (hf : lo_fr f σ σ1) : lo_ok z σ1 f ∧ (∀ d, mo_p z σ1 d = mo_p z σ d) ∧ (∀ i, mo_t z σ1 i = mo_t z σ i) ∧ (∀ d, mo_z z σ1 d = mo_z z σ d) := by
  have e1 : σ1 (1, 0) = σ (1, 0) := hf _ (by decide) (by decide) (fun q => absurd q (by decide)) (fun q => absurd q (by decide))
  have e2 : σ1 (2, 0) = σ (2, 0) := hf _ (by decide) (by decide) (fun q => absurd q (by decide)) (fun q => absurd q (by decide))
  have e3 : σ1 (3, 0) = σ (3, 0) := hf _ (by decide) (by decide) (fun q => absurd q (by decide)) (fun q => absurd q (by decide))
  have e4 : σ1 (4, 0) = σ (4, 0) := hf _ (by decide) (by decide) (fun q => absurd q (by decide)) (fun q => absurd q (by decide))
  have e6 : (fun i => σ1 (6, i)) = fun i => σ (6, i) := funext fun i => hf _ (by show 0 < (6 : Nat); decide) (by show (6 : Nat) < 12; decide) (fun q => absurd q (by show ¬ (6 : Nat) = 8; decide)) (fun q => absurd q (by show ¬ (6 : Nat) = 10; decide))
  refine ⟨⟨?_, ?_, fun i h1 h2 => ?_⟩, fun d => ?_, fun i => ?_, fun d => ?_⟩
  · unfold st_ok
    rw [e1, e2, e3]
    exact h.1
  · show tw_ok _ _ _ _ _ _
    rw [e2, e3, e4, e6]
    exact h.2.1
  · rw [e2, e3, e4, e6]
    have e8 : σ1 (8, i) = σ (8, i) := hf _ (by show 0 < (8 : Nat); decide) (by show (8 : Nat) < 12; decide) (fun _ => h1) (fun q => absurd q (by show ¬ (8 : Nat) = 10; decide))
    have e10 : σ1 (10, i) = σ (10, i) := hf _ (by show 0 < (10 : Nat); decide) (by show (10 : Nat) < 12; decide) (fun q => absurd q (by show ¬ (10 : Nat) = 8; decide)) (fun _ => h1)
    have h3 := h.2.2 i h1 h2
    intro k hk
    have h4 := h3 k hk
    show σ1 (8, i) k = _ ∧ σ1 (10, i) k = _
    rw [e8, e10]
    exact h4
  · show tw_op _ _ _ _ _ _ = _
    rw [e2, e3, e4, e6]
  · show tb_s _ _ _ _ _ _ = _
    rw [e2, e3, e4, e6]
  · show tw_sz _ _ _ _ = _
    rw [e2, e3]
abbrev mo_i (z : zz_Z) (σ : hw_M) (d a : Nat) : Nat := tw_iv (zz_n z) (σ (2, 0)) (σ (3, 0)) (σ (4, 0)) (fun i => σ (6, i)) d a
theorem mo_iv {z : zz_Z} {σ : hw_M} (h : lo_ok z σ 0) {a : Nat} (ha : a < zz_N z) : mo_i z σ (zz_n z) a = gp_iv (zz_N z) (gr_p z σ) a := by
  obtain ⟨⟨-, -, -, -, hw, hsz, -⟩, hk, -⟩ := h
  rw [hsz] at ha ⊢
  exact tw_ivg hw hk ha
theorem lo_fr8 {σ σ1 : hw_M} {f i : Nat} (h : ∀ u : hw_P, u ≠ (8, i) → σ1 u = σ u) (hi : i < f) : lo_fr f σ σ1 := by
  intro u h0 h1 h2 h3
  refine h u (fun e => ?_)
  rw [e] at h2
  have := h2 rfl
  exact absurd this (Nat.not_le.mpr hi)
theorem lo_fr10 {σ σ1 : hw_M} {f i : Nat} (h : ∀ u : hw_P, u ≠ (10, i) → σ1 u = σ u) (hi : i < f) : lo_fr f σ σ1 := by
  intro u h0 h1 h2 h3
  refine h u (fun e => ?_)
  rw [e] at h3
  have := h3 rfl
  exact absurd this (Nat.not_le.mpr hi)
/-- one value more, behind those that hold -/
theorem fm_put {σ1 : hw_M} {k x : Nat} {q : hw_P} {f : Nat → Nat} (h : ∀ y, y < k → σ1 q y = f y) (hx : x = f k) : ∀ y, y < k + 1 → hw_up σ1 q k x q y = f y := by
  intro y hy
  rw [hw_up_v]
  by_cases e : y = k
  · rw [if_pos e, e]; exact hx
  · rw [if_neg e]; exact h y (by omega)
theorem fm_d1 {w x : Nat} (h : x < w) : (w + x) / w = 1 := by
  have := (ex_d (e := 1) h).1
  rwa [Nat.one_mul] at this
theorem fm_m1 {w x : Nat} (h : x < w) : (w + x) % w = x := by
  have := (ex_d (e := 1) h).2
  rwa [Nat.one_mul] at this
theorem fm_next {s : Nat → Nat} {w k : Nat} (hw : 0 < w) (h : w ≤ k) : s (ex_it s ((k - w) / w) ((k - w) % w)) = ex_it s (k / w) (k % w) := by
  have e1 : k / w = (k - w) / w + 1 := by rw [Nat.div_eq k w, if_pos ⟨hw, h⟩]
  have e2 : k % w = (k - w) % w := Nat.mod_eq_sub_mod h
  rw [e1, e2]
  rfl
end
section
/-! Building level by level: what the memory says between the steps. -/
section
variable {p : Program} {l : Launch} {e : Env} {R : Room} {s : State} {m : MethodId} {args : Array Value} {below : List Frame} {meth : Method} {c : Code} {H : Heap} {locs : List Loc} {cells slots : Nat} {Q : State → Prop}
variable {cc : ByteArray} {nL pc : Nat} {own : String} {ls : Array Slot} {rest : List Value} {D : va_G} {T : List (ClassId × FieldType)}
theorem nw_isub1 (X : hw_x p c s m args cc nL own D T) {a : Nat} (hdg : decode cc pc = .ok (.isub, 1))
    (kk : W p l e R s m args below meth c H locs cells slots Q (F0 m (pc + 1) ls (.int (nI a - 1) :: rest))) : W p l e R s m args below meth c H locs cells slots Q (F0 m pc ls (.int (nI 1) :: .int (nI a) :: rest)) := lv_isub X.1.1 X.1.2.1 hdg kk
end
section
variable {z : zz_Z} {σ σ1 σ2 σ3 : hw_M} {i : Nat}
theorem bl_eq (h : ∀ u : hw_P, u.1 ≠ 8 → u.1 ≠ 10 → σ1 u = σ u) : σ1 (1, 0) = σ (1, 0) ∧ σ1 (2, 0) = σ (2, 0) ∧ σ1 (3, 0) = σ (3, 0) ∧ σ1 (4, 0) = σ (4, 0) ∧ ((fun i => σ1 (6, i)) = fun i => σ (6, i)) :=
  ⟨h _ (by decide) (by decide), h _ (by decide) (by decide), h _ (by decide) (by decide), h _ (by decide) (by decide), funext fun i => h (6, i) (by show (6 : Nat) ≠ 8; decide) (by show (6 : Nat) ≠ 10; decide)⟩
theorem bl_st (h : ∀ u : hw_P, u.1 ≠ 8 → u.1 ≠ 10 → σ1 u = σ u) (hS : st_ok z σ) : st_ok z σ1 := by
  obtain ⟨e1, e2, e3, -, -⟩ := bl_eq h
  unfold st_ok
  rw [e1, e2, e3]
  exact hS
theorem bl_mk (h : ∀ u : hw_P, u.1 ≠ 8 → u.1 ≠ 10 → σ1 u = σ u) (d : Nat) : mo_k z σ1 d ↔ mo_k z σ d := by
  obtain ⟨-, e2, e3, e4, e6⟩ := bl_eq h
  show tw_ok _ _ _ _ _ _ ↔ _
  rw [e2, e3, e4, e6]
theorem rl_keep (hR : rl_ok z σ) (h : ∀ u : hw_P, u.1 ≠ 8 → u.1 ≠ 10 → σ1 u = σ u) : rl_ok z σ1 := by
  obtain ⟨-, e2, e3, e4, e6⟩ := bl_eq h
  refine ⟨fun i hi => by rw [e3, e4]; exact hR.1 i hi, fun i j h1 h2 => ?_⟩
  rw [e3, congrFun e6 i]
  exact hR.2 i j h1 h2
theorem lo_top (hS : st_ok z σ) : lo_ok z σ (zz_n z) := by
  refine ⟨hS, ?_, fun i h1 h2 => absurd h2 (Nat.not_lt.mpr h1)⟩
  rw [Nat.sub_self]
  exact fun k hk => absurd hk (Nat.not_lt_zero _)
theorem bl_le (h : ∀ u : hw_P, u.1 ≠ 8 → u.1 ≠ 10 → σ1 u = σ u) {d n : Nat} (hk : mo_k z σ n) (hd : d ≤ n) : mo_k z σ1 d := (bl_mk h d).mpr (hk.le hd)
theorem bl_k (h : ∀ u : hw_P, u.1 ≠ 8 → u.1 ≠ 10 → σ1 u = σ u) (hL : lo_ok z σ1 0) : mo_k z σ (zz_n z) := (bl_mk h _).mp hL.2.1
theorem bl_ne8 {f : hw_M → hw_M → Prop} (f1 : ∀ u : hw_P, u ≠ (8, i) → σ2 u = σ1 u) : ∀ u : hw_P, u.1 ≠ 8 → u.1 ≠ 10 → σ2 u = σ1 u := fun u h _ => f1 u (fun e => h (by rw [e]))
theorem bl_ne10 (f1 : ∀ u : hw_P, u ≠ (10, i) → σ2 u = σ1 u) : ∀ u : hw_P, u.1 ≠ 8 → u.1 ≠ 10 → σ2 u = σ1 u := fun u _ h => f1 u (fun e => h (by rw [e]))
/-- behind the moves -/
theorem bl_mid (hi : i < zz_n z) (hL : lo_ok z σ1 (i + 1)) (f1 : ∀ u : hw_P, u ≠ (8, i) → σ2 u = σ1 u) (v1 : ∀ y, y < σ1 (2, 0) i * σ1 (3, 0) i → σ2 (8, i) y = ex_it (mo_t z σ1 i) (y / σ1 (3, 0) i) (y % σ1 (3, 0) i)) :
    lo_ok z σ2 (i + 1) ∧ (∀ y, y < σ2 (2, 0) i * σ2 (3, 0) i → σ2 (8, i) y = ex_it (mo_t z σ2 i) (y / σ2 (3, 0) i) (y % σ2 (3, 0) i)) ∧ ∀ u : hw_P, u.1 ≠ 8 → u.1 ≠ 10 → σ2 u = σ1 u := by
  have hK := lo_keep hL (lo_fr8 (f := i + 1) f1 (Nat.lt_succ_self i))
  have hf := bl_ne8 (f := fun _ _ => True) f1
  obtain ⟨-, e2, e3, -, -⟩ := bl_eq hf
  refine ⟨hK.1, ?_, hf⟩
  rw [e2, e3, hK.2.2.1]
  exact v1
/-- behind the carries: what is left is what the three questions ask -/
theorem bl_end (hi : i < zz_n z) (hL : lo_ok z σ2 (i + 1)) (hm : ∀ y, y < σ2 (2, 0) i * σ2 (3, 0) i → σ2 (8, i) y = ex_it (mo_t z σ2 i) (y / σ2 (3, 0) i) (y % σ2 (3, 0) i)) (hR : rl_ok z σ2) (f2 : ∀ u : hw_P, u ≠ (10, i) → σ3 u = σ2 u)
    (v2 : ∀ y, y < σ2 (2, 0) i * σ2 (3, 0) i → σ3 (10, i) y = mo_p z σ2 (zz_n z - (i + 1)) (σ2 (4, 0) i) (σ2 (8, i) y)) (hfr : ∀ u : hw_P, u.1 ≠ 8 → u.1 ≠ 10 → σ2 u = σ u) :
    (lo_ok z σ3 (i + 1) ∧ ∀ y, y < σ3 (2, 0) i * σ3 (3, 0) i → σ3 (8, i) y = ex_it (mo_t z σ3 i) (y / σ3 (3, 0) i) (y % σ3 (3, 0) i)) ∧ (mo_k z σ3 (zz_n z - i) → lo_ok z σ3 i) ∧
      (mo_k z σ3 (zz_n z - i) ↔ ((∀ x j, x < σ3 (3, 0) i → i < j → j < zz_n z → mo_t z σ3 i (mo_p z σ3 (zz_n z - (i + 1)) x (σ3 (3, 0) j)) = mo_p z σ3 (zz_n z - (i + 1)) (mo_t z σ3 i x) (σ3 (6, i) j)) ∧ mo_t z σ3 i (σ3 (4, 0) i) = σ3 (4, 0) i ∧
        ∀ x, x < σ3 (3, 0) i → mo_p z σ3 (zz_n z - (i + 1)) (σ3 (4, 0) i) (ex_it (mo_t z σ3 i) (σ3 (2, 0) i) x) = mo_p z σ3 (zz_n z - (i + 1)) x (σ3 (4, 0) i))) ∧ ∀ u : hw_P, u.1 ≠ 8 → u.1 ≠ 10 → σ3 u = σ u := by
  have hK := lo_keep hL (lo_fr10 (f := i + 1) f2 (Nat.lt_succ_self i))
  have hf := bl_ne10 f2
  obtain ⟨-, e2, e3, e4, e6⟩ := bl_eq hf
  have e8 : σ3 (8, i) = σ2 (8, i) := f2 _ (hw_ne (by decide))
  have hm3 : ∀ y, y < σ3 (2, 0) i * σ3 (3, 0) i → σ3 (8, i) y = ex_it (mo_t z σ3 i) (y / σ3 (3, 0) i) (y % σ3 (3, 0) i) := by
    rw [e2, e3, e8, hK.2.2.1]
    exact hm
  have hR3 := rl_keep hR hf
  refine ⟨⟨hK.1, hm3⟩, fun hk => ⟨hK.1.1, hk, fun j h1 h2 => ?_⟩, tw_ask hK.1.1.2.2.2.2.1 hi hK.1.2.1 (hR3.1 i hi) (hR3.2 i), fun u a b => (hf u a b).trans (hfr u a b)⟩
  by_cases e : j = i
  · subst e
    intro k hk9
    have a1 := hm3 k hk9
    refine ⟨a1, ?_⟩
    show σ3 (10, j) k = mo_p z σ3 (zz_n z - (j + 1)) (σ3 (4, 0) j) (ex_it (mo_t z σ3 j) (k / σ3 (3, 0) j) (k % σ3 (3, 0) j))
    rw [← a1, v2 k (by rw [← e2, ← e3]; exact hk9), hK.2.1, e4, e8]
  · exact hK.1.2.2 j (by omega) h2
end
end
section
/-! Subgroups in memory: their members and a basis. -/
def sg_ok (z : zz_Z) (σ : hw_M) (j : Nat) (q c : List Nat) : Prop :=
  es_ok z σ j q ∧ σ (12, j) 3 = c.length ∧ c.length ≤ 7 ∧ (∀ k, k < c.length → σ (16, j) k = c.getD k 0) ∧ ∀ b, b ∈ c → b < zz_N z
/-- only subgroup j has changed -/
def sg_fr (j : Nat) (σ σ1 : hw_M) : Prop := ∀ u : hw_P, (u.2 ≠ j ∨ u.1 < 12 ∨ 16 < u.1) → σ1 u = σ u
theorem sg_fr.rf {j : Nat} {σ : hw_M} : sg_fr j σ σ := fun _ _ => rfl
theorem sg_fr.tr {j : Nat} {σ σ1 σ2 : hw_M} (h : sg_fr j σ σ1) (h2 : sg_fr j σ1 σ2) : sg_fr j σ σ2 := fun u hu => (h2 u hu).trans (h u hu)
theorem es_fr.sg {j : Nat} {σ σ1 : hw_M} (h : es_fr j σ σ1) : sg_fr j σ σ1 := fun u hu => h u
  (fun e => by rw [e] at hu; rcases hu with q | q | q <;> first | exact q rfl | exact absurd q (by show ¬ (13 : Nat) < 12; decide) | exact absurd q (by show ¬ 16 < (13 : Nat); decide))
  (fun e => by rw [e] at hu; rcases hu with q | q | q <;> first | exact q rfl | exact absurd q (by show ¬ (14 : Nat) < 12; decide) | exact absurd q (by show ¬ 16 < (14 : Nat); decide))
  (fun e => by rw [e] at hu; rcases hu with q | q | q <;> first | exact q rfl | exact absurd q (by show ¬ (15 : Nat) < 12; decide) | exact absurd q (by show ¬ 16 < (15 : Nat); decide))
theorem sg_fr.up12 {j i x : Nat} {σ : hw_M} : sg_fr j σ (hw_up σ (12, j) i x) := fun u hu => hw_up_k _ _ _
  (fun e => by rw [e] at hu; rcases hu with q | q | q <;> first | exact q rfl | exact absurd q (by show ¬ (12 : Nat) < 12; decide) | exact absurd q (by show ¬ 16 < (12 : Nat); decide))
theorem sg_fr.up16 {j i x : Nat} {σ : hw_M} : sg_fr j σ (hw_up σ (16, j) i x) := fun u hu => hw_up_k _ _ _
  (fun e => by rw [e] at hu; rcases hu with q | q | q <;> first | exact q rfl | exact absurd q (by show ¬ (16 : Nat) < 12; decide) | exact absurd q (by show ¬ 16 < (16 : Nat); decide))
/-- another subgroup stays as it is -/
theorem sg_oth {z : zz_Z} {σ σ1 : hw_M} {i j : Nat} {q c : List Nat} (h : sg_ok z σ j q c) (hf : sg_fr i σ σ1) (hij : j ≠ i) : sg_ok z σ1 j q c := by
  have e : ∀ k, σ1 (k, j) = σ (k, j) := fun k => hf (k, j) (Or.inl hij)
  refine ⟨es_keep h.1 (e 13) (e 14) (e 15), ?_, h.2.2.1, ?_, h.2.2.2.2⟩
  · rw [e]; exact h.2.1
  · rw [e]; exact h.2.2.2.1
theorem es_oth {z : zz_Z} {σ σ1 : hw_M} {i j : Nat} {q : List Nat} (h : es_ok z σ j q) (hf : sg_fr i σ σ1) (hij : j ≠ i) : es_ok z σ1 j q :=
  es_keep h (hf (13, j) (Or.inl hij)) (hf (14, j) (Or.inl hij)) (hf (15, j) (Or.inl hij))
theorem sg_es {z : zz_Z} {σ σ1 : hw_M} {j : Nat} {q q' c : List Nat} (h : sg_ok z σ j q c) (he : es_ok z σ1 j q') (hf : es_fr j σ σ1) : sg_ok z σ1 j q' c := by
  refine ⟨he, ?_, h.2.2.1, ?_, h.2.2.2.2⟩
  · rw [hf (12, j) (hw_ne (by decide)) (hw_ne (by decide)) (hw_ne (by decide))]; exact h.2.1
  · rw [hf (16, j) (hw_ne (by decide)) (hw_ne (by decide)) (hw_ne (by decide))]; exact h.2.2.2.1
theorem sg_push {z : zz_Z} {σ : hw_M} {j a : Nat} {q c : List Nat} (h : sg_ok z σ j q c) (hc : c.length < 7) (ha : a < zz_N z) : sg_ok z (hw_up (hw_up σ (16, j) c.length a) (12, j) 3 (c.length + 1)) j q (c ++ [a]) := by
  refine ⟨es_keep h.1 ?_ ?_ ?_, ?_, ?_, fun k hk => ?_, fun b hb => ?_⟩
  · rw [hw_up_k _ _ _ (hw_ne (by decide)), hw_up_k _ _ _ (hw_ne (by decide))]
  · rw [hw_up_k _ _ _ (hw_ne (by decide)), hw_up_k _ _ _ (hw_ne (by decide))]
  · rw [hw_up_k _ _ _ (hw_ne (by decide)), hw_up_k _ _ _ (hw_ne (by decide))]
  · rw [hw_up_s, List.length_append]; rfl
  · rw [List.length_append]; show c.length + 1 ≤ 7; omega
  · rw [hw_up_k _ _ _ (hw_ne (by decide)), hw_up_v]
    rw [List.length_append] at hk
    have hk : k < c.length + 1 := hk
    by_cases e : k = c.length
    · rw [if_pos e, e, List.getD_eq_getElem?_getD, List.getElem?_append_right (Nat.le_refl _), Nat.sub_self]
      rfl
    · have hk2 : k < c.length := by omega
      rw [if_neg e, h.2.2.2.1 k hk2, List.getD_eq_getElem?_getD, List.getD_eq_getElem?_getD, List.getElem?_append_left hk2]
  · rcases List.mem_append.mp hb with q | q
    · exact h.2.2.2.2 b q
    · rw [List.mem_singleton] at q; rw [q]; exact ha
/-- the row holds just what the basis generates, and each of the basis made it twice as long at least -/
def sg_gp (z : zz_Z) (o : Nat → Nat → Nat) (σ : hw_M) (j : Nat) (q c : List Nat) : Prop := sg_ok z σ j q c ∧ (∀ x, x ∈ q ↔ gp_gn (zz_N z) o (fun y => y ∈ c) x) ∧ 2 ^ c.length ≤ q.length
theorem sg_gp0 {z : zz_Z} {o : Nat → Nat → Nat} {σ : hw_M} {j : Nat} (g : gp_ok (zz_N z) o) (h : sg_ok z σ j [0] []) : sg_gp z o σ j [0] [] := by
  refine ⟨h, fun x => ⟨fun hx => ?_, fun hx => ?_⟩, Nat.le_refl _⟩
  · rw [List.mem_singleton] at hx; rw [hx]; exact fun S hS _ => hS.1
  · refine gp_gn.of (S := fun a => a ∈ [0]) g (fun x hx => absurd hx List.not_mem_nil) List.mem_cons_self (fun a b _ hb => absurd hb List.not_mem_nil) hx
theorem sg_lo {z : zz_Z} {σ σ1 : hw_M} {j : Nat} (h : lo_ok z σ 0) (hf : sg_fr j σ σ1) : lo_ok z σ1 0 ∧ gr_p z σ1 = gr_p z σ := by
  have hK := lo_keep h (σ1 := σ1) (fun u _ h1 _ _ => hf u (Or.inr (Or.inl h1)))
  exact ⟨hK.1, hK.2.1 _⟩
theorem sg_mono {z : zz_Z} {o : Nat → Nat → Nat} {σ σ1 : hw_M} {j : Nat} {q c q' c' : List Nat} (h : sg_gp z o σ j q c) (h' : sg_gp z o σ1 j q' c') (hc : ∀ b, b ∈ c → b ∈ c') : ∀ x, x ∈ q → x ∈ q' :=
  fun x hx => (h'.2.1 x).mpr (gp_gn.mono (fun y hy => hc y hy) ((h.2.1 x).mp hx))
theorem sg_basis {z : zz_Z} {o : Nat → Nat → Nat} {σ : hw_M} {j : Nat} {q c : List Nat} (h : sg_gp z o σ j q c) : ∀ b, b ∈ c → b ∈ q := fun b hb => (h.2.1 b).mpr (gp_gn.in hb)
/-- no room in the basis: everything is in -/
theorem sg_room {z : zz_Z} {o : Nat → Nat → Nat} {σ : hw_M} {j a : Nat} {q c : List Nat} (hN : zz_N z ≤ 128) (h : sg_gp z o σ j q c) (ha : a < zz_N z) (hn : a ∉ q) : c.length < 7 := by
  have h1 := ls_full h.1.1.1 h.1.1.2.1 ha hn
  have h2 := h.2.2
  apply Nat.lt_of_not_le
  intro h3
  have h4 : 2 ^ 7 ≤ 2 ^ c.length := Nat.pow_le_pow_right (by decide) h3
  have : 2 ^ 7 = 128 := rfl
  omega
/-- the end of the closing loop -/
theorem sg_end {z : zz_Z} {o : Nat → Nat → Nat} (g : gp_ok (zz_N z) o) {σ σ1 : hw_M} {j a k : Nat} {q c q' : List Nat} (h : sg_gp z o σ j q c) (ha : a ∉ q) (h' : sg_ok z σ1 j q' (c ++ [a])) (h0 : 0 ∈ q') (hg : ∀ x, x ∈ q' → gp_gn (zz_N z) o (fun y => y ∈ c ++ [a]) x) (hk : q'.length ≤ k) (hc : ∀ i, i < k → i < q'.length → ∀ b, b ∈ c ++ [a] → o (q'.getD i 0) b ∈ q') : sg_gp z o σ1 j q' (c ++ [a]) ∧ a ∈ q' := by
  have e := ls_closed g h'.2.2.2.2 h0 hg (fun i hi b hb => hc i (by omega) hi b hb)
  have hin : a ∈ c ++ [a] := List.mem_append_right _ (List.mem_singleton.mpr rfl)
  refine ⟨⟨h', e, ?_⟩, (e a).mpr (gp_gn.in hin)⟩
  have h2 := ls_twice g h.1.1.1 h.1.1.2.1 h'.1.1 h'.1.2.1 h.1.2.2.2.2 h'.2.2.2.2 h.2.1 e (fun b hb => List.mem_append_left _ hb) hin ha
  rw [List.length_append]
  show 2 ^ (c.length + 1) ≤ _
  rw [Nat.pow_succ]
  have := h.2.2
  omega
theorem ls_cl_add {q : List Nat} {k x : Nat} {o : Nat → Nat → Nat} {B : Nat → Prop} (h : ∀ i, i < k → i < q.length → ∀ b, B b → o (q.getD i 0) b ∈ q) (hk : k ≤ q.length) : ∀ i, i < k → i < (ls_add q x).length → ∀ b, B b → o ((ls_add q x).getD i 0) b ∈ ls_add q x := by
  intro i h1 _ b hb
  rw [ls_add_at (show i < q.length by omega)]
  exact ls_add_mem.mpr (Or.inl (h i h1 (by omega) b hb))
theorem sg_zero {z : zz_Z} {σ : hw_M} {j : Nat} (h : es_ok z σ j (ls_add [] 0)) : sg_ok z (hw_up σ (12, j) 3 0) j [0] [] := by
  have h : es_ok z σ j [0] := h
  refine ⟨es_keep h (hw_up_k _ _ _ (hw_ne (by decide))) (hw_up_k _ _ _ (hw_ne (by decide))) (hw_up_k _ _ _ (hw_ne (by decide))), hw_up_s _ _ _ _, Nat.zero_le _, fun k hk => absurd hk (Nat.not_lt_zero _), fun b hb => absurd hb List.not_mem_nil⟩
end
section
theorem d_Sub_init_0 : decode b_Sub_init 0 = .ok (.aload_n 0, 1) := by decide +kernel
theorem d_Sub_init_1 : decode b_Sub_init 1 = .ok (.invokespecial 3, 3) := by decide +kernel
theorem d_Sub_init_4 : decode b_Sub_init 4 = .ok (.aload_n 0, 1) := by decide +kernel
theorem d_Sub_init_5 : decode b_Sub_init 5 = .ok (.aload_n 1, 1) := by decide +kernel
theorem d_Sub_init_6 : decode b_Sub_init 6 = .ok (.putfield 9, 3) := by decide +kernel
theorem d_Sub_init_9 : decode b_Sub_init 9 = .ok (.aload_n 0, 1) := by decide +kernel
theorem d_Sub_init_10 : decode b_Sub_init 10 = .ok (.new 15, 3) := by decide +kernel
theorem d_Sub_init_13 : decode b_Sub_init 13 = .ok (.dup, 1) := by decide +kernel
theorem d_Sub_init_14 : decode b_Sub_init 14 = .ok (.aload_n 1, 1) := by decide +kernel
theorem d_Sub_init_15 : decode b_Sub_init 15 = .ok (.invokevirtual 17, 3) := by decide +kernel
theorem d_Sub_init_18 : decode b_Sub_init 18 = .ok (.invokespecial 23, 3) := by decide +kernel
theorem d_Sub_init_21 : decode b_Sub_init 21 = .ok (.putfield 26, 3) := by decide +kernel
theorem d_Sub_init_24 : decode b_Sub_init 24 = .ok (.aload_n 0, 1) := by decide +kernel
theorem d_Sub_init_25 : decode b_Sub_init 25 = .ok (.bipush 7, 2) := by decide +kernel
theorem d_Sub_init_27 : decode b_Sub_init 27 = .ok (.newarray .int, 2) := by decide +kernel
theorem d_Sub_init_29 : decode b_Sub_init 29 = .ok (.putfield 30, 3) := by decide +kernel
theorem d_Sub_init_32 : decode b_Sub_init 32 = .ok (.aload_n 0, 1) := by decide +kernel
theorem d_Sub_init_33 : decode b_Sub_init 33 = .ok (.iconst 0, 1) := by decide +kernel
theorem d_Sub_init_34 : decode b_Sub_init 34 = .ok (.putfield 34, 3) := by decide +kernel
theorem d_Sub_init_37 : decode b_Sub_init 37 = .ok (.aload_n 0, 1) := by decide +kernel
theorem d_Sub_init_38 : decode b_Sub_init 38 = .ok (.getfield 26, 3) := by decide +kernel
theorem d_Sub_init_41 : decode b_Sub_init 41 = .ok (.iconst 0, 1) := by decide +kernel
theorem d_Sub_init_42 : decode b_Sub_init 42 = .ok (.invokevirtual 38, 3) := by decide +kernel
theorem d_Sub_init_45 : decode b_Sub_init 45 = .ok (.return_, 1) := by decide +kernel
theorem d_Sub_amount_0 : decode b_Sub_amount 0 = .ok (.aload_n 0, 1) := by decide +kernel
theorem d_Sub_amount_1 : decode b_Sub_amount 1 = .ok (.getfield 26, 3) := by decide +kernel
theorem d_Sub_amount_4 : decode b_Sub_amount 4 = .ok (.invokevirtual 41, 3) := by decide +kernel
theorem d_Sub_amount_7 : decode b_Sub_amount 7 = .ok (.ireturn, 1) := by decide +kernel
theorem d_Sub_holds_0 : decode b_Sub_holds 0 = .ok (.aload_n 0, 1) := by decide +kernel
theorem d_Sub_holds_1 : decode b_Sub_holds 1 = .ok (.getfield 26, 3) := by decide +kernel
theorem d_Sub_holds_4 : decode b_Sub_holds 4 = .ok (.iload_n 1, 1) := by decide +kernel
theorem d_Sub_holds_5 : decode b_Sub_holds 5 = .ok (.invokevirtual 44, 3) := by decide +kernel
theorem d_Sub_holds_8 : decode b_Sub_holds 8 = .ok (.ireturn, 1) := by decide +kernel
theorem d_Sub_reset_0 : decode b_Sub_reset 0 = .ok (.aload_n 0, 1) := by decide +kernel
theorem d_Sub_reset_1 : decode b_Sub_reset 1 = .ok (.getfield 26, 3) := by decide +kernel
theorem d_Sub_reset_4 : decode b_Sub_reset 4 = .ok (.invokevirtual 48, 3) := by decide +kernel
theorem d_Sub_reset_7 : decode b_Sub_reset 7 = .ok (.aload_n 0, 1) := by decide +kernel
theorem d_Sub_reset_8 : decode b_Sub_reset 8 = .ok (.getfield 26, 3) := by decide +kernel
theorem d_Sub_reset_11 : decode b_Sub_reset 11 = .ok (.iconst 0, 1) := by decide +kernel
theorem d_Sub_reset_12 : decode b_Sub_reset 12 = .ok (.invokevirtual 38, 3) := by decide +kernel
theorem d_Sub_reset_15 : decode b_Sub_reset 15 = .ok (.aload_n 0, 1) := by decide +kernel
theorem d_Sub_reset_16 : decode b_Sub_reset 16 = .ok (.iconst 0, 1) := by decide +kernel
theorem d_Sub_reset_17 : decode b_Sub_reset 17 = .ok (.putfield 34, 3) := by decide +kernel
theorem d_Sub_reset_20 : decode b_Sub_reset 20 = .ok (.return_, 1) := by decide +kernel
theorem d_Sub_include_0 : decode b_Sub_include 0 = .ok (.aload_n 0, 1) := by decide +kernel
theorem d_Sub_include_1 : decode b_Sub_include 1 = .ok (.getfield 26, 3) := by decide +kernel
theorem d_Sub_include_4 : decode b_Sub_include 4 = .ok (.iload_n 1, 1) := by decide +kernel
theorem d_Sub_include_5 : decode b_Sub_include 5 = .ok (.invokevirtual 44, 3) := by decide +kernel
theorem d_Sub_include_8 : decode b_Sub_include 8 = .ok (.ifCond .ne 12, 3) := by decide +kernel
theorem d_Sub_include_11 : decode b_Sub_include 11 = .ok (.aload_n 0, 1) := by decide +kernel
theorem d_Sub_include_12 : decode b_Sub_include 12 = .ok (.getfield 34, 3) := by decide +kernel
theorem d_Sub_include_15 : decode b_Sub_include 15 = .ok (.bipush 7, 2) := by decide +kernel
theorem d_Sub_include_17 : decode b_Sub_include 17 = .ok (.if_icmp .lt 4, 3) := by decide +kernel
theorem d_Sub_include_20 : decode b_Sub_include 20 = .ok (.return_, 1) := by decide +kernel
theorem d_Sub_include_21 : decode b_Sub_include 21 = .ok (.aload_n 0, 1) := by decide +kernel
theorem d_Sub_include_22 : decode b_Sub_include 22 = .ok (.getfield 30, 3) := by decide +kernel
theorem d_Sub_include_25 : decode b_Sub_include 25 = .ok (.aload_n 0, 1) := by decide +kernel
theorem d_Sub_include_26 : decode b_Sub_include 26 = .ok (.getfield 34, 3) := by decide +kernel
theorem d_Sub_include_29 : decode b_Sub_include 29 = .ok (.iload_n 1, 1) := by decide +kernel
theorem d_Sub_include_30 : decode b_Sub_include 30 = .ok (.iastore, 1) := by decide +kernel
theorem d_Sub_include_31 : decode b_Sub_include 31 = .ok (.aload_n 0, 1) := by decide +kernel
theorem d_Sub_include_32 : decode b_Sub_include 32 = .ok (.dup, 1) := by decide +kernel
theorem d_Sub_include_33 : decode b_Sub_include 33 = .ok (.getfield 34, 3) := by decide +kernel
theorem d_Sub_include_36 : decode b_Sub_include 36 = .ok (.iconst 1, 1) := by decide +kernel
theorem d_Sub_include_37 : decode b_Sub_include 37 = .ok (.iadd, 1) := by decide +kernel
theorem d_Sub_include_38 : decode b_Sub_include 38 = .ok (.putfield 34, 3) := by decide +kernel
theorem d_Sub_include_41 : decode b_Sub_include 41 = .ok (.iconst 0, 1) := by decide +kernel
theorem d_Sub_include_42 : decode b_Sub_include 42 = .ok (.istore_n 2, 1) := by decide +kernel
theorem d_Sub_include_43 : decode b_Sub_include 43 = .ok (.iload_n 2, 1) := by decide +kernel
theorem d_Sub_include_44 : decode b_Sub_include 44 = .ok (.aload_n 0, 1) := by decide +kernel
theorem d_Sub_include_45 : decode b_Sub_include 45 = .ok (.getfield 9, 3) := by decide +kernel
theorem d_Sub_include_48 : decode b_Sub_include 48 = .ok (.invokevirtual 17, 3) := by decide +kernel
theorem d_Sub_include_51 : decode b_Sub_include 51 = .ok (.if_icmp .ge 64, 3) := by decide +kernel
theorem d_Sub_include_54 : decode b_Sub_include 54 = .ok (.iload_n 2, 1) := by decide +kernel
theorem d_Sub_include_55 : decode b_Sub_include 55 = .ok (.aload_n 0, 1) := by decide +kernel
theorem d_Sub_include_56 : decode b_Sub_include 56 = .ok (.getfield 26, 3) := by decide +kernel
theorem d_Sub_include_59 : decode b_Sub_include 59 = .ok (.invokevirtual 41, 3) := by decide +kernel
theorem d_Sub_include_62 : decode b_Sub_include 62 = .ok (.if_icmp .ge 53, 3) := by decide +kernel
theorem d_Sub_include_65 : decode b_Sub_include 65 = .ok (.iconst 0, 1) := by decide +kernel
theorem d_Sub_include_66 : decode b_Sub_include 66 = .ok (.istore_n 3, 1) := by decide +kernel
theorem d_Sub_include_67 : decode b_Sub_include 67 = .ok (.iload_n 3, 1) := by decide +kernel
theorem d_Sub_include_68 : decode b_Sub_include 68 = .ok (.aload_n 0, 1) := by decide +kernel
theorem d_Sub_include_69 : decode b_Sub_include 69 = .ok (.getfield 34, 3) := by decide +kernel
theorem d_Sub_include_72 : decode b_Sub_include 72 = .ok (.if_icmp .ge 37, 3) := by decide +kernel
theorem d_Sub_include_75 : decode b_Sub_include 75 = .ok (.aload_n 0, 1) := by decide +kernel
theorem d_Sub_include_76 : decode b_Sub_include 76 = .ok (.getfield 26, 3) := by decide +kernel
theorem d_Sub_include_79 : decode b_Sub_include 79 = .ok (.aload_n 0, 1) := by decide +kernel
theorem d_Sub_include_80 : decode b_Sub_include 80 = .ok (.getfield 9, 3) := by decide +kernel
theorem d_Sub_include_83 : decode b_Sub_include 83 = .ok (.aload_n 0, 1) := by decide +kernel
theorem d_Sub_include_84 : decode b_Sub_include 84 = .ok (.getfield 26, 3) := by decide +kernel
theorem d_Sub_include_87 : decode b_Sub_include 87 = .ok (.iload_n 2, 1) := by decide +kernel
theorem d_Sub_include_88 : decode b_Sub_include 88 = .ok (.invokevirtual 51, 3) := by decide +kernel
theorem d_Sub_include_91 : decode b_Sub_include 91 = .ok (.aload_n 0, 1) := by decide +kernel
theorem d_Sub_include_92 : decode b_Sub_include 92 = .ok (.getfield 30, 3) := by decide +kernel
theorem d_Sub_include_95 : decode b_Sub_include 95 = .ok (.iload_n 3, 1) := by decide +kernel
theorem d_Sub_include_96 : decode b_Sub_include 96 = .ok (.iaload, 1) := by decide +kernel
theorem d_Sub_include_97 : decode b_Sub_include 97 = .ok (.invokevirtual 55, 3) := by decide +kernel
theorem d_Sub_include_100 : decode b_Sub_include 100 = .ok (.invokevirtual 38, 3) := by decide +kernel
theorem d_Sub_include_103 : decode b_Sub_include 103 = .ok (.iinc 3 1, 3) := by decide +kernel
theorem d_Sub_include_106 : decode b_Sub_include 106 = .ok (.goto (-39), 3) := by decide +kernel
theorem d_Sub_include_109 : decode b_Sub_include 109 = .ok (.iinc 2 1, 3) := by decide +kernel
theorem d_Sub_include_112 : decode b_Sub_include 112 = .ok (.goto (-69), 3) := by decide +kernel
theorem d_Sub_include_115 : decode b_Sub_include 115 = .ok (.return_, 1) := by decide +kernel
theorem d_Sub_includeAllConjugates_0 : decode b_Sub_includeAllConjugates 0 = .ok (.iconst 0, 1) := by decide +kernel
theorem d_Sub_includeAllConjugates_1 : decode b_Sub_includeAllConjugates 1 = .ok (.istore_n 2, 1) := by decide +kernel
theorem d_Sub_includeAllConjugates_2 : decode b_Sub_includeAllConjugates 2 = .ok (.iload_n 2, 1) := by decide +kernel
theorem d_Sub_includeAllConjugates_3 : decode b_Sub_includeAllConjugates 3 = .ok (.bipush 7, 2) := by decide +kernel
theorem d_Sub_includeAllConjugates_5 : decode b_Sub_includeAllConjugates 5 = .ok (.if_icmp .ge 28, 3) := by decide +kernel
theorem d_Sub_includeAllConjugates_8 : decode b_Sub_includeAllConjugates 8 = .ok (.iload_n 2, 1) := by decide +kernel
theorem d_Sub_includeAllConjugates_9 : decode b_Sub_includeAllConjugates 9 = .ok (.aload_n 0, 1) := by decide +kernel
theorem d_Sub_includeAllConjugates_10 : decode b_Sub_includeAllConjugates 10 = .ok (.getfield 34, 3) := by decide +kernel
theorem d_Sub_includeAllConjugates_13 : decode b_Sub_includeAllConjugates 13 = .ok (.if_icmp .ge 20, 3) := by decide +kernel
theorem d_Sub_includeAllConjugates_16 : decode b_Sub_includeAllConjugates 16 = .ok (.aload_n 0, 1) := by decide +kernel
theorem d_Sub_includeAllConjugates_17 : decode b_Sub_includeAllConjugates 17 = .ok (.aload_n 0, 1) := by decide +kernel
theorem d_Sub_includeAllConjugates_18 : decode b_Sub_includeAllConjugates 18 = .ok (.getfield 30, 3) := by decide +kernel
theorem d_Sub_includeAllConjugates_21 : decode b_Sub_includeAllConjugates 21 = .ok (.iload_n 2, 1) := by decide +kernel
theorem d_Sub_includeAllConjugates_22 : decode b_Sub_includeAllConjugates 22 = .ok (.iaload, 1) := by decide +kernel
theorem d_Sub_includeAllConjugates_23 : decode b_Sub_includeAllConjugates 23 = .ok (.aload_n 1, 1) := by decide +kernel
theorem d_Sub_includeAllConjugates_24 : decode b_Sub_includeAllConjugates 24 = .ok (.invokevirtual 59, 3) := by decide +kernel
theorem d_Sub_includeAllConjugates_27 : decode b_Sub_includeAllConjugates 27 = .ok (.iinc 2 1, 3) := by decide +kernel
theorem d_Sub_includeAllConjugates_30 : decode b_Sub_includeAllConjugates 30 = .ok (.goto (-28), 3) := by decide +kernel
theorem d_Sub_includeAllConjugates_33 : decode b_Sub_includeAllConjugates 33 = .ok (.return_, 1) := by decide +kernel
theorem d_Sub_becomeCommutators_0 : decode b_Sub_becomeCommutators 0 = .ok (.aload_n 0, 1) := by decide +kernel
theorem d_Sub_becomeCommutators_1 : decode b_Sub_becomeCommutators 1 = .ok (.invokevirtual 63, 3) := by decide +kernel
theorem d_Sub_becomeCommutators_4 : decode b_Sub_becomeCommutators 4 = .ok (.iconst 0, 1) := by decide +kernel
theorem d_Sub_becomeCommutators_5 : decode b_Sub_becomeCommutators 5 = .ok (.istore_n 3, 1) := by decide +kernel
theorem d_Sub_becomeCommutators_6 : decode b_Sub_becomeCommutators 6 = .ok (.iload_n 3, 1) := by decide +kernel
theorem d_Sub_becomeCommutators_7 : decode b_Sub_becomeCommutators 7 = .ok (.aload_n 1, 1) := by decide +kernel
theorem d_Sub_becomeCommutators_8 : decode b_Sub_becomeCommutators 8 = .ok (.getfield 34, 3) := by decide +kernel
theorem d_Sub_becomeCommutators_11 : decode b_Sub_becomeCommutators 11 = .ok (.if_icmp .ge 51, 3) := by decide +kernel
theorem d_Sub_becomeCommutators_14 : decode b_Sub_becomeCommutators 14 = .ok (.iconst 0, 1) := by decide +kernel
theorem d_Sub_becomeCommutators_15 : decode b_Sub_becomeCommutators 15 = .ok (.istore 4, 2) := by decide +kernel
theorem d_Sub_becomeCommutators_17 : decode b_Sub_becomeCommutators 17 = .ok (.iload 4, 2) := by decide +kernel
theorem d_Sub_becomeCommutators_19 : decode b_Sub_becomeCommutators 19 = .ok (.aload_n 2, 1) := by decide +kernel
theorem d_Sub_becomeCommutators_20 : decode b_Sub_becomeCommutators 20 = .ok (.getfield 34, 3) := by decide +kernel
theorem d_Sub_becomeCommutators_23 : decode b_Sub_becomeCommutators 23 = .ok (.if_icmp .ge 33, 3) := by decide +kernel
theorem d_Sub_becomeCommutators_26 : decode b_Sub_becomeCommutators 26 = .ok (.aload_n 0, 1) := by decide +kernel
theorem d_Sub_becomeCommutators_27 : decode b_Sub_becomeCommutators 27 = .ok (.aload_n 0, 1) := by decide +kernel
theorem d_Sub_becomeCommutators_28 : decode b_Sub_becomeCommutators 28 = .ok (.getfield 9, 3) := by decide +kernel
theorem d_Sub_becomeCommutators_31 : decode b_Sub_becomeCommutators 31 = .ok (.aload_n 1, 1) := by decide +kernel
theorem d_Sub_becomeCommutators_32 : decode b_Sub_becomeCommutators 32 = .ok (.getfield 30, 3) := by decide +kernel
theorem d_Sub_becomeCommutators_35 : decode b_Sub_becomeCommutators 35 = .ok (.iload_n 3, 1) := by decide +kernel
theorem d_Sub_becomeCommutators_36 : decode b_Sub_becomeCommutators 36 = .ok (.iaload, 1) := by decide +kernel
theorem d_Sub_becomeCommutators_37 : decode b_Sub_becomeCommutators 37 = .ok (.aload_n 2, 1) := by decide +kernel
theorem d_Sub_becomeCommutators_38 : decode b_Sub_becomeCommutators 38 = .ok (.getfield 30, 3) := by decide +kernel
theorem d_Sub_becomeCommutators_41 : decode b_Sub_becomeCommutators 41 = .ok (.iload 4, 2) := by decide +kernel
theorem d_Sub_becomeCommutators_43 : decode b_Sub_becomeCommutators 43 = .ok (.iaload, 1) := by decide +kernel
theorem d_Sub_becomeCommutators_44 : decode b_Sub_becomeCommutators 44 = .ok (.invokevirtual 66, 3) := by decide +kernel
theorem d_Sub_becomeCommutators_47 : decode b_Sub_becomeCommutators 47 = .ok (.invokevirtual 69, 3) := by decide +kernel
theorem d_Sub_becomeCommutators_50 : decode b_Sub_becomeCommutators 50 = .ok (.iinc 4 1, 3) := by decide +kernel
theorem d_Sub_becomeCommutators_53 : decode b_Sub_becomeCommutators 53 = .ok (.goto (-36), 3) := by decide +kernel
theorem d_Sub_becomeCommutators_56 : decode b_Sub_becomeCommutators 56 = .ok (.iinc 3 1, 3) := by decide +kernel
theorem d_Sub_becomeCommutators_59 : decode b_Sub_becomeCommutators 59 = .ok (.goto (-53), 3) := by decide +kernel
theorem d_Sub_becomeCommutators_62 : decode b_Sub_becomeCommutators 62 = .ok (.iconst 0, 1) := by decide +kernel
theorem d_Sub_becomeCommutators_63 : decode b_Sub_becomeCommutators 63 = .ok (.istore_n 3, 1) := by decide +kernel
theorem d_Sub_becomeCommutators_64 : decode b_Sub_becomeCommutators 64 = .ok (.iload_n 3, 1) := by decide +kernel
theorem d_Sub_becomeCommutators_65 : decode b_Sub_becomeCommutators 65 = .ok (.bipush 7, 2) := by decide +kernel
theorem d_Sub_becomeCommutators_67 : decode b_Sub_becomeCommutators 67 = .ok (.if_icmp .ge 39, 3) := by decide +kernel
theorem d_Sub_becomeCommutators_70 : decode b_Sub_becomeCommutators 70 = .ok (.iload_n 3, 1) := by decide +kernel
theorem d_Sub_becomeCommutators_71 : decode b_Sub_becomeCommutators 71 = .ok (.aload_n 0, 1) := by decide +kernel
theorem d_Sub_becomeCommutators_72 : decode b_Sub_becomeCommutators 72 = .ok (.getfield 34, 3) := by decide +kernel
theorem d_Sub_becomeCommutators_75 : decode b_Sub_becomeCommutators 75 = .ok (.if_icmp .ge 31, 3) := by decide +kernel
theorem d_Sub_becomeCommutators_78 : decode b_Sub_becomeCommutators 78 = .ok (.aload_n 0, 1) := by decide +kernel
theorem d_Sub_becomeCommutators_79 : decode b_Sub_becomeCommutators 79 = .ok (.aload_n 0, 1) := by decide +kernel
theorem d_Sub_becomeCommutators_80 : decode b_Sub_becomeCommutators 80 = .ok (.getfield 30, 3) := by decide +kernel
theorem d_Sub_becomeCommutators_83 : decode b_Sub_becomeCommutators 83 = .ok (.iload_n 3, 1) := by decide +kernel
theorem d_Sub_becomeCommutators_84 : decode b_Sub_becomeCommutators 84 = .ok (.iaload, 1) := by decide +kernel
theorem d_Sub_becomeCommutators_85 : decode b_Sub_becomeCommutators 85 = .ok (.aload_n 1, 1) := by decide +kernel
theorem d_Sub_becomeCommutators_86 : decode b_Sub_becomeCommutators 86 = .ok (.invokevirtual 59, 3) := by decide +kernel
theorem d_Sub_becomeCommutators_89 : decode b_Sub_becomeCommutators 89 = .ok (.aload_n 0, 1) := by decide +kernel
theorem d_Sub_becomeCommutators_90 : decode b_Sub_becomeCommutators 90 = .ok (.aload_n 0, 1) := by decide +kernel
theorem d_Sub_becomeCommutators_91 : decode b_Sub_becomeCommutators 91 = .ok (.getfield 30, 3) := by decide +kernel
theorem d_Sub_becomeCommutators_94 : decode b_Sub_becomeCommutators 94 = .ok (.iload_n 3, 1) := by decide +kernel
theorem d_Sub_becomeCommutators_95 : decode b_Sub_becomeCommutators 95 = .ok (.iaload, 1) := by decide +kernel
theorem d_Sub_becomeCommutators_96 : decode b_Sub_becomeCommutators 96 = .ok (.aload_n 2, 1) := by decide +kernel
theorem d_Sub_becomeCommutators_97 : decode b_Sub_becomeCommutators 97 = .ok (.invokevirtual 59, 3) := by decide +kernel
theorem d_Sub_becomeCommutators_100 : decode b_Sub_becomeCommutators 100 = .ok (.iinc 3 1, 3) := by decide +kernel
theorem d_Sub_becomeCommutators_103 : decode b_Sub_becomeCommutators 103 = .ok (.goto (-39), 3) := by decide +kernel
theorem d_Sub_becomeCommutators_106 : decode b_Sub_becomeCommutators 106 = .ok (.return_, 1) := by decide +kernel
theorem d_Sub_becomeCopy_0 : decode b_Sub_becomeCopy 0 = .ok (.aload_n 0, 1) := by decide +kernel
theorem d_Sub_becomeCopy_1 : decode b_Sub_becomeCopy 1 = .ok (.getfield 26, 3) := by decide +kernel
theorem d_Sub_becomeCopy_4 : decode b_Sub_becomeCopy 4 = .ok (.invokevirtual 48, 3) := by decide +kernel
theorem d_Sub_becomeCopy_7 : decode b_Sub_becomeCopy 7 = .ok (.iconst 0, 1) := by decide +kernel
theorem d_Sub_becomeCopy_8 : decode b_Sub_becomeCopy 8 = .ok (.istore_n 2, 1) := by decide +kernel
theorem d_Sub_becomeCopy_9 : decode b_Sub_becomeCopy 9 = .ok (.iload_n 2, 1) := by decide +kernel
theorem d_Sub_becomeCopy_10 : decode b_Sub_becomeCopy 10 = .ok (.aload_n 1, 1) := by decide +kernel
theorem d_Sub_becomeCopy_11 : decode b_Sub_becomeCopy 11 = .ok (.getfield 26, 3) := by decide +kernel
theorem d_Sub_becomeCopy_14 : decode b_Sub_becomeCopy 14 = .ok (.invokevirtual 41, 3) := by decide +kernel
theorem d_Sub_becomeCopy_17 : decode b_Sub_becomeCopy 17 = .ok (.if_icmp .ge 24, 3) := by decide +kernel
theorem d_Sub_becomeCopy_20 : decode b_Sub_becomeCopy 20 = .ok (.aload_n 0, 1) := by decide +kernel
theorem d_Sub_becomeCopy_21 : decode b_Sub_becomeCopy 21 = .ok (.getfield 26, 3) := by decide +kernel
theorem d_Sub_becomeCopy_24 : decode b_Sub_becomeCopy 24 = .ok (.aload_n 1, 1) := by decide +kernel
theorem d_Sub_becomeCopy_25 : decode b_Sub_becomeCopy 25 = .ok (.getfield 26, 3) := by decide +kernel
theorem d_Sub_becomeCopy_28 : decode b_Sub_becomeCopy 28 = .ok (.iload_n 2, 1) := by decide +kernel
theorem d_Sub_becomeCopy_29 : decode b_Sub_becomeCopy 29 = .ok (.invokevirtual 51, 3) := by decide +kernel
theorem d_Sub_becomeCopy_32 : decode b_Sub_becomeCopy 32 = .ok (.invokevirtual 38, 3) := by decide +kernel
theorem d_Sub_becomeCopy_35 : decode b_Sub_becomeCopy 35 = .ok (.iinc 2 1, 3) := by decide +kernel
theorem d_Sub_becomeCopy_38 : decode b_Sub_becomeCopy 38 = .ok (.goto (-29), 3) := by decide +kernel
theorem d_Sub_becomeCopy_41 : decode b_Sub_becomeCopy 41 = .ok (.aload_n 1, 1) := by decide +kernel
theorem d_Sub_becomeCopy_42 : decode b_Sub_becomeCopy 42 = .ok (.getfield 30, 3) := by decide +kernel
theorem d_Sub_becomeCopy_45 : decode b_Sub_becomeCopy 45 = .ok (.iconst 0, 1) := by decide +kernel
theorem d_Sub_becomeCopy_46 : decode b_Sub_becomeCopy 46 = .ok (.aload_n 0, 1) := by decide +kernel
theorem d_Sub_becomeCopy_47 : decode b_Sub_becomeCopy 47 = .ok (.getfield 30, 3) := by decide +kernel
theorem d_Sub_becomeCopy_50 : decode b_Sub_becomeCopy 50 = .ok (.iconst 0, 1) := by decide +kernel
theorem d_Sub_becomeCopy_51 : decode b_Sub_becomeCopy 51 = .ok (.aload_n 1, 1) := by decide +kernel
theorem d_Sub_becomeCopy_52 : decode b_Sub_becomeCopy 52 = .ok (.getfield 34, 3) := by decide +kernel
theorem d_Sub_becomeCopy_55 : decode b_Sub_becomeCopy 55 = .ok (.invokestatic 72, 3) := by decide +kernel
theorem d_Sub_becomeCopy_58 : decode b_Sub_becomeCopy 58 = .ok (.aload_n 0, 1) := by decide +kernel
theorem d_Sub_becomeCopy_59 : decode b_Sub_becomeCopy 59 = .ok (.aload_n 1, 1) := by decide +kernel
theorem d_Sub_becomeCopy_60 : decode b_Sub_becomeCopy 60 = .ok (.getfield 34, 3) := by decide +kernel
theorem d_Sub_becomeCopy_63 : decode b_Sub_becomeCopy 63 = .ok (.putfield 34, 3) := by decide +kernel
theorem d_Sub_becomeCopy_66 : decode b_Sub_becomeCopy 66 = .ok (.return_, 1) := by decide +kernel
theorem d_Sub_includeConjugates_0 : decode b_Sub_includeConjugates 0 = .ok (.iconst 0, 1) := by decide +kernel
theorem d_Sub_includeConjugates_1 : decode b_Sub_includeConjugates 1 = .ok (.istore_n 3, 1) := by decide +kernel
theorem d_Sub_includeConjugates_2 : decode b_Sub_includeConjugates 2 = .ok (.iload_n 3, 1) := by decide +kernel
theorem d_Sub_includeConjugates_3 : decode b_Sub_includeConjugates 3 = .ok (.aload_n 2, 1) := by decide +kernel
theorem d_Sub_includeConjugates_4 : decode b_Sub_includeConjugates 4 = .ok (.getfield 34, 3) := by decide +kernel
theorem d_Sub_includeConjugates_7 : decode b_Sub_includeConjugates 7 = .ok (.if_icmp .ge 27, 3) := by decide +kernel
theorem d_Sub_includeConjugates_10 : decode b_Sub_includeConjugates 10 = .ok (.aload_n 0, 1) := by decide +kernel
theorem d_Sub_includeConjugates_11 : decode b_Sub_includeConjugates 11 = .ok (.aload_n 0, 1) := by decide +kernel
theorem d_Sub_includeConjugates_12 : decode b_Sub_includeConjugates 12 = .ok (.getfield 9, 3) := by decide +kernel
theorem d_Sub_includeConjugates_15 : decode b_Sub_includeConjugates 15 = .ok (.iload_n 1, 1) := by decide +kernel
theorem d_Sub_includeConjugates_16 : decode b_Sub_includeConjugates 16 = .ok (.aload_n 2, 1) := by decide +kernel
theorem d_Sub_includeConjugates_17 : decode b_Sub_includeConjugates 17 = .ok (.getfield 30, 3) := by decide +kernel
theorem d_Sub_includeConjugates_20 : decode b_Sub_includeConjugates 20 = .ok (.iload_n 3, 1) := by decide +kernel
theorem d_Sub_includeConjugates_21 : decode b_Sub_includeConjugates 21 = .ok (.iaload, 1) := by decide +kernel
theorem d_Sub_includeConjugates_22 : decode b_Sub_includeConjugates 22 = .ok (.invokevirtual 78, 3) := by decide +kernel
theorem d_Sub_includeConjugates_25 : decode b_Sub_includeConjugates 25 = .ok (.invokevirtual 69, 3) := by decide +kernel
theorem d_Sub_includeConjugates_28 : decode b_Sub_includeConjugates 28 = .ok (.iinc 3 1, 3) := by decide +kernel
theorem d_Sub_includeConjugates_31 : decode b_Sub_includeConjugates 31 = .ok (.goto (-29), 3) := by decide +kernel
theorem d_Sub_includeConjugates_34 : decode b_Sub_includeConjugates 34 = .ok (.return_, 1) := by decide +kernel
end
section
/-! Copies of subgroups; what the commutators come to. -/
theorem ls_take {q : List Nat} {k : Nat} (h : q.Nodup) (hk : k < q.length) : ls_add (q.take k) (q.getD k 0) = q.take (k + 1) := by
  have e : q.getD k 0 = q[k] := by rw [List.getD_eq_getElem?_getD, List.getElem?_eq_getElem hk]; rfl
  have hn : q.getD k 0 ∉ q.take k := by
    intro hm
    obtain ⟨i, hi, e2⟩ := List.mem_iff_getElem.mp hm
    have hi2 : i < k := by rw [List.length_take] at hi; omega
    rw [List.getElem_take, e] at e2
    have := (List.getElem_inj h).mp e2
    omega
  unfold ls_add
  rw [if_neg hn, e]
  first | exact List.take_append_getElem hk | (rw [List.take_succ, List.getElem?_eq_getElem hk]; rfl) | simp
theorem sg_copy {z : zz_Z} {σ σ2 : hw_M} {j js : Nat} {qs bs0 : List Nat} (hE : es_ok z σ2 j qs) (hfr : es_fr j σ σ2) (hS : sg_ok z σ2 js qs bs0) (hne : js ≠ j) :
    sg_ok z (hw_up (hw_cp σ2 (16, js) (16, j) bs0.length) (12, j) 3 bs0.length) j qs bs0 ∧ sg_fr j σ (hw_up (hw_cp σ2 (16, js) (16, j) bs0.length) (12, j) 3 bs0.length) := by
  have e : ∀ k, k ≠ 12 → k ≠ 16 → hw_up (hw_cp σ2 (16, js) (16, j) bs0.length) (12, j) 3 bs0.length (k, j) = σ2 (k, j) := fun k h1 h2 => by
    rw [hw_up_k _ _ _ (hw_ne h1)]
    exact if_neg (hw_ne h2)
  refine ⟨⟨es_keep hE (e 13 (by decide) (by decide)) (e 14 (by decide) (by decide)) (e 15 (by decide) (by decide)), hw_up_s _ _ _ _, hS.2.2.1, fun k hk => ?_, hS.2.2.2.2⟩, fun u hu => ?_⟩
  · rw [hw_up_k _ _ _ (hw_ne (by decide))]
    have e2 : hw_cp σ2 (16, js) (16, j) bs0.length (16, j) = fun i => if i < bs0.length then σ2 (16, js) i else σ2 (16, j) i := if_pos rfl
    rw [e2]
    show (if k < bs0.length then _ else _) = _
    rw [if_pos hk]
    exact hS.2.2.2.1 k hk
  · have h1 : u ≠ (12, j) := fun q => by rw [q] at hu; rcases hu with h | h | h; exact h rfl; exact absurd h (by show ¬ (12 : Nat) < 12; decide); exact absurd h (by show ¬ 16 < (12 : Nat); decide)
    have h2 : u ≠ (16, j) := fun q => by rw [q] at hu; rcases hu with h | h | h; exact h rfl; exact absurd h (by show ¬ (16 : Nat) < 12; decide); exact absurd h (by show ¬ 16 < (16 : Nat); decide)
    rw [hw_up_k _ _ _ h1]
    exact (if_neg h2).trans (hfr.sg u hu)
theorem sg_cs {z : zz_Z} {o : Nat → Nat → Nat} (g : gp_ok (zz_N z) o) {σ σ1 : hw_M} {j js jt : Nat} {qs bs qt bt q1 c1 : List Nat} (hs : sg_ok z σ js qs bs) (ht : sg_ok z σ jt qt bt) (hG : sg_gp z o σ1 j q1 c1) (hcm : ∀ x y, x ∈ bs → y ∈ bt → gp_cm (zz_N z) o x y ∈ q1)
    (hin : ∀ t, t < c1.length → (∀ b, b ∈ bs → gp_cj (zz_N z) o (c1.getD t 0) b ∈ q1) ∧ ∀ b, b ∈ bt → gp_cj (zz_N z) o (c1.getD t 0) b ∈ q1)
    (hK : ∀ K : Nat → Prop, gp_sb (zz_N z) o K → (∀ x y, x ∈ bs → y ∈ bt → K (gp_cm (zz_N z) o x y)) → (∀ k b, K k → b ∈ bs → K (gp_cj (zz_N z) o k b)) → (∀ k b, K k → b ∈ bt → K (gp_cj (zz_N z) o k b)) → ∀ b, b ∈ c1 → K b) :
    ∀ x, x ∈ q1 ↔ gp_cs (zz_N z) o (gp_gn (zz_N z) o (fun y => y ∈ bs)) (gp_gn (zz_N z) o (fun y => y ∈ bt)) x := by
  intro x
  rw [hG.2.1 x]
  refine gp_comm g hs.2.2.2.2 ht.2.2.2.2 hG.1.2.2.2.2 (fun x y hx hy => (hG.2.1 _).mp (hcm x y hx hy)) (fun y b hy hb => ?_) (fun y b hy hb => ?_) hK x
  · obtain ⟨t, h1, h2⟩ := ls_mem_at hy
    rw [← h2]
    exact (hG.2.1 _).mp ((hin t h1).1 b hb)
  · obtain ⟨t, h1, h2⟩ := ls_mem_at hy
    rw [← h2]
    exact (hG.2.1 _).mp ((hin t h1).2 b hb)
end
section
/-! The set of elements: contracts. By program (wip/whole/gen/set.py). -/
set_option maxHeartbeats 4000000 in
set_option maxRecDepth 20000 in
theorem cm_Set_add (l : Launch) (z : zz_Z) (σ : hw_M) (j : Nat) (q : List Nat) (h13 : zz_O z (13, j)) (h14 : zz_O z (14, j)) (h15 : zz_O z (15, j)) (hN : zz_N z ≤ 128) (hE : es_ok z σ j q) (a : Nat) (ha : a < zz_N z) : Met l y_Set_add (hw_c y_Set_add b_Set_add 2 none) (hw_r 0) (va_Pc [.ref (zz_A z (13, j)), .int (nI a)] (zz_B z σ)) (va_Qv (fun σ' => es_ok z σ' j (ls_add q a) ∧ es_fr j σ σ') (zz_B z) (zz_F z)) 0 0 (zz_F z) := by
  refine hw_metv (post := (fun σ' => es_ok z σ' j (ls_add q a) ∧ es_fr j σ σ')) (by decide) (Nat.le_of_ble_eq_true rfl) ?_
  intro p e s m args below meth c ls Q X hret V hl
  have hl : lv_has ls 2 [(0, .ref (zz_A z (13, j))), (1, .int (nI a))] := hl
  have hB := V.1.2.2
  refine nw_aload_n X d_Set_add_0 rfl (lv_at hl 0 rfl) ?_
  refine gf_Set_9 X V h13 d_Set_add_1 ?_
  refine nw_iload_n X d_Set_add_4 rfl (lv_at hl 1 rfl) ?_
  refine hw_zald X V h14 1 rfl rfl ha (by omega) d_Set_add_5 ?_
  refine nw_if_ne X (tgt := 36) d_Set_add_6 (by decide) (hB _ _) (fun hc => ?_) (fun hc => ?_)
  · skip
    have hin : a ∈ q := Classical.byContradiction fun h => hc ((es_mark hE ha).1.mpr h)
    exact hret _ _ _ _ _ d_Set_add_36 V ⟨by rw [show ls_add q a = q from if_pos hin]; exact hE, es_fr.rf⟩
  · skip
    have hn : a ∉ q := (es_mark hE ha).1.mp hc
    have hlen := ls_full hE.1 hE.2.1 ha hn
    have hq := hE.2.2.1
    refine nw_aload_n X d_Set_add_9 rfl (lv_at hl 0 rfl) ?_
    refine gf_Set_9 X V h13 d_Set_add_10 ?_
    refine nw_iload_n X d_Set_add_13 rfl (lv_at hl 1 rfl) ?_
    refine nw_iconst X 1 d_Set_add_14 (by decide) ?_
    refine hw_zast X V h14 1 (fun _ => rfl) rfl ha (by omega) (by decide) d_Set_add_15 (fun H locs V => ?_)
    refine nw_aload_n X d_Set_add_16 rfl (lv_at hl 0 rfl) ?_
    refine gf_Set_15 X V h13 d_Set_add_17 ?_
    refine nw_aload_n X d_Set_add_20 rfl (lv_at hl 0 rfl) ?_
    refine gf_Set_19 X V h13 d_Set_add_21 ?_
    rw [hw_up_k _ _ _ (hw_ne (by decide))]
    refine nw_iload_n X d_Set_add_24 rfl (lv_at hl 1 rfl) ?_
    refine hw_iast X V h15 0 (fun _ => rfl) rfl (by first | assumption | omega) (by first | assumption | omega) (by first | assumption | omega) d_Set_add_25 (fun H locs V => ?_)
    refine nw_aload_n X d_Set_add_26 rfl (lv_at hl 0 rfl) ?_
    refine nw_dup X d_Set_add_27 rfl ?_
    refine gf_Set_19 X V h13 d_Set_add_28 ?_
    rw [hw_up_k _ _ _ (hw_ne (by decide)), hw_up_k _ _ _ (hw_ne (by decide))]
    refine nw_iconst X 1 d_Set_add_31 (by decide) ?_
    refine nw_iadd X d_Set_add_32 ?_
    refine pf_Set_19 X V h13 (by first | assumption | omega) d_Set_add_33 (fun H locs V => ?_)
    exact hret _ _ _ _ _ d_Set_add_36 V ⟨es_push hE ha hn, es_fr_push⟩
set_option maxHeartbeats 4000000 in
set_option maxRecDepth 20000 in
theorem cm_Set_empty (l : Launch) (z : zz_Z) (σ : hw_M) (j : Nat) (q : List Nat) (h13 : zz_O z (13, j)) (h14 : zz_O z (14, j)) (h15 : zz_O z (15, j)) (hN : zz_N z ≤ 128) (hE : es_ok z σ j q)  : Met l y_Set_empty (hw_c y_Set_empty b_Set_empty 2 none) (hw_r 0) (va_Pc [.ref (zz_A z (13, j))] (zz_B z σ)) (va_Qv (fun σ' => es_ok z σ' j [] ∧ es_fr j σ σ') (zz_B z) (zz_F z)) 0 0 (zz_F z) := by
  refine hw_metv (post := (fun σ' => es_ok z σ' j [] ∧ es_fr j σ σ')) (by decide) (Nat.le_of_ble_eq_true rfl) ?_
  intro p e s m args below meth c ls Q X hret V hl
  have hl : lv_has ls 2 [(0, .ref (zz_A z (13, j)))] := hl
  have hB := V.1.2.2
  have hlen := es_len hE
  refine nw_iconst X 0 d_Set_empty_0 (by decide) ?_
  refine nw_istore_n X (lv' := [(1, _), (0, _)]) d_Set_empty_1 rfl hl (by decide) rfl (fun ls hl => ?_)
  have LP2 : ∀ (d k : Nat) (σ1 : hw_M) (H : Heap) (locs : List Loc) (ls : Array Slot), q.length - k < d → k ≤ q.length → (∀ u : hw_P, u ≠ (14, j) → σ1 u = σ u) → (∀ a, a < zz_N z → σ1 (14, j) a = 0 ∨ (a ∈ q ∧ ∀ i, i < k → q.getD i 0 ≠ a)) → zz_V z σ1 s.heap H locs → lv_has ls 2 [(0, .ref (zz_A z (13, j))), (1, .int (nI k))] →  W p l e (hw_r 0) s m args below meth c H locs 0 0 Q (F0 m 2 ls []) := by
    intro d
    induction d with
    | zero => intro k σ1 H locs ls hd; exact absurd hd (Nat.not_lt_zero _)
    | succ d IH =>
      intro k σ1 H locs ls hd hk hfr hM V hl
      have hB := V.1.2.2
      refine nw_iload_n X d_Set_empty_2 rfl (lv_at hl 1 rfl) ?_
      refine nw_aload_n X d_Set_empty_3 rfl (lv_at hl 0 rfl) ?_
      refine gf_Set_19 X V h13 d_Set_empty_4 ?_
      rw [hfr (13, j) (hw_ne (by decide)), hE.2.2.1]
      refine nw_icmp_ge X (tgt := 28) d_Set_empty_7 (by decide) (by first | assumption | omega) (by first | assumption | omega) (fun hc => ?_) (fun hc => ?_)
      · skip
        refine nw_aload_n X d_Set_empty_28 rfl (lv_at hl 0 rfl) ?_
        refine nw_iconst X 0 d_Set_empty_29 (by decide) ?_
        refine pf_Set_19 X V h13 (by first | assumption | omega) d_Set_empty_30 (fun H locs V => ?_)
        exact hret _ _ _ _ _ d_Set_empty_33 V (es_none (show k = q.length by omega) hfr hM)
      · skip
        refine nw_aload_n X d_Set_empty_10 rfl (lv_at hl 0 rfl) ?_
        refine gf_Set_9 X V h13 d_Set_empty_11 ?_
        refine nw_aload_n X d_Set_empty_14 rfl (lv_at hl 0 rfl) ?_
        refine gf_Set_15 X V h13 d_Set_empty_15 ?_
        refine nw_iload_n X d_Set_empty_18 rfl (lv_at hl 1 rfl) ?_
        refine hw_iald X V h15 0 rfl rfl (by first | assumption | omega) (by first | assumption | omega) d_Set_empty_19 ?_
        rw [hfr (15, j) (hw_ne (by decide)), hE.2.2.2.1 k hc]
        refine nw_iconst X 0 d_Set_empty_20 (by decide) ?_
        refine hw_zast X V h14 1 (fun _ => rfl) rfl (hE.2.1 _ (ls_at_mem hc)) (by omega) (by decide) d_Set_empty_21 (fun H locs V => ?_)
        refine nw_iinc X (lv' := [(1, _), (0, _)]) (k := 1) 1 d_Set_empty_22 hl rfl (by decide) (by decide) rfl (fun ls hl => ?_)
        refine nw_goto X (tgt := 2) d_Set_empty_25 (by decide) ?_
        exact IH (k + 1) _ _ _ _ (by omega) hc (fun u hu => (hw_up_k _ _ _ hu).trans (hfr u hu)) (es_unm hM) V (lv_sub hl [1, 0] rfl)
  exact LP2 (q.length + 1) 0 σ _ _ _ (by omega) (Nat.zero_le _) (fun _ _ => rfl) (es_unm0 hE) V (lv_sub hl [1, 0] rfl)
set_option maxHeartbeats 4000000 in
set_option maxRecDepth 20000 in
theorem cm_Set_holds (l : Launch) (z : zz_Z) (σ : hw_M) (j : Nat) (q : List Nat) (h13 : zz_O z (13, j)) (h14 : zz_O z (14, j)) (h15 : zz_O z (15, j)) (hN : zz_N z ≤ 128) (hE : es_ok z σ j q) (a : Nat) (ha : a < zz_N z) : Met l y_Set_holds (hw_c y_Set_holds b_Set_holds 2 (some .boolean)) (hw_r 0) (va_Pc [.ref (zz_A z (13, j)), .int (nI a)] (zz_B z σ)) (va_Qi (fun r σ' => ∃ b, b < 2 ∧ r = nI b ∧ (fun b σ' => σ' = σ ∧ b = if a ∈ q then 1 else 0) b σ') (zz_B z) (zz_F z)) 0 0 (zz_F z) := by
  refine hw_metz (post := (fun b σ' => σ' = σ ∧ b = if a ∈ q then 1 else 0)) (by decide) (Nat.le_of_ble_eq_true rfl) ?_
  intro p e s m args below meth c ls Q X hret V hl
  have hl : lv_has ls 2 [(0, .ref (zz_A z (13, j))), (1, .int (nI a))] := hl
  have hB := V.1.2.2
  refine nw_aload_n X d_Set_holds_0 rfl (lv_at hl 0 rfl) ?_
  refine gf_Set_9 X V h13 d_Set_holds_1 ?_
  refine nw_iload_n X d_Set_holds_4 rfl (lv_at hl 1 rfl) ?_
  refine hw_zald X V h14 1 rfl rfl ha (by omega) d_Set_holds_5 ?_
  exact hret _ _ _ _ _ _ d_Set_holds_6 V (es_mark hE ha).2 ⟨rfl, hE.2.2.2.2 a ha⟩
set_option maxHeartbeats 4000000 in
set_option maxRecDepth 20000 in
theorem cm_Set_amount (l : Launch) (z : zz_Z) (σ : hw_M) (j : Nat) (q : List Nat) (h13 : zz_O z (13, j)) (h14 : zz_O z (14, j)) (h15 : zz_O z (15, j)) (hN : zz_N z ≤ 128) (hE : es_ok z σ j q)  : Met l y_Set_amount (hw_c y_Set_amount b_Set_amount 1 (some .int)) (hw_r 0) (va_Pc [.ref (zz_A z (13, j))] (zz_B z σ)) (va_Qi (fun r σ' => σ' = σ ∧ r = nI q.length) (zz_B z) (zz_F z)) 0 0 (zz_F z) := by
  refine hw_meti (post := (fun r σ' => σ' = σ ∧ r = nI q.length)) (by decide) (Nat.le_of_ble_eq_true rfl) ?_
  intro p e s m args below meth c ls Q X hret V hl
  have hl : lv_has ls 1 [(0, .ref (zz_A z (13, j)))] := hl
  have hB := V.1.2.2
  refine nw_aload_n X d_Set_amount_0 rfl (lv_at hl 0 rfl) ?_
  refine gf_Set_19 X V h13 d_Set_amount_1 ?_
  exact hret _ _ _ _ _ _ d_Set_amount_4 V ⟨rfl, by rw [hE.2.2.1]⟩
set_option maxHeartbeats 4000000 in
set_option maxRecDepth 20000 in
theorem cm_Set_member (l : Launch) (z : zz_Z) (σ : hw_M) (j : Nat) (q : List Nat) (h13 : zz_O z (13, j)) (h14 : zz_O z (14, j)) (h15 : zz_O z (15, j)) (hN : zz_N z ≤ 128) (hE : es_ok z σ j q) (k : Nat) (hk : k < q.length) : Met l y_Set_member (hw_c y_Set_member b_Set_member 2 (some .int)) (hw_r 0) (va_Pc [.ref (zz_A z (13, j)), .int (nI k)] (zz_B z σ)) (va_Qi (fun r σ' => σ' = σ ∧ r = nI (q.getD k 0)) (zz_B z) (zz_F z)) 0 0 (zz_F z) := by
  refine hw_meti (post := (fun r σ' => σ' = σ ∧ r = nI (q.getD k 0))) (by decide) (Nat.le_of_ble_eq_true rfl) ?_
  intro p e s m args below meth c ls Q X hret V hl
  have hl : lv_has ls 2 [(0, .ref (zz_A z (13, j))), (1, .int (nI k))] := hl
  have hB := V.1.2.2
  have hlen := es_len hE
  refine nw_aload_n X d_Set_member_0 rfl (lv_at hl 0 rfl) ?_
  refine gf_Set_15 X V h13 d_Set_member_1 ?_
  refine nw_iload_n X d_Set_member_4 rfl (lv_at hl 1 rfl) ?_
  refine hw_iald X V h15 0 rfl rfl (by omega) (by omega) d_Set_member_5 ?_
  exact hret _ _ _ _ _ _ d_Set_member_6 V ⟨rfl, by rw [hE.2.2.2.1 k hk]⟩
set_option maxHeartbeats 4000000 in
set_option maxRecDepth 20000 in
theorem cm_Set_least (l : Launch) (z : zz_Z) (σ : hw_M) (j : Nat) (q : List Nat) (h13 : zz_O z (13, j)) (h14 : zz_O z (14, j)) (h15 : zz_O z (15, j)) (hN : zz_N z ≤ 128) (hE : es_ok z σ j q) (hx : ∃ x, x ∈ q) : Met l y_Set_least (hw_c y_Set_least b_Set_least 2 (some .int)) (hw_r 0) (va_Pc [.ref (zz_A z (13, j))] (zz_B z σ)) (va_Qi (fun r σ' => σ' = σ ∧ ∃ v, r = nI v ∧ v ∈ q ∧ ∀ x, x ∈ q → v ≤ x) (zz_B z) (zz_F z)) 0 0 (zz_F z) := by
  refine hw_meti (post := (fun r σ' => σ' = σ ∧ ∃ v, r = nI v ∧ v ∈ q ∧ ∀ x, x ∈ q → v ≤ x)) (by decide) (Nat.le_of_ble_eq_true rfl) ?_
  intro p e s m args below meth c ls Q X hret V hl
  have hl : lv_has ls 2 [(0, .ref (zz_A z (13, j)))] := hl
  have hB := V.1.2.2
  refine nw_iconst X 0 d_Set_least_0 (by decide) ?_
  refine nw_istore_n X (lv' := [(1, _), (0, _)]) d_Set_least_1 rfl hl (by decide) rfl (fun ls hl => ?_)
  have LP2 : ∀ (d k : Nat) (ls : Array Slot), zz_N z - k < d → k ≤ zz_N z → (∀ x, x ∈ q → k ≤ x) → lv_has ls 2 [(0, .ref (zz_A z (13, j))), (1, .int (nI k))] →  W p l e (hw_r 0) s m args below meth c s.heap [] 0 0 Q (F0 m 2 ls []) := by
    intro d
    induction d with
    | zero => intro k ls hd; exact absurd hd (Nat.not_lt_zero _)
    | succ d IH =>
      intro k ls hd hk hM hl
      refine nw_iload_n X d_Set_least_2 rfl (lv_at hl 1 rfl) ?_
      refine nw_aload_n X d_Set_least_3 rfl (lv_at hl 0 rfl) ?_
      refine gf_Set_9 X V h13 d_Set_least_4 ?_
      refine hw_alen X V h14 1 rfl rfl d_Set_least_7 ?_
      refine nw_icmp_ge X (tgt := 28) d_Set_least_8 (by decide) (by omega) (by show zz_N z < _; omega) (fun hc => ?_) (fun hc => ?_)
      · skip
        obtain ⟨x, hx⟩ := hx
        have h1 := hM x hx
        have h2 := hE.2.1 x hx
        omega
      · skip
        have hc : k < zz_N z := hc
        refine nw_aload_n X d_Set_least_11 rfl (lv_at hl 0 rfl) ?_
        refine gf_Set_9 X V h13 d_Set_least_12 ?_
        refine nw_iload_n X d_Set_least_15 rfl (lv_at hl 1 rfl) ?_
        refine hw_zald X V h14 1 rfl rfl hc (by omega) d_Set_least_16 ?_
        refine nw_if_eq X (tgt := 22) d_Set_least_17 (by decide) (hB _ _) (fun h0 => ?_) (fun h0 => ?_)
        · skip
          have hno : k ∉ q := (es_mark hE hc).1.mp h0
          refine nw_iinc X (lv' := [(1, _), (0, _)]) (k := 1) 1 d_Set_least_22 hl rfl (by decide) (by decide) rfl (fun ls hl => ?_)
          refine nw_goto X (tgt := 2) d_Set_least_25 (by decide) ?_
          exact IH (k + 1) _ (by omega) hc (fun x hx => Nat.lt_of_le_of_ne (hM x hx) (fun e => hno (by rw [e]; exact hx))) (lv_sub hl [1, 0] rfl)
        · skip
          refine nw_iload_n X d_Set_least_20 rfl (lv_at hl 1 rfl) ?_
          exact hret _ _ _ _ _ _ d_Set_least_21 V ⟨rfl, k, rfl, Classical.byContradiction fun h => h0 ((es_mark hE hc).1.mpr h), hM⟩
  exact LP2 (zz_N z + 1) 0 _ (by omega) (Nat.zero_le _) (fun _ _ => Nat.zero_le _) (lv_sub hl [1, 0] rfl)
end
section
/-! The Collector: contracts. By program (wip/whole/gen/col.py). -/
set_option maxHeartbeats 4000000 in
set_option maxRecDepth 20000 in
theorem cm_Col_letterCount (l : Launch) (z : zz_Z) (σ : hw_M) (hz : ∀ k, zz_k (zz_n z) k → zz_O z k) (hS : st_ok z σ) : Met l y_Col_letterCount (hw_c y_Col_letterCount b_Col_letterCount 1 (some .int)) (hw_r 0) (va_Pc [.ref (zz_A z (1, 0))] (zz_B z σ)) (va_Qi (fun r σ' => σ' = σ ∧ r = nI (zz_n z)) (zz_B z) (zz_F z)) 0 0 (zz_F z) := by
  refine hw_meti (post := (fun r σ' => σ' = σ ∧ r = nI (zz_n z))) (by decide) (Nat.le_of_ble_eq_true rfl) ?_
  intro p e s m args below meth c ls Q X hret V hl
  have hl : lv_has ls 1 [(0, .ref (zz_A z (1, 0)))] := hl
  have hB := V.1.2.2
  obtain ⟨hn7, hN, hn, hNe, hw, hsz, hln⟩ := hS
  refine nw_aload_n X d_Col_letterCount_0 rfl (lv_at hl 0 rfl) ?_
  refine gf_Col_7 X V (hz (1, 0) (by first | exact rfl | assumption | exact (by omega : _ < _))) d_Col_letterCount_1 ?_
  rw [hn]
  exact hret _ _ _ _ _ _ d_Col_letterCount_4 V ⟨rfl, rfl⟩
set_option maxHeartbeats 4000000 in
set_option maxRecDepth 20000 in
theorem cm_Col_elementCount (l : Launch) (z : zz_Z) (σ : hw_M) (h1 : zz_O z (1, 0)) : Met l y_Col_elementCount (hw_c y_Col_elementCount b_Col_elementCount 1 (some .int)) (hw_r 0) (va_Pc [.ref (zz_A z (1, 0))] (zz_B z σ)) (va_Qi (fun r σ' => σ' = σ ∧ r = nI (σ (1, 0) 1)) (zz_B z) (zz_F z)) 0 0 (zz_F z) := by
  refine hw_meti (post := (fun r σ' => σ' = σ ∧ r = nI (σ (1, 0) 1))) (by decide) (Nat.le_of_ble_eq_true rfl) ?_
  intro p e s m args below meth c ls Q X hret V hl
  have hl : lv_has ls 1 [(0, .ref (zz_A z (1, 0)))] := hl
  have hB := V.1.2.2
  refine nw_aload_n X d_Col_elementCount_0 rfl (lv_at hl 0 rfl) ?_
  refine gf_Col_35 X V h1 d_Col_elementCount_1 ?_
  exact hret _ _ _ _ _ _ d_Col_elementCount_4 V ⟨rfl, rfl⟩
set_option maxHeartbeats 4000000 in
set_option maxRecDepth 20000 in
theorem cm_Col_isLetter (l : Launch) (z : zz_Z) (σ : hw_M) (hz : ∀ k, zz_k (zz_n z) k → zz_O z k) (hS : st_ok z σ) (x : Int32) : Met l y_Col_isLetter (hw_c y_Col_isLetter b_Col_isLetter 2 (some .boolean)) (hw_r 0) (va_Pc [.ref (zz_A z (1, 0)), .int x] (zz_B z σ)) (va_Qi (fun r σ' => ∃ b, b < 2 ∧ r = nI b ∧ (fun b σ' => σ' = σ ∧ (b = 1 ↔ ∃ j, j < zz_n z ∧ x = nI j)) b σ') (zz_B z) (zz_F z)) 0 0 (zz_F z) := by
  refine hw_metz (post := (fun b σ' => σ' = σ ∧ (b = 1 ↔ ∃ j, j < zz_n z ∧ x = nI j))) (by decide) (Nat.le_of_ble_eq_true rfl) ?_
  intro p e s m args below meth c ls Q X hret V hl
  have hl : lv_has ls 2 [(0, .ref (zz_A z (1, 0))), (1, .int x)] := hl
  have hB := V.1.2.2
  obtain ⟨hn7, hN, hn, hNe, hw, hsz, hln⟩ := hS
  refine nw_iload_n X d_Col_isLetter_0 rfl (lv_at hl 1 rfl) ?_
  refine lv_if_lt (tgt := 16) X.1.1 X.1.2.1 d_Col_isLetter_1 (by decide) (fun hc => ?_) (fun hc => ?_)
  · skip
    have hno : ¬ ∃ j, j < zz_n z ∧ x = nI j := fun ⟨j, hj, e⟩ => by rw [e] at hc; exact nI_pos (by omega) hc
    refine nw_iconst X 0 d_Col_isLetter_16 (by decide) ?_
    exact hret 0 _ _ _ _ _ d_Col_isLetter_17 V (by decide) ⟨rfl, fun q => absurd q (by decide), fun q => absurd q hno⟩
  · skip
    have h0 := hc
    refine nw_iload_n X d_Col_isLetter_4 rfl (lv_at hl 1 rfl) ?_
    refine nw_aload_n X d_Col_isLetter_5 rfl (lv_at hl 0 rfl) ?_
    refine gf_Col_7 X V (hz (1, 0) (by first | exact rfl | assumption | exact (by omega : _ < _))) d_Col_isLetter_6 ?_
    rw [hn]
    refine lv_icmp_ge (tgt := 16) X.1.1 X.1.2.1 d_Col_isLetter_9 (by decide) (fun hc => ?_) (fun hc => ?_)
    · skip
      have hno : ¬ ∃ j, j < zz_n z ∧ x = nI j := fun ⟨j, hj, e⟩ => by rw [e] at hc; exact nI_ge hj (by omega) hc
      refine nw_iconst X 0 d_Col_isLetter_16 (by decide) ?_
      exact hret 0 _ _ _ _ _ d_Col_isLetter_17 V (by decide) ⟨rfl, fun q => absurd q (by decide), fun q => absurd q hno⟩
    · skip
      have hyes : ∃ j, j < zz_n z ∧ x = nI j := by
        rcases pk_ix x (n := zz_n z) (by omega) with h | h | h
        · exact absurd h h0
        · exact absurd h hc
        · exact h
      refine nw_iconst X 1 d_Col_isLetter_12 (by decide) ?_
      refine nw_goto X (tgt := 17) d_Col_isLetter_13 (by decide) ?_
      exact hret 1 _ _ _ _ _ d_Col_isLetter_17 V (by decide) ⟨rfl, fun _ => hyes, fun _ => rfl⟩
set_option maxHeartbeats 4000000 in
set_option maxRecDepth 20000 in
theorem cm_Col_letter (l : Launch) (z : zz_Z) (σ : hw_M) (hz : ∀ k, zz_k (zz_n z) k → zz_O z k) (hS : st_ok z σ) (j : Nat) (hj : j < zz_n z) : Met l y_Col_letter (hw_c y_Col_letter b_Col_letter 2 (some .int)) (hw_r 0) (va_Pc [.ref (zz_A z (1, 0)), .int (nI j)] (zz_B z σ)) (va_Qi (fun r σ' => σ' = σ ∧ r = nI (σ (3, 0) j)) (zz_B z) (zz_F z)) 0 0 (zz_F z) := by
  refine hw_meti (post := (fun r σ' => σ' = σ ∧ r = nI (σ (3, 0) j))) (by decide) (Nat.le_of_ble_eq_true rfl) ?_
  intro p e s m args below meth c ls Q X hret V hl
  have hl : lv_has ls 2 [(0, .ref (zz_A z (1, 0))), (1, .int (nI j))] := hl
  have hB := V.1.2.2
  obtain ⟨hn7, hN, hn, hNe, hw, hsz, hln⟩ := hS
  refine nw_aload_n X d_Col_letter_0 rfl (lv_at hl 0 rfl) ?_
  refine gf_Col_17 X V (hz (1, 0) (by first | exact rfl | assumption | exact (by omega : _ < _))) d_Col_letter_1 ?_
  refine nw_iload_n X d_Col_letter_4 rfl (lv_at hl 1 rfl) ?_
  refine hw_iald X V (hz (3, 0) (by first | exact rfl | assumption | exact (by omega : _ < _))) 0 rfl rfl hj (by omega) d_Col_letter_5 ?_
  exact hret _ _ _ _ _ _ d_Col_letter_6 V ⟨rfl, rfl⟩
set_option maxHeartbeats 4000000 in
set_option maxRecDepth 20000 in
theorem cm_Col_isWordBehind (l : Launch) (z : zz_Z) (σ : hw_M) (hz : ∀ k, zz_k (zz_n z) k → zz_O z k) (hS : st_ok z σ) (x y : Int32) : Met l y_Col_isWordBehind (hw_c y_Col_isWordBehind b_Col_isWordBehind 3 (some .boolean)) (hw_r 1) (va_Pc [.ref (zz_A z (1, 0)), .int x, .int y] (zz_B z σ)) (va_Qi (fun r σ' => ∃ b, b < 2 ∧ r = nI b ∧ (fun b σ' => σ' = σ ∧ (b = 1 ↔ ∃ j v, j < zz_n z ∧ x = nI j ∧ v < σ (3, 0) j ∧ y = nI v)) b σ') (zz_B z) (zz_F z)) 0 0 (zz_F z) := by
  refine hw_metz (post := (fun b σ' => σ' = σ ∧ (b = 1 ↔ ∃ j v, j < zz_n z ∧ x = nI j ∧ v < σ (3, 0) j ∧ y = nI v))) (by decide) (Nat.le_of_ble_eq_true rfl) ?_
  intro p e s m args below meth c ls Q X hret V hl
  have hl : lv_has ls 3 [(0, .ref (zz_A z (1, 0))), (1, .int x), (2, .int y)] := hl
  have hB := V.1.2.2
  have hS0 := hS
  obtain ⟨hn7, hN, hn, hNe, hw, hsz, hln⟩ := hS0
  refine nw_aload_n X d_Col_isWordBehind_0 rfl (lv_at hl 0 rfl) ?_
  refine nw_iload_n X d_Col_isWordBehind_1 rfl (lv_at hl 1 rfl) ?_
  refine hw_calli X V (hz (1, 0) (by first | exact rfl | assumption | exact (by omega : _ < _))) rfl rfl (cm_Col_isLetter l z σ hz hS x) cs_Col_38 (by decide) rfl hl.1 rfl (Nat.le_of_ble_eq_true rfl) (by decide) d_Col_isWordBehind_2 (fun r σ' H locs V hr => ?_)
  obtain ⟨b, hb2, rfl, hσ, hbp⟩ := hr
  rw [hσ] at V
  clear hσ
  have hB := V.1.2.2
  refine nw_if_eq X (tgt := 26) d_Col_isWordBehind_5 (by decide) (by omega) (fun hc => ?_) (fun hc => ?_)
  · skip
    have hno : ¬ ∃ j v, j < zz_n z ∧ x = nI j ∧ v < σ (3, 0) j ∧ y = nI v := fun ⟨j, v, h1, h2, _⟩ => by have := hbp.mpr ⟨j, h1, h2⟩; omega
    refine nw_iconst X 0 d_Col_isWordBehind_26 (by decide) ?_
    exact hret 0 _ _ _ _ _ d_Col_isWordBehind_27 V (by decide) ⟨rfl, fun q => absurd q (by decide), fun q => absurd q hno⟩
  · skip
    obtain ⟨j, hj, rfl⟩ := hbp.mp (show b = 1 by omega)
    have hu : ∀ i, i < zz_n z → nI j = nI i → j = i := fun i hi q => (nI_eq (by omega) (by omega)).mp q
    refine nw_iload_n X d_Col_isWordBehind_8 rfl (lv_at hl 2 rfl) ?_
    refine lv_if_lt (tgt := 26) X.1.1 X.1.2.1 d_Col_isWordBehind_9 (by decide) (fun hc => ?_) (fun hc => ?_)
    · skip
      have hno : ¬ ∃ i v, i < zz_n z ∧ nI j = nI i ∧ v < σ (3, 0) i ∧ y = nI v := fun ⟨i, v, h1, h2, h3, h4⟩ => by
        rw [h4] at hc
        have := hB (3, 0) i
        exact nI_pos (by omega) hc
      refine nw_iconst X 0 d_Col_isWordBehind_26 (by decide) ?_
      exact hret 0 _ _ _ _ _ d_Col_isWordBehind_27 V (by decide) ⟨rfl, fun q => absurd q (by decide), fun q => absurd q hno⟩
    · skip
      have h0 := hc
      refine nw_iload_n X d_Col_isWordBehind_12 rfl (lv_at hl 2 rfl) ?_
      refine nw_aload_n X d_Col_isWordBehind_13 rfl (lv_at hl 0 rfl) ?_
      refine gf_Col_17 X V (hz (1, 0) (by first | exact rfl | assumption | exact (by omega : _ < _))) d_Col_isWordBehind_14 ?_
      refine nw_iload_n X d_Col_isWordBehind_17 rfl (lv_at hl 1 rfl) ?_
      refine hw_iald X V (hz (3, 0) (by first | exact rfl | assumption | exact (by omega : _ < _))) 0 rfl rfl hj (by omega) d_Col_isWordBehind_18 ?_
      refine lv_icmp_ge (tgt := 26) X.1.1 X.1.2.1 d_Col_isWordBehind_19 (by decide) (fun hc => ?_) (fun hc => ?_)
      · skip
        have hno : ¬ ∃ i v, i < zz_n z ∧ nI j = nI i ∧ v < σ (3, 0) i ∧ y = nI v := fun ⟨i, v, h1, h2, h3, h4⟩ => by
          have e := hu i h1 h2
          subst e
          rw [h4] at hc
          exact nI_ge h3 (hB _ _) hc
        refine nw_iconst X 0 d_Col_isWordBehind_26 (by decide) ?_
        exact hret 0 _ _ _ _ _ d_Col_isWordBehind_27 V (by decide) ⟨rfl, fun q => absurd q (by decide), fun q => absurd q hno⟩
      · skip
        have hyes : ∃ i v, i < zz_n z ∧ nI j = nI i ∧ v < σ (3, 0) i ∧ y = nI v := by
          rcases pk_ix y (n := σ (3, 0) j) (hB _ _) with h | h | h
          · exact absurd h h0
          · exact absurd h hc
          · obtain ⟨v, hv, e⟩ := h
            exact ⟨j, v, hj, rfl, hv, e⟩
        refine nw_iconst X 1 d_Col_isWordBehind_22 (by decide) ?_
        refine nw_goto X (tgt := 27) d_Col_isWordBehind_23 (by decide) ?_
        exact hret 1 _ _ _ _ _ d_Col_isWordBehind_27 V (by decide) ⟨rfl, fun _ => hyes, fun _ => rfl⟩
set_option maxHeartbeats 4000000 in
set_option maxRecDepth 20000 in
theorem cm_Col_setPower (l : Launch) (z : zz_Z) (σ : hw_M) (hz : ∀ k, zz_k (zz_n z) k → zz_O z k) (hS : st_ok z σ) (j v : Nat) (hj : j < zz_n z) (hv : v < 2147483648) : Met l y_Col_setPower (hw_c y_Col_setPower b_Col_setPower 3 none) (hw_r 0) (va_Pc [.ref (zz_A z (1, 0)), .int (nI j), .int (nI v)] (zz_B z σ)) (va_Qv (fun σ' => σ' = hw_up σ (4, 0) j v) (zz_B z) (zz_F z)) 0 0 (zz_F z) := by
  refine hw_metv (post := (fun σ' => σ' = hw_up σ (4, 0) j v)) (by decide) (Nat.le_of_ble_eq_true rfl) ?_
  intro p e s m args below meth c ls Q X hret V hl
  have hl : lv_has ls 3 [(0, .ref (zz_A z (1, 0))), (1, .int (nI j)), (2, .int (nI v))] := hl
  have hB := V.1.2.2
  obtain ⟨hn7, hN, hn, hNe, hw, hsz, hln⟩ := hS
  refine nw_aload_n X d_Col_setPower_0 rfl (lv_at hl 0 rfl) ?_
  refine gf_Col_20 X V (hz (1, 0) (by first | exact rfl | assumption | exact (by omega : _ < _))) d_Col_setPower_1 ?_
  refine nw_iload_n X d_Col_setPower_4 rfl (lv_at hl 1 rfl) ?_
  refine nw_iload_n X d_Col_setPower_5 rfl (lv_at hl 2 rfl) ?_
  refine hw_iast X V (hz (4, 0) (by first | exact rfl | assumption | exact (by omega : _ < _))) 0 (fun _ => rfl) rfl hj (by omega) hv d_Col_setPower_6 (fun H locs V => ?_)
  exact hret _ _ _ _ _ d_Col_setPower_7 V rfl
set_option maxHeartbeats 4000000 in
set_option maxRecDepth 20000 in
theorem cm_Col_setConjugate (l : Launch) (z : zz_Z) (σ : hw_M) (hz : ∀ k, zz_k (zz_n z) k → zz_O z k) (hS : st_ok z σ) (i j v : Nat) (hi : i < zz_n z) (hj : j < zz_n z) (hv : v < 2147483648) : Met l y_Col_setConjugate (hw_c y_Col_setConjugate b_Col_setConjugate 4 none) (hw_r 0) (va_Pc [.ref (zz_A z (1, 0)), .int (nI i), .int (nI j), .int (nI v)] (zz_B z σ)) (va_Qv (fun σ' => σ' = hw_up σ (6, i) j v) (zz_B z) (zz_F z)) 0 0 (zz_F z) := by
  refine hw_metv (post := (fun σ' => σ' = hw_up σ (6, i) j v)) (by decide) (Nat.le_of_ble_eq_true rfl) ?_
  intro p e s m args below meth c ls Q X hret V hl
  have hl : lv_has ls 4 [(0, .ref (zz_A z (1, 0))), (1, .int (nI i)), (2, .int (nI j)), (3, .int (nI v))] := hl
  have hB := V.1.2.2
  obtain ⟨hn7, hN, hn, hNe, hw, hsz, hln⟩ := hS
  refine nw_aload_n X d_Col_setConjugate_0 rfl (lv_at hl 0 rfl) ?_
  refine gf_Col_25 X V (hz (1, 0) (by first | exact rfl | assumption | exact (by omega : _ < _))) d_Col_setConjugate_1 ?_
  refine nw_iload_n X d_Col_setConjugate_4 rfl (lv_at hl 1 rfl) ?_
  refine hw_aald X V (hz (5, 0) (by first | exact rfl | assumption | exact (by omega : _ < _))) 2 rfl rfl rfl hi (by omega) rfl d_Col_setConjugate_5 ?_
  refine nw_iload_n X d_Col_setConjugate_6 rfl (lv_at hl 2 rfl) ?_
  refine nw_iload_n X d_Col_setConjugate_7 rfl (lv_at hl 3 rfl) ?_
  refine hw_iast X V (hz (6, i) (by first | exact rfl | assumption | exact (by omega : _ < _))) 0 (fun _ => rfl) rfl hj (by omega) hv d_Col_setConjugate_8 (fun H locs V => ?_)
  exact hret _ _ _ _ _ d_Col_setConjugate_9 V rfl
set_option maxHeartbeats 4000000 in
set_option maxRecDepth 20000 in
theorem cm_Col_multiplyFrom (l : Launch) (z : zz_Z) (σ : hw_M) (hz : ∀ k, zz_k (zz_n z) k → zz_O z k) (f a b : Nat) (hf : f ≤ zz_n z) (hL : lo_ok z σ f) (ha : a < mo_z z σ (zz_n z - f)) (hb : b < mo_z z σ (zz_n z - f)) : Met l y_Col_multiplyFrom (hw_c y_Col_multiplyFrom b_Col_multiplyFrom 12 (some .int)) (hw_r 0) (va_Pc [.ref (zz_A z (1, 0)), .int (nI f), .int (nI a), .int (nI b)] (zz_B z σ)) (va_Qi (fun r σ' => σ' = σ ∧ r = nI (mo_p z σ (zz_n z - f) a b)) (zz_B z) (zz_F z)) 0 0 (zz_F z) := by
  refine hw_meti (post := (fun r σ' => σ' = σ ∧ r = nI (mo_p z σ (zz_n z - f) a b))) (by decide) (Nat.le_of_ble_eq_true rfl) ?_
  intro p e s m args below meth c ls Q X hret V hl
  have hl : lv_has ls 12 [(0, .ref (zz_A z (1, 0))), (1, .int (nI f)), (2, .int (nI a)), (3, .int (nI b))] := hl
  have hB := V.1.2.2
  obtain ⟨⟨hn7, hN, hn, hNe, hw, hsz, hln⟩, hk, ht⟩ := id hL
  refine nw_iload_n X d_Col_multiplyFrom_0 rfl (lv_at hl 2 rfl) ?_
  refine nw_istore X (lv' := [(4, _), (0, _), (1, _), (2, _), (3, _)]) d_Col_multiplyFrom_1 hl (by decide) rfl (fun ls hl => ?_)
  refine nw_iload_n X d_Col_multiplyFrom_3 rfl (lv_at hl 4 rfl) ?_
  refine nw_istore X (lv' := [(5, _), (4, _), (0, _), (1, _), (2, _), (3, _)]) d_Col_multiplyFrom_4 hl (by decide) rfl (fun ls hl => ?_)
  refine nw_iconst X 0 d_Col_multiplyFrom_6 (by decide) ?_
  refine nw_istore X (lv' := [(6, _), (5, _), (4, _), (0, _), (1, _), (2, _), (3, _)]) d_Col_multiplyFrom_7 hl (by decide) rfl (fun ls hl => ?_)
  refine nw_iload_n X d_Col_multiplyFrom_9 rfl (lv_at hl 4 rfl) ?_
  refine nw_istore X (lv' := [(7, _), (6, _), (5, _), (4, _), (0, _), (1, _), (2, _), (3, _)]) d_Col_multiplyFrom_10 hl (by decide) rfl (fun ls hl => ?_)
  have LP12 : ∀ (d i left right prod : Nat) (ls : Array Slot), zz_n z - i < d → (f ≤ i) → (i ≤ zz_n z) → (left < mo_z z σ (zz_n z - i)) → (right < mo_z z σ (zz_n z - i)) → (prod + mo_p z σ (zz_n z - i) left right = mo_p z σ (zz_n z - f) a b) →  lv_has ls 12 [(0, .ref (zz_A z (1, 0))), (4, .int (nI left)), (5, .int (nI right)), (6, .int (nI prod)), (7, .int (nI i))] →  W p l e (hw_r 0) s m args below meth c s.heap [] 0 0 Q (F0 m 12 ls []) := by
    intro d
    induction d with
    | zero => intro i left right prod ls hd; exact absurd hd (Nat.not_lt_zero _)
    | succ d IH12 =>
      intro i left right prod ls hd hfi hin ha1 hb1 hinv hl
      refine nw_iload X d_Col_multiplyFrom_12 (lv_at hl 4 rfl) ?_
      refine nw_aload_n X d_Col_multiplyFrom_14 rfl (lv_at hl 0 rfl) ?_
      refine gf_Col_7 X V (hz (1, 0) (by first | exact rfl | assumption | exact (by omega : _ < _))) d_Col_multiplyFrom_15 ?_
      rw [hn]
      refine nw_icmp_ge X (tgt := 134) d_Col_multiplyFrom_18 (by decide) (by first | assumption | omega) (by first | assumption | omega) (fun hc => ?_) (fun hc => ?_)
      · skip
        have ei : zz_n z - i = 0 := by omega
        rw [ei] at hinv
        have hinv : prod + 0 = _ := hinv
        rw [Nat.add_zero] at hinv
        refine nw_iload X d_Col_multiplyFrom_134 (lv_at hl 3 rfl) ?_
        exact hret _ _ _ _ _ _ d_Col_multiplyFrom_136 V ⟨rfl, by rw [hinv]⟩
      · skip
        have hi := hc
        have hq := st_lv hL.1 hi
        have hs := tw_step hw hi (hk.le (by omega)) (ht i (by omega) hi) ha1 hb1
        have ez := st_sz hL.1 hi
        have ha2 : left < σ (2, 0) i * σ (3, 0) i := by rw [← ez.1]; exact ha1
        have hb2 : right < σ (2, 0) i * σ (3, 0) i := by rw [← ez.1]; exact hb1
        refine nw_aload_n X d_Col_multiplyFrom_21 rfl (lv_at hl 0 rfl) ?_
        refine gf_Col_17 X V (hz (1, 0) (by first | exact rfl | assumption | exact (by omega : _ < _))) d_Col_multiplyFrom_22 ?_
        refine nw_iload X d_Col_multiplyFrom_25 (lv_at hl 4 rfl) ?_
        refine hw_iald X V (hz (3, 0) (by first | exact rfl | assumption | exact (by omega : _ < _))) 0 rfl rfl hi (by omega) d_Col_multiplyFrom_27 ?_
        refine nw_istore X (lv' := [(8, _), (0, _), (4, _), (5, _), (6, _), (7, _)]) d_Col_multiplyFrom_28 hl (by decide) rfl (fun ls hl => ?_)
        refine nw_iload X d_Col_multiplyFrom_30 (lv_at hl 3 rfl) ?_
        refine nw_iload X d_Col_multiplyFrom_32 (lv_at hl 0 rfl) ?_
        refine nw_irem X (by omega) (by omega) (by omega) d_Col_multiplyFrom_34 ?_
        refine nw_istore X (lv' := [(9, _), (8, _), (0, _), (4, _), (5, _), (6, _), (7, _)]) d_Col_multiplyFrom_35 hl (by decide) rfl (fun ls hl => ?_)
        refine nw_iload X d_Col_multiplyFrom_37 (lv_at hl 4 rfl) ?_
        refine nw_iload X d_Col_multiplyFrom_39 (lv_at hl 0 rfl) ?_
        refine nw_isub X (Nat.mod_le _ _) d_Col_multiplyFrom_41 ?_
        refine nw_iload X d_Col_multiplyFrom_42 (lv_at hl 3 rfl) ?_
        refine nw_iload X d_Col_multiplyFrom_44 (lv_at hl 1 rfl) ?_
        refine nw_irem X (by omega) (by omega) (by omega) d_Col_multiplyFrom_46 ?_
        refine nw_iadd X d_Col_multiplyFrom_47 ?_
        refine nw_istore X (lv' := [(10, _), (9, _), (8, _), (0, _), (4, _), (5, _), (6, _), (7, _)]) d_Col_multiplyFrom_48 hl (by decide) rfl (fun ls hl => ?_)
        refine nw_iload X d_Col_multiplyFrom_50 (lv_at hl 4 rfl) ?_
        refine nw_iload X d_Col_multiplyFrom_52 (lv_at hl 2 rfl) ?_
        refine nw_idiv X (by omega) (by omega) (by omega) d_Col_multiplyFrom_54 ?_
        refine nw_iload X d_Col_multiplyFrom_55 (lv_at hl 5 rfl) ?_
        refine nw_iload X d_Col_multiplyFrom_57 (lv_at hl 2 rfl) ?_
        refine nw_idiv X (by omega) (by omega) (by omega) d_Col_multiplyFrom_59 ?_
        refine nw_iadd X d_Col_multiplyFrom_60 ?_
        refine nw_istore X (lv' := [(11, _), (10, _), (9, _), (8, _), (0, _), (4, _), (5, _), (6, _), (7, _)]) d_Col_multiplyFrom_61 hl (by decide) rfl (fun ls hl => ?_)
        refine nw_iload X d_Col_multiplyFrom_63 (lv_at hl 0 rfl) ?_
        refine nw_aload_n X d_Col_multiplyFrom_65 rfl (lv_at hl 4 rfl) ?_
        refine gf_Col_13 X V (hz (1, 0) (by first | exact rfl | assumption | exact (by omega : _ < _))) d_Col_multiplyFrom_66 ?_
        refine nw_iload X d_Col_multiplyFrom_69 (lv_at hl 8 rfl) ?_
        refine hw_iald X V (hz (2, 0) (by first | exact rfl | assumption | exact (by omega : _ < _))) 0 rfl rfl hi (by omega) d_Col_multiplyFrom_71 ?_
        refine nw_icmp_lt X (tgt := 102) d_Col_multiplyFrom_72 (by decide) (by have := hs.2.1; have := hs.2.2.1; omega) (hB _ _) (fun hc => ?_) (fun hc => ?_)
        · skip
          have hr1 := hs.2.2.2.2.2 hc
          refine nw_aload_n X d_Col_multiplyFrom_102 rfl (lv_at hl 4 rfl) ?_
          refine gf_Col_29 X V (hz (1, 0) (by first | exact rfl | assumption | exact (by omega : _ < _))) d_Col_multiplyFrom_103 ?_
          refine nw_iload X d_Col_multiplyFrom_106 (lv_at hl 8 rfl) ?_
          refine hw_aald X V (hz (7, 0) (by first | exact rfl | assumption | exact (by omega : _ < _))) 2 rfl rfl rfl hi (by omega) rfl d_Col_multiplyFrom_108 ?_
          refine nw_iload X d_Col_multiplyFrom_109 (lv_at hl 1 rfl) ?_
          refine hw_iald X V (hz (8, i) (by first | exact rfl | assumption | exact (by omega : _ < _))) 0 rfl rfl (Nat.lt_of_lt_of_eq hs.1 hq.2.2.2.2.2.1.symm) (Nat.lt_of_le_of_lt (Nat.le_of_eq hq.2.2.2.2.2.1) (by omega)) d_Col_multiplyFrom_111 ?_
          refine nw_istore X (lv' := [(4, _), (11, _), (10, _), (9, _), (8, _), (0, _), (5, _), (6, _), (7, _)]) d_Col_multiplyFrom_112 hl (by decide) rfl (fun ls hl => ?_)
          refine nw_iload X d_Col_multiplyFrom_114 (lv_at hl 3 rfl) ?_
          refine nw_istore X (lv' := [(5, _), (4, _), (11, _), (10, _), (9, _), (8, _), (0, _), (6, _), (7, _)]) d_Col_multiplyFrom_116 hl (by decide) rfl (fun ls hl => ?_)
          refine nw_iload X d_Col_multiplyFrom_118 (lv_at hl 7 rfl) ?_
          refine nw_iload X d_Col_multiplyFrom_120 (lv_at hl 2 rfl) ?_
          refine nw_iload X d_Col_multiplyFrom_122 (lv_at hl 5 rfl) ?_
          refine nw_imul X d_Col_multiplyFrom_124 ?_
          refine nw_iadd X d_Col_multiplyFrom_125 ?_
          refine nw_istore X (lv' := [(6, _), (5, _), (4, _), (11, _), (10, _), (9, _), (8, _), (0, _), (7, _)]) d_Col_multiplyFrom_126 hl (by decide) rfl (fun ls hl => ?_)
          refine nw_iinc X (lv' := [(7, _), (6, _), (5, _), (4, _), (11, _), (10, _), (9, _), (8, _), (0, _)]) (k := 8) 1 d_Col_multiplyFrom_128 hl rfl (by decide) (by decide) rfl (fun ls hl => ?_)
          refine nw_goto X (tgt := 12) d_Col_multiplyFrom_131 (by decide) ?_
          exact IH12 (i + 1) _ _ _ _ (by omega) (by omega) hi (by rw [ez.2]; exact hr1.1) (by rw [ez.2]; exact hs.2.2.2.1) (by rw [← hinv, Nat.add_assoc]; exact congrArg (prod + ·) hr1.2.symm) (lv_sub hl [8, 3, 2, 1, 0] rfl)
        · skip
          have hr1 := hs.2.2.2.2.1 hc
          refine nw_iload X d_Col_multiplyFrom_75 (lv_at hl 0 rfl) ?_
          refine nw_aload_n X d_Col_multiplyFrom_77 rfl (lv_at hl 4 rfl) ?_
          refine gf_Col_13 X V (hz (1, 0) (by first | exact rfl | assumption | exact (by omega : _ < _))) d_Col_multiplyFrom_78 ?_
          refine nw_iload X d_Col_multiplyFrom_81 (lv_at hl 8 rfl) ?_
          refine hw_iald X V (hz (2, 0) (by first | exact rfl | assumption | exact (by omega : _ < _))) 0 rfl rfl hi (by omega) d_Col_multiplyFrom_83 ?_
          refine nw_isub X hc d_Col_multiplyFrom_84 ?_
          refine nw_istore X (lv' := [(11, _), (10, _), (9, _), (8, _), (0, _), (4, _), (5, _), (6, _), (7, _)]) d_Col_multiplyFrom_85 hl (by decide) rfl (fun ls hl => ?_)
          refine nw_aload_n X d_Col_multiplyFrom_87 rfl (lv_at hl 4 rfl) ?_
          refine gf_Col_32 X V (hz (1, 0) (by first | exact rfl | assumption | exact (by omega : _ < _))) d_Col_multiplyFrom_88 ?_
          refine nw_iload X d_Col_multiplyFrom_91 (lv_at hl 8 rfl) ?_
          refine hw_aald X V (hz (9, 0) (by first | exact rfl | assumption | exact (by omega : _ < _))) 2 rfl rfl rfl hi (by omega) rfl d_Col_multiplyFrom_93 ?_
          refine nw_iload X d_Col_multiplyFrom_94 (lv_at hl 1 rfl) ?_
          refine hw_iald X V (hz (10, i) (by first | exact rfl | assumption | exact (by omega : _ < _))) 0 rfl rfl (Nat.lt_of_lt_of_eq hs.1 hq.2.2.2.2.2.1.symm) (Nat.lt_of_le_of_lt (Nat.le_of_eq hq.2.2.2.2.2.1) (by omega)) d_Col_multiplyFrom_96 ?_
          refine nw_istore X (lv' := [(4, _), (11, _), (10, _), (9, _), (8, _), (0, _), (5, _), (6, _), (7, _)]) d_Col_multiplyFrom_97 hl (by decide) rfl (fun ls hl => ?_)
          refine nw_goto X (tgt := 114) d_Col_multiplyFrom_99 (by decide) ?_
          refine nw_iload X d_Col_multiplyFrom_114 (lv_at hl 3 rfl) ?_
          refine nw_istore X (lv' := [(5, _), (4, _), (11, _), (10, _), (9, _), (8, _), (0, _), (6, _), (7, _)]) d_Col_multiplyFrom_116 hl (by decide) rfl (fun ls hl => ?_)
          refine nw_iload X d_Col_multiplyFrom_118 (lv_at hl 7 rfl) ?_
          refine nw_iload X d_Col_multiplyFrom_120 (lv_at hl 2 rfl) ?_
          refine nw_iload X d_Col_multiplyFrom_122 (lv_at hl 5 rfl) ?_
          refine nw_imul X d_Col_multiplyFrom_124 ?_
          refine nw_iadd X d_Col_multiplyFrom_125 ?_
          refine nw_istore X (lv' := [(6, _), (5, _), (4, _), (11, _), (10, _), (9, _), (8, _), (0, _), (7, _)]) d_Col_multiplyFrom_126 hl (by decide) rfl (fun ls hl => ?_)
          refine nw_iinc X (lv' := [(7, _), (6, _), (5, _), (4, _), (11, _), (10, _), (9, _), (8, _), (0, _)]) (k := 8) 1 d_Col_multiplyFrom_128 hl rfl (by decide) (by decide) rfl (fun ls hl => ?_)
          refine nw_goto X (tgt := 12) d_Col_multiplyFrom_131 (by decide) ?_
          exact IH12 (i + 1) _ _ _ _ (by omega) (by omega) hi (by rw [ez.2]; exact hr1.1) (by rw [ez.2]; exact hs.2.2.2.1) (by rw [← hinv, Nat.add_assoc]; exact congrArg (prod + ·) hr1.2.symm) (lv_sub hl [8, 3, 2, 1, 0] rfl)
  exact LP12 (zz_n z - f + 1) f a b 0 _ (by omega) (Nat.le_refl _) hf ha hb (Nat.zero_add _) (lv_sub hl [4, 3, 2, 1, 0] rfl)
end
section
/-! The Collector: inverse, conjugates, orders. By program (wip/whole/gen/col2.py). -/
set_option maxHeartbeats 4000000 in
set_option maxRecDepth 20000 in
theorem cm_Col_inverseOf (l : Launch) (z : zz_Z) (σ : hw_M) (hz : ∀ k, zz_k (zz_n z) k → zz_O z k) (hL : lo_ok z σ 0) (a : Nat) (ha : a < zz_N z) : Met l y_Col_inverseOf (hw_c y_Col_inverseOf b_Col_inverseOf 8 (some .int)) (hw_r 0) (va_Pc [.ref (zz_A z (1, 0)), .int (nI a)] (zz_B z σ)) (va_Qi (fun r σ' => σ' = σ ∧ r = nI (gp_iv (zz_N z) (gr_p z σ) a)) (zz_B z) (zz_F z)) 0 0 (zz_F z) := by
  refine hw_meti (post := (fun r σ' => σ' = σ ∧ r = nI (gp_iv (zz_N z) (gr_p z σ) a))) (by decide) (Nat.le_of_ble_eq_true rfl) ?_
  intro p e s m args below meth c ls Q X hret V hl
  have hl : lv_has ls 8 [(0, .ref (zz_A z (1, 0))), (1, .int (nI a))] := hl
  have hB := V.1.2.2
  obtain ⟨⟨hn7, hN, hn, hNe, hw, hsz, hln⟩, hk, ht⟩ := id hL
  have ha0 : a < mo_z z σ (zz_n z - 0) := Nat.lt_of_lt_of_eq ha hsz
  refine nw_iload_n X d_Col_inverseOf_0 rfl (lv_at hl 1 rfl) ?_
  refine nw_istore_n X (lv' := [(2, _), (0, _), (1, _)]) d_Col_inverseOf_1 rfl hl (by decide) rfl (fun ls hl => ?_)
  refine nw_iconst X 0 d_Col_inverseOf_2 (by decide) ?_
  refine nw_istore_n X (lv' := [(3, _), (2, _), (0, _), (1, _)]) d_Col_inverseOf_3 rfl hl (by decide) rfl (fun ls hl => ?_)
  refine nw_iconst X 0 d_Col_inverseOf_4 (by decide) ?_
  refine nw_istore X (lv' := [(4, _), (3, _), (2, _), (0, _), (1, _)]) d_Col_inverseOf_5 hl (by decide) rfl (fun ls hl => ?_)
  have LP7 : ∀ (d i left inv : Nat) (ls : Array Slot), zz_n z - i < d → (i ≤ zz_n z) → (left < mo_z z σ (zz_n z - i)) → (inv + mo_i z σ (zz_n z - i) left = mo_i z σ (zz_n z) a) →  lv_has ls 8 [(0, .ref (zz_A z (1, 0))), (2, .int (nI left)), (3, .int (nI inv)), (4, .int (nI i))] →  W p l e (hw_r 0) s m args below meth c s.heap [] 0 0 Q (F0 m 7 ls []) := by
    intro d
    induction d with
    | zero => intro i left inv ls hd; exact absurd hd (Nat.not_lt_zero _)
    | succ d IH7 =>
      intro i left inv ls hd hin ha1 hinv hl
      refine nw_iload X d_Col_inverseOf_7 (lv_at hl 3 rfl) ?_
      refine nw_aload_n X d_Col_inverseOf_9 rfl (lv_at hl 0 rfl) ?_
      refine gf_Col_7 X V (hz (1, 0) (by first | exact rfl | assumption | exact (by omega : _ < _))) d_Col_inverseOf_10 ?_
      rw [hn]
      refine nw_icmp_ge X (tgt := 80) d_Col_inverseOf_13 (by decide) (by first | assumption | omega) (by first | assumption | omega) (fun hc => ?_) (fun hc => ?_)
      · skip
        have ei : zz_n z - i = 0 := by omega
        rw [ei] at hinv
        have hinv : inv + 0 = _ := hinv
        rw [Nat.add_zero] at hinv
        refine nw_iload_n X d_Col_inverseOf_80 rfl (lv_at hl 2 rfl) ?_
        exact hret _ _ _ _ _ _ d_Col_inverseOf_81 V ⟨rfl, by rw [hinv, mo_iv hL ha]⟩
      · skip
        have hi := hc
        have hq := st_lv hL.1 hi
        have hs := tw_istep hw hi (hk.le (by omega)) (ht i (by omega) hi) ha1
        have ez := st_sz hL.1 hi
        have ha2 : left < σ (2, 0) i * σ (3, 0) i := by rw [← ez.1]; exact ha1
        have he := hs.1
        refine nw_aload_n X d_Col_inverseOf_16 rfl (lv_at hl 0 rfl) ?_
        refine gf_Col_17 X V (hz (1, 0) (by first | exact rfl | assumption | exact (by omega : _ < _))) d_Col_inverseOf_17 ?_
        refine nw_iload X d_Col_inverseOf_20 (lv_at hl 3 rfl) ?_
        refine hw_iald X V (hz (3, 0) (by first | exact rfl | assumption | exact (by omega : _ < _))) 0 rfl rfl hi (by omega) d_Col_inverseOf_22 ?_
        refine nw_istore X (lv' := [(5, _), (0, _), (2, _), (3, _), (4, _)]) d_Col_inverseOf_23 hl (by decide) rfl (fun ls hl => ?_)
        refine nw_iload_n X d_Col_inverseOf_25 rfl (lv_at hl 2 rfl) ?_
        refine nw_iload X d_Col_inverseOf_26 (lv_at hl 0 rfl) ?_
        refine nw_idiv X (by omega) (by omega) (by omega) d_Col_inverseOf_28 ?_
        refine nw_istore X (lv' := [(6, _), (5, _), (0, _), (2, _), (3, _), (4, _)]) d_Col_inverseOf_29 hl (by decide) rfl (fun ls hl => ?_)
        refine nw_iload_n X d_Col_inverseOf_31 rfl (lv_at hl 3 rfl) ?_
        refine nw_iload X d_Col_inverseOf_32 (lv_at hl 1 rfl) ?_
        refine nw_irem X (by omega) (by omega) (by omega) d_Col_inverseOf_34 ?_
        refine nw_istore_n X (lv' := [(2, _), (6, _), (5, _), (0, _), (3, _), (4, _)]) d_Col_inverseOf_35 rfl hl (by decide) rfl (fun ls hl => ?_)
        refine nw_iload X d_Col_inverseOf_36 (lv_at hl 1 rfl) ?_
        refine nw_if_le X (tgt := 74) d_Col_inverseOf_38 (by decide) (by omega) (fun hc => ?_) (fun hc => ?_)
        · skip
          have hlt := hs.2.1
          have hr2 : inv + mo_i z σ (zz_n z - (i + 1)) (left % σ (3, 0) i) = mo_i z σ (zz_n z) a := by rw [← hinv]; exact congrArg (inv + ·) (hs.2.2.2 hc).symm
          refine nw_iinc X (lv' := [(4, _), (2, _), (6, _), (5, _), (0, _), (3, _)]) (k := 5) 1 d_Col_inverseOf_74 hl rfl (by decide) (by decide) rfl (fun ls hl => ?_)
          refine nw_goto X (tgt := 7) d_Col_inverseOf_77 (by decide) ?_
          exact IH7 (i + 1) _ _ _ (by omega) hi (by rw [ez.2]; exact hlt) hr2 (lv_sub hl [4, 1, 5, 0] rfl)
        · skip
          have h3 := hs.2.2.1 hc
          have hlt := h3.2.1
          have hr2 : inv + (σ (2, 0) i - left / σ (3, 0) i) * σ (3, 0) i + mo_i z σ (zz_n z - (i + 1)) (σ (10, i) ((σ (2, 0) i - left / σ (3, 0) i) * σ (3, 0) i + left % σ (3, 0) i)) = mo_i z σ (zz_n z) a := by rw [← hinv, Nat.add_assoc]; exact congrArg (inv + ·) h3.2.2.symm
          refine nw_aload_n X d_Col_inverseOf_41 rfl (lv_at hl 3 rfl) ?_
          refine gf_Col_13 X V (hz (1, 0) (by first | exact rfl | assumption | exact (by omega : _ < _))) d_Col_inverseOf_42 ?_
          refine nw_iload X d_Col_inverseOf_45 (lv_at hl 5 rfl) ?_
          refine hw_iald X V (hz (2, 0) (by first | exact rfl | assumption | exact (by omega : _ < _))) 0 rfl rfl hi (by omega) d_Col_inverseOf_47 ?_
          refine nw_iload X d_Col_inverseOf_48 (lv_at hl 1 rfl) ?_
          refine nw_isub X (by omega) d_Col_inverseOf_50 ?_
          refine nw_iload X d_Col_inverseOf_51 (lv_at hl 2 rfl) ?_
          refine nw_imul X d_Col_inverseOf_53 ?_
          refine nw_istore X (lv' := [(7, _), (2, _), (6, _), (5, _), (0, _), (3, _), (4, _)]) d_Col_inverseOf_54 hl (by decide) rfl (fun ls hl => ?_)
          refine nw_iload_n X d_Col_inverseOf_56 rfl (lv_at hl 5 rfl) ?_
          refine nw_iload X d_Col_inverseOf_57 (lv_at hl 0 rfl) ?_
          refine nw_iadd X d_Col_inverseOf_59 ?_
          refine nw_istore_n X (lv' := [(3, _), (7, _), (2, _), (6, _), (5, _), (0, _), (4, _)]) d_Col_inverseOf_60 rfl hl (by decide) rfl (fun ls hl => ?_)
          refine nw_aload_n X d_Col_inverseOf_61 rfl (lv_at hl 5 rfl) ?_
          refine gf_Col_32 X V (hz (1, 0) (by first | exact rfl | assumption | exact (by omega : _ < _))) d_Col_inverseOf_62 ?_
          refine nw_iload X d_Col_inverseOf_65 (lv_at hl 6 rfl) ?_
          refine hw_aald X V (hz (9, 0) (by first | exact rfl | assumption | exact (by omega : _ < _))) 2 rfl rfl rfl hi (by omega) rfl d_Col_inverseOf_67 ?_
          refine nw_iload X d_Col_inverseOf_68 (lv_at hl 1 rfl) ?_
          refine nw_iload_n X d_Col_inverseOf_70 rfl (lv_at hl 2 rfl) ?_
          refine nw_iadd X d_Col_inverseOf_71 ?_
          refine hw_iald X V (hz (10, i) (by first | exact rfl | assumption | exact (by omega : _ < _))) 0 rfl rfl (Nat.lt_of_lt_of_eq h3.1 hq.2.2.2.2.2.1.symm) (Nat.lt_of_le_of_lt (Nat.le_of_eq hq.2.2.2.2.2.1) (by omega)) d_Col_inverseOf_72 ?_
          refine nw_istore_n X (lv' := [(2, _), (3, _), (7, _), (6, _), (5, _), (0, _), (4, _)]) d_Col_inverseOf_73 rfl hl (by decide) rfl (fun ls hl => ?_)
          refine nw_iinc X (lv' := [(4, _), (2, _), (3, _), (7, _), (6, _), (5, _), (0, _)]) (k := 6) 1 d_Col_inverseOf_74 hl rfl (by decide) (by decide) rfl (fun ls hl => ?_)
          refine nw_goto X (tgt := 7) d_Col_inverseOf_77 (by decide) ?_
          exact IH7 (i + 1) _ _ _ (by omega) hi (by rw [ez.2]; exact hlt) hr2 (lv_sub hl [6, 1, 2, 0] rfl)
  exact LP7 (zz_n z + 1) 0 a 0 _ (by omega) (Nat.zero_le _) ha0 (Nat.zero_add _) (lv_sub hl [3, 2, 1, 0] rfl)
set_option maxHeartbeats 4000000 in
set_option maxRecDepth 20000 in
theorem cm_Col_multiply (l : Launch) (z : zz_Z) (σ : hw_M) (hz : ∀ k, zz_k (zz_n z) k → zz_O z k) (hL : lo_ok z σ 0) (a b : Nat) (ha : a < zz_N z) (hb : b < zz_N z) : Met l y_Col_multiply (hw_c y_Col_multiply b_Col_multiply 3 (some .int)) (hw_r 1) (va_Pc [.ref (zz_A z (1, 0)), .int (nI a), .int (nI b)] (zz_B z σ)) (va_Qi (fun r σ' => σ' = σ ∧ r = nI (gr_p z σ a b)) (zz_B z) (zz_F z)) 0 0 (zz_F z) := by
  refine hw_meti (post := (fun r σ' => σ' = σ ∧ r = nI (gr_p z σ a b))) (by decide) (Nat.le_of_ble_eq_true rfl) ?_
  intro p e s m args below meth c ls Q X hret V hl
  have hl : lv_has ls 3 [(0, .ref (zz_A z (1, 0))), (1, .int (nI a)), (2, .int (nI b))] := hl
  have hB := V.1.2.2
  obtain ⟨⟨hn7, hN, hn, hNe, hw, hsz, hln⟩, hk, ht⟩ := id hL
  refine nw_aload_n X d_Col_multiply_0 rfl (lv_at hl 0 rfl) ?_
  refine nw_iconst X 0 d_Col_multiply_1 (by decide) ?_
  refine nw_iload_n X d_Col_multiply_2 rfl (lv_at hl 1 rfl) ?_
  refine nw_iload_n X d_Col_multiply_3 rfl (lv_at hl 2 rfl) ?_
  refine hw_calli X V (hz (1, 0) (by first | exact rfl | assumption | exact (by omega : _ < _))) rfl rfl (cm_Col_multiplyFrom l z σ hz 0 a b (Nat.zero_le _) hL (Nat.lt_of_lt_of_eq ha hsz) (Nat.lt_of_lt_of_eq hb hsz)) cs_Col_58 (by decide) rfl hl.1 rfl (Nat.le_of_ble_eq_true rfl) (by decide) d_Col_multiply_4 (fun r σ' H locs V hr => ?_)
  obtain ⟨hσ, rfl⟩ := hr
  rw [hσ] at V
  clear hσ
  have hB := V.1.2.2
  exact hret _ _ _ _ _ _ d_Col_multiply_7 V ⟨rfl, rfl⟩
set_option maxHeartbeats 4000000 in
set_option maxRecDepth 20000 in
theorem cm_Col_conjugateOf (l : Launch) (z : zz_Z) (σ : hw_M) (hz : ∀ k, zz_k (zz_n z) k → zz_O z k) (hL : lo_ok z σ 0) (a b : Nat) (ha : a < zz_N z) (hb : b < zz_N z) : Met l y_Col_conjugateOf (hw_c y_Col_conjugateOf b_Col_conjugateOf 3 (some .int)) (hw_r 2) (va_Pc [.ref (zz_A z (1, 0)), .int (nI a), .int (nI b)] (zz_B z σ)) (va_Qi (fun r σ' => σ' = σ ∧ r = nI (gp_cj (zz_N z) (gr_p z σ) a b)) (zz_B z) (zz_F z)) 0 0 (zz_F z) := by
  refine hw_meti (post := (fun r σ' => σ' = σ ∧ r = nI (gp_cj (zz_N z) (gr_p z σ) a b))) (by decide) (Nat.le_of_ble_eq_true rfl) ?_
  intro p e s m args below meth c ls Q X hret V hl
  have hl : lv_has ls 3 [(0, .ref (zz_A z (1, 0))), (1, .int (nI a)), (2, .int (nI b))] := hl
  have hB := V.1.2.2
  obtain ⟨⟨hn7, hN, hn, hNe, hw, hsz, hln⟩, hk, ht⟩ := id hL
  have g := lo_gp hL
  refine nw_aload_n X d_Col_conjugateOf_0 rfl (lv_at hl 0 rfl) ?_
  refine nw_aload_n X d_Col_conjugateOf_1 rfl (lv_at hl 0 rfl) ?_
  refine nw_iload_n X d_Col_conjugateOf_2 rfl (lv_at hl 2 rfl) ?_
  refine hw_calli X V (hz (1, 0) (by first | exact rfl | assumption | exact (by omega : _ < _))) rfl rfl (cm_Col_inverseOf l z σ hz hL b hb) cs_Col_62 (by decide) rfl hl.1 rfl (Nat.le_of_ble_eq_true rfl) (by decide) d_Col_conjugateOf_3 (fun r σ' H locs V hr => ?_)
  obtain ⟨hσ, rfl⟩ := hr
  rw [hσ] at V
  clear hσ
  have hB := V.1.2.2
  refine nw_aload_n X d_Col_conjugateOf_6 rfl (lv_at hl 0 rfl) ?_
  refine nw_iload_n X d_Col_conjugateOf_7 rfl (lv_at hl 1 rfl) ?_
  refine nw_iload_n X d_Col_conjugateOf_8 rfl (lv_at hl 2 rfl) ?_
  refine hw_calli X V (hz (1, 0) (by first | exact rfl | assumption | exact (by omega : _ < _))) rfl rfl (cm_Col_multiply l z σ hz hL a b ha hb) cs_Col_66 (by decide) rfl hl.1 rfl (Nat.le_of_ble_eq_true rfl) (by decide) d_Col_conjugateOf_9 (fun r σ' H locs V hr => ?_)
  obtain ⟨hσ, rfl⟩ := hr
  rw [hσ] at V
  clear hσ
  have hB := V.1.2.2
  refine hw_calli X V (hz (1, 0) (by first | exact rfl | assumption | exact (by omega : _ < _))) rfl rfl (cm_Col_multiply l z σ hz hL _ _ (g.ivl hb) (g.lt ha hb)) cs_Col_66 (by decide) rfl hl.1 rfl (Nat.le_of_ble_eq_true rfl) (by decide) d_Col_conjugateOf_12 (fun r σ' H locs V hr => ?_)
  obtain ⟨hσ, rfl⟩ := hr
  rw [hσ] at V
  clear hσ
  have hB := V.1.2.2
  exact hret _ _ _ _ _ _ d_Col_conjugateOf_15 V ⟨rfl, by unfold gp_cj; rw [g.as (g.ivl hb) ha hb]⟩
set_option maxHeartbeats 4000000 in
set_option maxRecDepth 20000 in
theorem cm_Col_commutatorOf (l : Launch) (z : zz_Z) (σ : hw_M) (hz : ∀ k, zz_k (zz_n z) k → zz_O z k) (hL : lo_ok z σ 0) (a b : Nat) (ha : a < zz_N z) (hb : b < zz_N z) : Met l y_Col_commutatorOf (hw_c y_Col_commutatorOf b_Col_commutatorOf 3 (some .int)) (hw_r 3) (va_Pc [.ref (zz_A z (1, 0)), .int (nI a), .int (nI b)] (zz_B z σ)) (va_Qi (fun r σ' => σ' = σ ∧ r = nI (gp_cm (zz_N z) (gr_p z σ) a b)) (zz_B z) (zz_F z)) 0 0 (zz_F z) := by
  refine hw_meti (post := (fun r σ' => σ' = σ ∧ r = nI (gp_cm (zz_N z) (gr_p z σ) a b))) (by decide) (Nat.le_of_ble_eq_true rfl) ?_
  intro p e s m args below meth c ls Q X hret V hl
  have hl : lv_has ls 3 [(0, .ref (zz_A z (1, 0))), (1, .int (nI a)), (2, .int (nI b))] := hl
  have hB := V.1.2.2
  obtain ⟨⟨hn7, hN, hn, hNe, hw, hsz, hln⟩, hk, ht⟩ := id hL
  have g := lo_gp hL
  refine nw_aload_n X d_Col_commutatorOf_0 rfl (lv_at hl 0 rfl) ?_
  refine nw_aload_n X d_Col_commutatorOf_1 rfl (lv_at hl 0 rfl) ?_
  refine nw_iload_n X d_Col_commutatorOf_2 rfl (lv_at hl 1 rfl) ?_
  refine hw_calli X V (hz (1, 0) (by first | exact rfl | assumption | exact (by omega : _ < _))) rfl rfl (cm_Col_inverseOf l z σ hz hL a ha) cs_Col_62 (by decide) rfl hl.1 rfl (Nat.le_of_ble_eq_true rfl) (by decide) d_Col_commutatorOf_3 (fun r σ' H locs V hr => ?_)
  obtain ⟨hσ, rfl⟩ := hr
  rw [hσ] at V
  clear hσ
  have hB := V.1.2.2
  refine nw_aload_n X d_Col_commutatorOf_6 rfl (lv_at hl 0 rfl) ?_
  refine nw_iload_n X d_Col_commutatorOf_7 rfl (lv_at hl 1 rfl) ?_
  refine nw_iload_n X d_Col_commutatorOf_8 rfl (lv_at hl 2 rfl) ?_
  refine hw_calli X V (hz (1, 0) (by first | exact rfl | assumption | exact (by omega : _ < _))) rfl rfl (cm_Col_conjugateOf l z σ hz hL a b ha hb) cs_Col_70 (by decide) rfl hl.1 rfl (Nat.le_of_ble_eq_true rfl) (by decide) d_Col_commutatorOf_9 (fun r σ' H locs V hr => ?_)
  obtain ⟨hσ, rfl⟩ := hr
  rw [hσ] at V
  clear hσ
  have hB := V.1.2.2
  refine hw_calli X V (hz (1, 0) (by first | exact rfl | assumption | exact (by omega : _ < _))) rfl rfl (cm_Col_multiply l z σ hz hL _ _ (g.ivl ha) (g.cjl ha hb)) cs_Col_66 (by decide) rfl hl.1 rfl (Nat.le_of_ble_eq_true rfl) (by decide) d_Col_commutatorOf_12 (fun r σ' H locs V hr => ?_)
  obtain ⟨hσ, rfl⟩ := hr
  rw [hσ] at V
  clear hσ
  have hB := V.1.2.2
  exact hret _ _ _ _ _ _ d_Col_commutatorOf_15 V ⟨rfl, rfl⟩
set_option maxHeartbeats 4000000 in
set_option maxRecDepth 20000 in
theorem cm_Col_orderOf (l : Launch) (z : zz_Z) (σ : hw_M) (hz : ∀ k, zz_k (zz_n z) k → zz_O z k) (hL : lo_ok z σ 0) (a : Nat) (ha : a < zz_N z) : Met l y_Col_orderOf (hw_c y_Col_orderOf b_Col_orderOf 4 (some .int)) (hw_r 2) (va_Pc [.ref (zz_A z (1, 0)), .int (nI a)] (zz_B z σ)) (va_Qi (fun r σ' => σ' = σ ∧ ∃ k, r = nI k ∧ gp_od (gr_p z σ) a k) (zz_B z) (zz_F z)) 0 0 (zz_F z) := by
  refine hw_meti (post := (fun r σ' => σ' = σ ∧ ∃ k, r = nI k ∧ gp_od (gr_p z σ) a k)) (by decide) (Nat.le_of_ble_eq_true rfl) ?_
  intro p e s m args below meth c ls Q X hret V hl
  have hl : lv_has ls 4 [(0, .ref (zz_A z (1, 0))), (1, .int (nI a))] := hl
  have hB := V.1.2.2
  obtain ⟨⟨hn7, hN, hn, hNe, hw, hsz, hln⟩, hk, ht⟩ := id hL
  have g := lo_gp hL
  refine nw_iconst X 1 d_Col_orderOf_0 (by decide) ?_
  refine nw_istore_n X (lv' := [(2, _), (0, _), (1, _)]) d_Col_orderOf_1 rfl hl (by decide) rfl (fun ls hl => ?_)
  refine nw_iload_n X d_Col_orderOf_2 rfl (lv_at hl 2 rfl) ?_
  refine nw_istore_n X (lv' := [(3, _), (2, _), (0, _), (1, _)]) d_Col_orderOf_3 rfl hl (by decide) rfl (fun ls hl => ?_)
  have LP4 : ∀ (d k word : Nat) (H : Heap) (locs : List Loc) (ls : Array Slot), zz_N z - k < d → (1 ≤ k) → (k ≤ zz_N z) → (word = gp_pw (gr_p z σ) a k) → (∀ j, 1 ≤ j → j < k → gp_pw (gr_p z σ) a j ≠ 0) → zz_V z σ s.heap H locs →  lv_has ls 4 [(0, .ref (zz_A z (1, 0))), (1, .int (nI a)), (2, .int (nI k)), (3, .int (nI word))] →  W p l e (hw_r 2) s m args below meth c H locs 0 0 Q (F0 m 4 ls []) := by
    intro d
    induction d with
    | zero => intro k word H locs ls hd; exact absurd hd (Nat.not_lt_zero _)
    | succ d IH4 =>
      intro k word H locs ls hd hk1 hk2 hwd hno V hl
      have hB := V.1.2.2
      have hwl : word < zz_N z := by rw [hwd]; exact g.pwl ha k
      refine nw_iload_n X d_Col_orderOf_4 rfl (lv_at hl 3 rfl) ?_
      refine nw_if_eq X (tgt := 29) d_Col_orderOf_5 (by decide) (by omega) (fun hc => ?_) (fun hc => ?_)
      · skip
        refine nw_iload_n X d_Col_orderOf_29 rfl (lv_at hl 2 rfl) ?_
        exact hret _ _ _ _ _ _ d_Col_orderOf_30 V ⟨rfl, k, rfl, hk1, by rw [← hwd]; exact hc, hno⟩
      · skip
        refine nw_iload_n X d_Col_orderOf_8 rfl (lv_at hl 2 rfl) ?_
        refine nw_aload_n X d_Col_orderOf_9 rfl (lv_at hl 0 rfl) ?_
        refine gf_Col_35 X V (hz (1, 0) (by first | exact rfl | assumption | exact (by omega : _ < _))) d_Col_orderOf_10 ?_
        rw [hNe]
        refine nw_icmp_ge X (tgt := 29) d_Col_orderOf_13 (by decide) (by first | assumption | omega) (by first | assumption | omega) (fun hc2 => ?_) (fun hc2 => ?_)
        · skip
          exfalso
          obtain ⟨j, j1, j2, j3⟩ := g.per ha
          by_cases e : j < k
          · exact hno j j1 e j3
          · have e2 : j = k := by omega
            rw [e2, ← hwd] at j3
            exact hc j3
        · skip
          refine nw_aload_n X d_Col_orderOf_16 rfl (lv_at hl 0 rfl) ?_
          refine nw_iload_n X d_Col_orderOf_17 rfl (lv_at hl 3 rfl) ?_
          refine nw_iload_n X d_Col_orderOf_18 rfl (lv_at hl 1 rfl) ?_
          refine hw_calli X V (hz (1, 0) (by first | exact rfl | assumption | exact (by omega : _ < _))) rfl rfl (cm_Col_multiply l z σ hz hL _ _ hwl ha) cs_Col_66 (by decide) rfl hl.1 rfl (Nat.le_of_ble_eq_true rfl) (by decide) d_Col_orderOf_19 (fun r σ' H locs V hr => ?_)
          obtain ⟨hσ, rfl⟩ := hr
          rw [hσ] at V
          clear hσ
          have hB := V.1.2.2
          refine nw_istore_n X (lv' := [(3, _), (0, _), (1, _), (2, _)]) d_Col_orderOf_22 rfl hl (by decide) rfl (fun ls hl => ?_)
          refine nw_iinc X (lv' := [(2, _), (3, _), (0, _), (1, _)]) (k := 3) 1 d_Col_orderOf_23 hl rfl (by decide) (by decide) rfl (fun ls hl => ?_)
          refine nw_goto X (tgt := 4) d_Col_orderOf_26 (by decide) ?_
          exact IH4 (k + 1) _ _ _ _ (by omega) (by omega) hc2 (by rw [hwd]; rfl) (fun j h1 h2 => by by_cases e : j = k; rw [e, ← hwd]; exact hc; exact hno j h1 (by omega)) V (lv_sub hl [2, 3, 0, 1] rfl)
  exact LP4 (zz_N z + 1) 1 a _ _ _ (by omega) (Nat.le_refl _) (by omega) (gp_pw1 g ha).symm (fun j h1 h2 => by omega) V (lv_sub hl [2, 3, 1, 0] rfl)
set_option maxHeartbeats 4000000 in
set_option maxRecDepth 20000 in
theorem cm_Col_multiple (l : Launch) (z : zz_Z) (σ : hw_M) (hz : ∀ k, zz_k (zz_n z) k → zz_O z k) (hL : lo_ok z σ 0) (a k : Nat) (ha : a < zz_N z) (hk9 : k < 2147483648) : Met l y_Col_multiple (hw_c y_Col_multiple b_Col_multiple 5 (some .int)) (hw_r 2) (va_Pc [.ref (zz_A z (1, 0)), .int (nI a), .int (nI k)] (zz_B z σ)) (va_Qi (fun r σ' => σ' = σ ∧ r = nI (gp_pw (gr_p z σ) a k)) (zz_B z) (zz_F z)) 0 0 (zz_F z) := by
  refine hw_meti (post := (fun r σ' => σ' = σ ∧ r = nI (gp_pw (gr_p z σ) a k))) (by decide) (Nat.le_of_ble_eq_true rfl) ?_
  intro p e s m args below meth c ls Q X hret V hl
  have hl : lv_has ls 5 [(0, .ref (zz_A z (1, 0))), (1, .int (nI a)), (2, .int (nI k))] := hl
  have hB := V.1.2.2
  obtain ⟨⟨hn7, hN, hn, hNe, hw, hsz, hln⟩, hk, ht⟩ := id hL
  have g := lo_gp hL
  refine nw_iconst X 0 d_Col_multiple_0 (by decide) ?_
  refine nw_istore_n X (lv' := [(3, _), (0, _), (1, _), (2, _)]) d_Col_multiple_1 rfl hl (by decide) rfl (fun ls hl => ?_)
  refine nw_iconst X 0 d_Col_multiple_2 (by decide) ?_
  refine nw_istore X (lv' := [(4, _), (3, _), (0, _), (1, _), (2, _)]) d_Col_multiple_3 hl (by decide) rfl (fun ls hl => ?_)
  have LP5 : ∀ (d n word : Nat) (H : Heap) (locs : List Loc) (ls : Array Slot), k - n < d → (n ≤ k) → (word = gp_pw (gr_p z σ) a n) → zz_V z σ s.heap H locs →  lv_has ls 5 [(0, .ref (zz_A z (1, 0))), (1, .int (nI a)), (2, .int (nI k)), (3, .int (nI word)), (4, .int (nI n))] →  W p l e (hw_r 2) s m args below meth c H locs 0 0 Q (F0 m 5 ls []) := by
    intro d
    induction d with
    | zero => intro n word H locs ls hd; exact absurd hd (Nat.not_lt_zero _)
    | succ d IH5 =>
      intro n word H locs ls hd hn1 hwd V hl
      have hB := V.1.2.2
      have hwl : word < zz_N z := by rw [hwd]; exact g.pwl ha n
      refine nw_iload X d_Col_multiple_5 (lv_at hl 4 rfl) ?_
      refine nw_iload_n X d_Col_multiple_7 rfl (lv_at hl 2 rfl) ?_
      refine nw_icmp_ge X (tgt := 24) d_Col_multiple_8 (by decide) (by first | assumption | omega) (by first | assumption | omega) (fun hc => ?_) (fun hc => ?_)
      · skip
        refine nw_iload_n X d_Col_multiple_24 rfl (lv_at hl 3 rfl) ?_
        exact hret _ _ _ _ _ _ d_Col_multiple_25 V ⟨rfl, by rw [hwd, show n = k by omega]⟩
      · skip
        refine nw_aload_n X d_Col_multiple_11 rfl (lv_at hl 0 rfl) ?_
        refine nw_iload_n X d_Col_multiple_12 rfl (lv_at hl 3 rfl) ?_
        refine nw_iload_n X d_Col_multiple_13 rfl (lv_at hl 1 rfl) ?_
        refine hw_calli X V (hz (1, 0) (by first | exact rfl | assumption | exact (by omega : _ < _))) rfl rfl (cm_Col_multiply l z σ hz hL _ _ hwl ha) cs_Col_66 (by decide) rfl hl.1 rfl (Nat.le_of_ble_eq_true rfl) (by decide) d_Col_multiple_14 (fun r σ' H locs V hr => ?_)
        obtain ⟨hσ, rfl⟩ := hr
        rw [hσ] at V
        clear hσ
        have hB := V.1.2.2
        refine nw_istore_n X (lv' := [(3, _), (0, _), (1, _), (2, _), (4, _)]) d_Col_multiple_17 rfl hl (by decide) rfl (fun ls hl => ?_)
        refine nw_iinc X (lv' := [(4, _), (3, _), (0, _), (1, _), (2, _)]) (k := 4) 1 d_Col_multiple_18 hl rfl (by decide) (by decide) rfl (fun ls hl => ?_)
        refine nw_goto X (tgt := 5) d_Col_multiple_21 (by decide) ?_
        exact IH5 (n + 1) _ _ _ _ (by omega) hc (by rw [hwd]; rfl) V (lv_sub hl [2, 3, 4, 1, 0] rfl)
  exact LP5 (k + 1) 0 0 _ _ _ (by omega) (Nat.zero_le _) rfl V (lv_sub hl [2, 3, 4, 1, 0] rfl)
set_option maxHeartbeats 4000000 in
set_option maxRecDepth 20000 in
theorem cm_Col_isCentral (l : Launch) (z : zz_Z) (σ : hw_M) (hz : ∀ k, zz_k (zz_n z) k → zz_O z k) (hL : lo_ok z σ 0) (a : Nat) (ha : a < zz_N z) : Met l y_Col_isCentral (hw_c y_Col_isCentral b_Col_isCentral 3 (some .boolean)) (hw_r 2) (va_Pc [.ref (zz_A z (1, 0)), .int (nI a)] (zz_B z σ)) (va_Qi (fun r σ' => ∃ b, b < 2 ∧ r = nI b ∧ (fun b σ' => σ' = σ ∧ (b = 1 ↔ ∀ i, i < zz_n z → gr_p z σ a (σ (3, 0) i) = gr_p z σ (σ (3, 0) i) a)) b σ') (zz_B z) (zz_F z)) 0 0 (zz_F z) := by
  refine hw_metz (post := (fun b σ' => σ' = σ ∧ (b = 1 ↔ ∀ i, i < zz_n z → gr_p z σ a (σ (3, 0) i) = gr_p z σ (σ (3, 0) i) a))) (by decide) (Nat.le_of_ble_eq_true rfl) ?_
  intro p e s m args below meth c ls Q X hret V hl
  have hl : lv_has ls 3 [(0, .ref (zz_A z (1, 0))), (1, .int (nI a))] := hl
  have hB := V.1.2.2
  obtain ⟨⟨hn7, hN, hn, hNe, hw, hsz, hln⟩, hk, ht⟩ := id hL
  have g := lo_gp hL
  refine nw_iconst X 0 d_Col_isCentral_0 (by decide) ?_
  refine nw_istore_n X (lv' := [(2, _), (0, _), (1, _)]) d_Col_isCentral_1 rfl hl (by decide) rfl (fun ls hl => ?_)
  have LP2 : ∀ (d i : Nat) (H : Heap) (locs : List Loc) (ls : Array Slot), zz_n z - i < d → (i ≤ zz_n z) → (∀ k, k < i → gr_p z σ a (σ (3, 0) k) = gr_p z σ (σ (3, 0) k) a) → zz_V z σ s.heap H locs →  lv_has ls 3 [(0, .ref (zz_A z (1, 0))), (1, .int (nI a)), (2, .int (nI i))] →  W p l e (hw_r 2) s m args below meth c H locs 0 0 Q (F0 m 2 ls []) := by
    intro d
    induction d with
    | zero => intro i H locs ls hd; exact absurd hd (Nat.not_lt_zero _)
    | succ d IH2 =>
      intro i H locs ls hd hin hall V hl
      have hB := V.1.2.2
      refine nw_iload_n X d_Col_isCentral_2 rfl (lv_at hl 2 rfl) ?_
      refine nw_aload_n X d_Col_isCentral_3 rfl (lv_at hl 0 rfl) ?_
      refine gf_Col_7 X V (hz (1, 0) (by first | exact rfl | assumption | exact (by omega : _ < _))) d_Col_isCentral_4 ?_
      rw [hn]
      refine nw_icmp_ge X (tgt := 43) d_Col_isCentral_7 (by decide) (by first | assumption | omega) (by first | assumption | omega) (fun hc => ?_) (fun hc => ?_)
      · skip
        refine nw_iconst X 1 d_Col_isCentral_43 (by decide) ?_
        exact hret 1 _ _ _ _ _ d_Col_isCentral_44 V (by decide) ⟨rfl, fun _ k hk => hall k (by omega), fun _ => rfl⟩
      · skip
        have hi := hc
        have hwi : σ (3, 0) i < zz_N z := by rw [hsz]; exact hw.ltN hi
        refine nw_aload_n X d_Col_isCentral_10 rfl (lv_at hl 0 rfl) ?_
        refine nw_iload_n X d_Col_isCentral_11 rfl (lv_at hl 1 rfl) ?_
        refine nw_aload_n X d_Col_isCentral_12 rfl (lv_at hl 0 rfl) ?_
        refine gf_Col_17 X V (hz (1, 0) (by first | exact rfl | assumption | exact (by omega : _ < _))) d_Col_isCentral_13 ?_
        refine nw_iload_n X d_Col_isCentral_16 rfl (lv_at hl 2 rfl) ?_
        refine hw_iald X V (hz (3, 0) (by first | exact rfl | assumption | exact (by omega : _ < _))) 0 rfl rfl hi (by omega) d_Col_isCentral_17 ?_
        refine hw_calli X V (hz (1, 0) (by first | exact rfl | assumption | exact (by omega : _ < _))) rfl rfl (cm_Col_multiply l z σ hz hL _ _ ha hwi) cs_Col_66 (by decide) rfl hl.1 rfl (Nat.le_of_ble_eq_true rfl) (by decide) d_Col_isCentral_18 (fun r σ' H locs V hr => ?_)
        obtain ⟨hσ, rfl⟩ := hr
        rw [hσ] at V
        clear hσ
        have hB := V.1.2.2
        refine nw_aload_n X d_Col_isCentral_21 rfl (lv_at hl 0 rfl) ?_
        refine nw_aload_n X d_Col_isCentral_22 rfl (lv_at hl 0 rfl) ?_
        refine gf_Col_17 X V (hz (1, 0) (by first | exact rfl | assumption | exact (by omega : _ < _))) d_Col_isCentral_23 ?_
        refine nw_iload_n X d_Col_isCentral_26 rfl (lv_at hl 2 rfl) ?_
        refine hw_iald X V (hz (3, 0) (by first | exact rfl | assumption | exact (by omega : _ < _))) 0 rfl rfl hi (by omega) d_Col_isCentral_27 ?_
        refine nw_iload_n X d_Col_isCentral_28 rfl (lv_at hl 1 rfl) ?_
        refine hw_calli X V (hz (1, 0) (by first | exact rfl | assumption | exact (by omega : _ < _))) rfl rfl (cm_Col_multiply l z σ hz hL _ _ hwi ha) cs_Col_66 (by decide) rfl hl.1 rfl (Nat.le_of_ble_eq_true rfl) (by decide) d_Col_isCentral_29 (fun r σ' H locs V hr => ?_)
        obtain ⟨hσ, rfl⟩ := hr
        rw [hσ] at V
        clear hσ
        have hB := V.1.2.2
        refine nw_icmp_eq X (tgt := 37) d_Col_isCentral_32 (by decide) (by have := g.lt ha hwi; omega) (by have := g.lt hwi ha; omega) (fun hc2 => ?_) (fun hc2 => ?_)
        · skip
          refine nw_iinc X (lv' := [(2, _), (0, _), (1, _)]) (k := 2) 1 d_Col_isCentral_37 hl rfl (by decide) (by decide) rfl (fun ls hl => ?_)
          refine nw_goto X (tgt := 2) d_Col_isCentral_40 (by decide) ?_
          exact IH2 (i + 1) _ _ _ (by omega) hi (fun k hk => by by_cases e : k = i; rw [e]; exact hc2; exact hall k (by omega)) V (lv_sub hl [1, 2, 0] rfl)
        · skip
          refine nw_iconst X 0 d_Col_isCentral_35 (by decide) ?_
          exact hret 0 _ _ _ _ _ d_Col_isCentral_36 V (by decide) ⟨rfl, fun q => absurd q (by decide), fun q => absurd (q i hi) hc2⟩
  exact LP2 (zz_n z + 1) 0 _ _ _ (by omega) (Nat.zero_le _) (fun k hk => absurd hk (Nat.not_lt_zero _)) V (lv_sub hl [1, 2, 0] rfl)
end
section
/-! The Collector: building a level. By program (wip/whole/gen/col3.py). -/
set_option maxHeartbeats 4000000 in
set_option maxRecDepth 20000 in
theorem cm_Col_movedOnce (l : Launch) (z : zz_Z) (σ : hw_M) (hz : ∀ k, zz_k (zz_n z) k → zz_O z k) (i : Nat) (hi : i < zz_n z) (hL : lo_ok z σ (i + 1)) (hc6 : ∀ j, i < j → j < zz_n z → σ (6, i) j < σ (3, 0) i) (x : Nat) (hx : x < σ (3, 0) i) (hm : ∀ y, y < x → σ (8, i) (σ (3, 0) i + y) = mo_t z σ i y) : Met l y_Col_movedOnce (hw_c y_Col_movedOnce b_Col_movedOnce 6 (some .int)) (hw_r 1) (va_Pc [.ref (zz_A z (1, 0)), .int (nI i), .int (nI x)] (zz_B z σ)) (va_Qi (fun r σ' => σ' = σ ∧ r = nI (mo_t z σ i x)) (zz_B z) (zz_F z)) 0 0 (zz_F z) := by
  refine hw_meti (post := (fun r σ' => σ' = σ ∧ r = nI (mo_t z σ i x))) (by decide) (Nat.le_of_ble_eq_true rfl) ?_
  intro p e s m args below meth c ls Q X hret V hl
  have hl : lv_has ls 6 [(0, .ref (zz_A z (1, 0))), (1, .int (nI i)), (2, .int (nI x))] := hl
  have hB := V.1.2.2
  obtain ⟨⟨hn7, hN, hn, hNe, hw, hsz, hln⟩, hk, ht⟩ := id hL
  have hq := st_lv hL.1 hi
  have ez := st_sz hL.1 hi
  have hq6 := hq.2.2.2.2.2.1
  refine nw_aload_n X d_Col_movedOnce_0 rfl (lv_at hl 0 rfl) ?_
  refine gf_Col_17 X V (hz (1, 0) (by first | exact rfl | assumption | exact (by omega : _ < _))) d_Col_movedOnce_1 ?_
  refine nw_iload_n X d_Col_movedOnce_4 rfl (lv_at hl 1 rfl) ?_
  refine hw_iald X V (hz (3, 0) (by first | exact rfl | assumption | exact (by omega : _ < _))) 0 rfl rfl hi (by omega) d_Col_movedOnce_5 ?_
  refine nw_istore_n X (lv' := [(3, _), (0, _), (1, _), (2, _)]) d_Col_movedOnce_6 rfl hl (by decide) rfl (fun ls hl => ?_)
  refine nw_iload_n X d_Col_movedOnce_7 rfl (lv_at hl 2 rfl) ?_
  refine nw_iconst X 1 d_Col_movedOnce_8 (by decide) ?_
  refine nw_iadd X d_Col_movedOnce_9 ?_
  refine nw_istore X (lv' := [(4, _), (3, _), (0, _), (1, _), (2, _)]) d_Col_movedOnce_10 hl (by decide) rfl (fun ls hl => ?_)
  have LP12 : ∀ (d j : Nat) (ls : Array Slot), zz_n z - j < d → (i < j) → (j ≤ zz_n z) → (∀ k, i < k → k < j → x < σ (3, 0) k) →  lv_has ls 6 [(0, .ref (zz_A z (1, 0))), (1, .int (nI i)), (2, .int (nI x)), (3, .int (nI (σ (3, 0) i))), (4, .int (nI j))] →  W p l e (hw_r 1) s m args below meth c s.heap [] 0 0 Q (F0 m 12 ls []) := by
    intro d
    induction d with
    | zero => intro j ls hd; exact absurd hd (Nat.not_lt_zero _)
    | succ d IH12 =>
      intro j ls hd hij hjn hlt hl
      refine nw_iload X d_Col_movedOnce_12 (lv_at hl 4 rfl) ?_
      refine nw_aload_n X d_Col_movedOnce_14 rfl (lv_at hl 0 rfl) ?_
      refine gf_Col_7 X V (hz (1, 0) (by first | exact rfl | assumption | exact (by omega : _ < _))) d_Col_movedOnce_15 ?_
      rw [hn]
      refine nw_icmp_ge X (tgt := 77) d_Col_movedOnce_18 (by decide) (by first | assumption | omega) (by first | assumption | omega) (fun hc => ?_) (fun hc => ?_)
      · skip
        have hx0 := tb_none hw hi hx (fun k h1 h2 => hlt k h1 (by omega))
        refine nw_iconst X 0 d_Col_movedOnce_77 (by decide) ?_
        exact hret _ _ _ _ _ _ d_Col_movedOnce_78 V ⟨rfl, by rw [hx0]; exact congrArg nI (tb_s_0 hw i).symm⟩
      · skip
        have hj := hc
        clear hc
        have hqj := st_lv hL.1 hj
        refine nw_iload_n X d_Col_movedOnce_21 rfl (lv_at hl 2 rfl) ?_
        refine nw_aload_n X d_Col_movedOnce_22 rfl (lv_at hl 0 rfl) ?_
        refine gf_Col_17 X V (hz (1, 0) (by first | exact rfl | assumption | exact (by omega : _ < _))) d_Col_movedOnce_23 ?_
        refine nw_iload X d_Col_movedOnce_26 (lv_at hl 4 rfl) ?_
        refine hw_iald X V (hz (3, 0) (by first | exact rfl | assumption | exact (by omega : _ < _))) 0 rfl rfl hj (by omega) d_Col_movedOnce_28 ?_
        refine nw_icmp_lt X (tgt := 71) d_Col_movedOnce_29 (by decide) (by omega) (by omega) (fun hc => ?_) (fun hc => ?_)
        · skip
          refine nw_iinc X (lv' := [(4, _), (0, _), (1, _), (2, _), (3, _)]) (k := 4) 1 d_Col_movedOnce_71 hl rfl (by decide) (by decide) rfl (fun ls hl => ?_)
          refine nw_goto X (tgt := 12) d_Col_movedOnce_74 (by decide) ?_
          exact IH12 (j + 1) _ (by omega) (by omega) hj (fun k h1 h2 => by by_cases e : k = j; rw [e]; exact hc; exact hlt k h1 (by omega)) (lv_sub hl [1, 2, 3, 4, 0] rfl)
        · skip
          have hwl : σ (3, 0) j < σ (3, 0) i := hw.lt hij hj
          have hle := hw.pos' hj
          refine nw_aload_n X d_Col_movedOnce_32 rfl (lv_at hl 0 rfl) ?_
          refine gf_Col_29 X V (hz (1, 0) (by first | exact rfl | assumption | exact (by omega : _ < _))) d_Col_movedOnce_33 ?_
          refine nw_iload_n X d_Col_movedOnce_36 rfl (lv_at hl 1 rfl) ?_
          refine hw_aald X V (hz (7, 0) (by first | exact rfl | assumption | exact (by omega : _ < _))) 2 rfl rfl rfl hi (by omega) rfl d_Col_movedOnce_37 ?_
          refine nw_iload_n X d_Col_movedOnce_38 rfl (lv_at hl 3 rfl) ?_
          refine nw_iload_n X d_Col_movedOnce_39 rfl (lv_at hl 2 rfl) ?_
          refine nw_iadd X d_Col_movedOnce_40 ?_
          refine nw_aload_n X d_Col_movedOnce_41 rfl (lv_at hl 0 rfl) ?_
          refine gf_Col_17 X V (hz (1, 0) (by first | exact rfl | assumption | exact (by omega : _ < _))) d_Col_movedOnce_42 ?_
          refine nw_iload X d_Col_movedOnce_45 (lv_at hl 4 rfl) ?_
          refine hw_iald X V (hz (3, 0) (by first | exact rfl | assumption | exact (by omega : _ < _))) 0 rfl rfl hj (by omega) d_Col_movedOnce_47 ?_
          refine nw_isub X (by omega) d_Col_movedOnce_48 ?_
          refine hw_iald X V (hz (8, i) (by first | exact rfl | assumption | exact (by omega : _ < _))) 0 rfl rfl (Nat.lt_of_lt_of_eq (by omega) hq6.symm) (Nat.lt_of_le_of_lt (Nat.le_of_eq hq6) (by omega)) d_Col_movedOnce_49 ?_
          rw [show σ (3, 0) i + x - σ (3, 0) j = σ (3, 0) i + (x - σ (3, 0) j) by omega, hm (x - σ (3, 0) j) (by omega)]
          refine nw_istore X (lv' := [(5, _), (0, _), (1, _), (2, _), (3, _), (4, _)]) d_Col_movedOnce_50 hl (by decide) rfl (fun ls hl => ?_)
          refine nw_aload_n X d_Col_movedOnce_52 rfl (lv_at hl 1 rfl) ?_
          refine nw_iload_n X d_Col_movedOnce_53 rfl (lv_at hl 2 rfl) ?_
          refine nw_iconst X 1 d_Col_movedOnce_54 (by decide) ?_
          refine nw_iadd X d_Col_movedOnce_55 ?_
          refine nw_aload_n X d_Col_movedOnce_56 rfl (lv_at hl 1 rfl) ?_
          refine gf_Col_25 X V (hz (1, 0) (by first | exact rfl | assumption | exact (by omega : _ < _))) d_Col_movedOnce_57 ?_
          refine nw_iload_n X d_Col_movedOnce_60 rfl (lv_at hl 2 rfl) ?_
          refine hw_aald X V (hz (5, 0) (by first | exact rfl | assumption | exact (by omega : _ < _))) 2 rfl rfl rfl hi (by omega) rfl d_Col_movedOnce_61 ?_
          refine nw_iload X d_Col_movedOnce_62 (lv_at hl 5 rfl) ?_
          refine hw_iald X V (hz (6, i) (by first | exact rfl | assumption | exact (by omega : _ < _))) 0 rfl rfl hj (by omega) d_Col_movedOnce_64 ?_
          refine nw_iload X d_Col_movedOnce_65 (lv_at hl 0 rfl) ?_
          refine hw_calli X V (hz (1, 0) (by first | exact rfl | assumption | exact (by omega : _ < _))) rfl rfl (cm_Col_multiplyFrom l z σ hz (i + 1) _ _ hi hL (by rw [ez.2]; exact hc6 j hij hj) (by rw [ez.2]; exact tb_s_l hw hi hk hc6 _)) cs_Col_58 (by decide) rfl hl.1 rfl (Nat.le_of_ble_eq_true rfl) (by decide) d_Col_movedOnce_67 (fun r σ' H locs V hr => ?_)
          obtain ⟨hσ, rfl⟩ := hr
          rw [hσ] at V
          clear hσ
          have hB := V.1.2.2
          exact hret _ _ _ _ _ _ d_Col_movedOnce_70 V ⟨rfl, congrArg nI (tb_lead hw hi hk hc6 hx hij hj hc hlt).symm⟩
  exact LP12 (zz_n z + 1) (i + 1) _ (by omega) (by omega) hi (fun k h1 h2 => by omega) (lv_sub hl [2, 3, 4, 1, 0] rfl)
set_option maxHeartbeats 4000000 in
set_option maxRecDepth 20000 in
theorem cm_Col_fillMoves (l : Launch) (z : zz_Z) (σ : hw_M) (hz : ∀ k, zz_k (zz_n z) k → zz_O z k) (i : Nat) (hi : i < zz_n z) (hL : lo_ok z σ (i + 1)) (hc6 : ∀ j, i < j → j < zz_n z → σ (6, i) j < σ (3, 0) i) : Met l y_Col_fillMoves (hw_c y_Col_fillMoves b_Col_fillMoves 5 none) (hw_r 2) (va_Pc [.ref (zz_A z (1, 0)), .int (nI i)] (zz_B z σ)) (va_Qv (fun σ' => (∀ u : hw_P, u ≠ (8, i) → σ' u = σ u) ∧ ∀ y, y < σ (2, 0) i * σ (3, 0) i → σ' (8, i) y = ex_it (mo_t z σ i) (y / σ (3, 0) i) (y % σ (3, 0) i)) (zz_B z) (zz_F z)) 0 0 (zz_F z) := by
  refine hw_metv (post := (fun σ' => (∀ u : hw_P, u ≠ (8, i) → σ' u = σ u) ∧ ∀ y, y < σ (2, 0) i * σ (3, 0) i → σ' (8, i) y = ex_it (mo_t z σ i) (y / σ (3, 0) i) (y % σ (3, 0) i))) (by decide) (Nat.le_of_ble_eq_true rfl) ?_
  intro p e s m args below meth c ls Q X hret V hl
  have hl : lv_has ls 5 [(0, .ref (zz_A z (1, 0))), (1, .int (nI i))] := hl
  have hB := V.1.2.2
  obtain ⟨⟨hn7, hN, hn, hNe, hw, hsz, hln⟩, hk, ht⟩ := id hL
  have hq := st_lv hL.1 hi
  have ez := st_sz hL.1 hi
  have hq6 := hq.2.2.2.2.2.1
  refine nw_aload_n X d_Col_fillMoves_0 rfl (lv_at hl 0 rfl) ?_
  refine gf_Col_17 X V (hz (1, 0) (by first | exact rfl | assumption | exact (by omega : _ < _))) d_Col_fillMoves_1 ?_
  refine nw_iload_n X d_Col_fillMoves_4 rfl (lv_at hl 1 rfl) ?_
  refine hw_iald X V (hz (3, 0) (by first | exact rfl | assumption | exact (by omega : _ < _))) 0 rfl rfl hi (by omega) d_Col_fillMoves_5 ?_
  refine nw_istore_n X (lv' := [(2, _), (0, _), (1, _)]) d_Col_fillMoves_6 rfl hl (by decide) rfl (fun ls hl => ?_)
  refine nw_aload_n X d_Col_fillMoves_7 rfl (lv_at hl 1 rfl) ?_
  refine gf_Col_29 X V (hz (1, 0) (by first | exact rfl | assumption | exact (by omega : _ < _))) d_Col_fillMoves_8 ?_
  refine nw_iload_n X d_Col_fillMoves_11 rfl (lv_at hl 2 rfl) ?_
  refine hw_aald X V (hz (7, 0) (by first | exact rfl | assumption | exact (by omega : _ < _))) 2 rfl rfl rfl hi (by omega) rfl d_Col_fillMoves_12 ?_
  refine nw_astore_n X (lv' := [(3, _), (2, _), (0, _), (1, _)]) d_Col_fillMoves_13 rfl hl (by decide) rfl (fun ls hl => ?_)
  refine nw_iconst X 0 d_Col_fillMoves_14 (by decide) ?_
  refine nw_istore X (lv' := [(4, _), (3, _), (2, _), (0, _), (1, _)]) d_Col_fillMoves_15 hl (by decide) rfl (fun ls hl => ?_)
  have LP17 : ∀ (d x : Nat) (σ1 : hw_M) (H : Heap) (locs : List Loc) (ls : Array Slot), σ (3, 0) i - x < d → (x ≤ σ (3, 0) i) → (∀ u : hw_P, u ≠ (8, i) → σ1 u = σ u) → (∀ y, y < x → σ1 (8, i) y = ex_it (mo_t z σ i) (y / σ (3, 0) i) (y % σ (3, 0) i)) → zz_V z σ1 s.heap H locs →  lv_has ls 5 [(0, .ref (zz_A z (1, 0))), (1, .int (nI i)), (2, .int (nI (σ (3, 0) i))), (3, .ref (zz_A z (8, i))), (4, .int (nI x))] →  W p l e (hw_r 2) s m args below meth c H locs 0 0 Q (F0 m 17 ls []) := by
    intro d
    induction d with
    | zero => intro x σ1 H locs ls hd; exact absurd hd (Nat.not_lt_zero _)
    | succ d IH17 =>
      intro x σ1 H locs ls hd hx hfr hv V hl
      have hB := V.1.2.2
      refine nw_iload X d_Col_fillMoves_17 (lv_at hl 4 rfl) ?_
      refine nw_iload_n X d_Col_fillMoves_19 rfl (lv_at hl 2 rfl) ?_
      refine nw_icmp_ge X (tgt := 35) d_Col_fillMoves_20 (by decide) (by first | assumption | omega) (by first | assumption | omega) (fun hc => ?_) (fun hc => ?_)
      · skip
        refine nw_iconst X 0 d_Col_fillMoves_35 (by decide) ?_
        refine nw_istore X (lv' := [(4, _), (0, _), (1, _), (2, _), (3, _)]) d_Col_fillMoves_36 hl (by decide) rfl (fun ls hl => ?_)
        have LP38 : ∀ (d x : Nat) (σ1 : hw_M) (H : Heap) (locs : List Loc) (ls : Array Slot), σ (3, 0) i - x < d → (x ≤ σ (3, 0) i) → (∀ u : hw_P, u ≠ (8, i) → σ1 u = σ u) → (∀ y, y < (σ (3, 0) i + x) → σ1 (8, i) y = ex_it (mo_t z σ i) (y / σ (3, 0) i) (y % σ (3, 0) i)) → zz_V z σ1 s.heap H locs →  lv_has ls 5 [(0, .ref (zz_A z (1, 0))), (1, .int (nI i)), (2, .int (nI (σ (3, 0) i))), (3, .ref (zz_A z (8, i))), (4, .int (nI x))] →  W p l e (hw_r 2) s m args below meth c H locs 0 0 Q (F0 m 38 ls []) := by
          intro d
          induction d with
          | zero => intro x σ1 H locs ls hd; exact absurd hd (Nat.not_lt_zero _)
          | succ d IH38 =>
            intro x σ1 H locs ls hd hx hfr hv V hl
            have hB := V.1.2.2
            have hK := lo_keep hL (lo_fr8 (f := i + 1) hfr (Nat.lt_succ_self i))
            refine nw_iload X d_Col_fillMoves_38 (lv_at hl 4 rfl) ?_
            refine nw_iload_n X d_Col_fillMoves_40 rfl (lv_at hl 2 rfl) ?_
            refine nw_icmp_ge X (tgt := 63) d_Col_fillMoves_41 (by decide) (by first | assumption | omega) (by first | assumption | omega) (fun hc => ?_) (fun hc => ?_)
            · skip
              refine nw_iconst X 2 d_Col_fillMoves_63 (by decide) ?_
              refine nw_iload_n X d_Col_fillMoves_64 rfl (lv_at hl 2 rfl) ?_
              refine nw_imul X d_Col_fillMoves_65 ?_
              refine nw_istore X (lv' := [(4, _), (0, _), (1, _), (2, _), (3, _)]) d_Col_fillMoves_66 hl (by decide) rfl (fun ls hl => ?_)
              have LP68 : ∀ (d k : Nat) (σ1 : hw_M) (H : Heap) (locs : List Loc) (ls : Array Slot), σ (2, 0) i * σ (3, 0) i - k < d → (2 * σ (3, 0) i ≤ k) → (k ≤ σ (2, 0) i * σ (3, 0) i) → (∀ u : hw_P, u ≠ (8, i) → σ1 u = σ u) → (∀ y, y < k → σ1 (8, i) y = ex_it (mo_t z σ i) (y / σ (3, 0) i) (y % σ (3, 0) i)) → zz_V z σ1 s.heap H locs →  lv_has ls 5 [(0, .ref (zz_A z (1, 0))), (1, .int (nI i)), (2, .int (nI (σ (3, 0) i))), (3, .ref (zz_A z (8, i))), (4, .int (nI k))] →  W p l e (hw_r 2) s m args below meth c H locs 0 0 Q (F0 m 68 ls []) := by
                intro d
                induction d with
                | zero => intro k σ1 H locs ls hd; exact absurd hd (Nat.not_lt_zero _)
                | succ d IH68 =>
                  intro k σ1 H locs ls hd hk2 hkl hfr hv V hl
                  have hB := V.1.2.2
                  refine nw_iload X d_Col_fillMoves_68 (lv_at hl 4 rfl) ?_
                  refine nw_aload_n X d_Col_fillMoves_70 rfl (lv_at hl 3 rfl) ?_
                  refine hw_alen X V (hz (8, i) (by first | exact rfl | assumption | exact (by omega : _ < _))) 0 rfl rfl d_Col_fillMoves_71 ?_
                  rw [show ((zz_l z (8, i).2 : Nat)) = σ (2, 0) i * σ (3, 0) i from hq6]
                  refine nw_icmp_ge X (tgt := 95) d_Col_fillMoves_72 (by decide) (by omega) (by omega) (fun hc => ?_) (fun hc => ?_)
                  · skip
                    exact hret _ _ _ _ _ d_Col_fillMoves_95 V ⟨hfr, fun y hy => hv y (by omega)⟩
                  · skip
                    have e1 : σ1 (8, i) (k - σ (3, 0) i) = ex_it (mo_t z σ i) ((k - σ (3, 0) i) / σ (3, 0) i) ((k - σ (3, 0) i) % σ (3, 0) i) := hv _ (by omega)
                    have e3 : σ1 (8, i) (k - σ (3, 0) i) < σ (3, 0) i := by rw [e1]; exact tb_it_l hw hi hk hc6 (Nat.mod_lt _ (by omega)) _
                    have e2 : σ1 (8, i) (σ (3, 0) i + σ1 (8, i) (k - σ (3, 0) i)) = mo_t z σ i (σ1 (8, i) (k - σ (3, 0) i)) := by rw [hv _ (by omega), fm_d1 e3, fm_m1 e3]; rfl
                    refine nw_aload_n X d_Col_fillMoves_75 rfl (lv_at hl 3 rfl) ?_
                    refine nw_iload X d_Col_fillMoves_76 (lv_at hl 4 rfl) ?_
                    refine nw_aload_n X d_Col_fillMoves_78 rfl (lv_at hl 3 rfl) ?_
                    refine nw_iload_n X d_Col_fillMoves_79 rfl (lv_at hl 2 rfl) ?_
                    refine nw_aload_n X d_Col_fillMoves_80 rfl (lv_at hl 3 rfl) ?_
                    refine nw_iload X d_Col_fillMoves_81 (lv_at hl 4 rfl) ?_
                    refine nw_iload_n X d_Col_fillMoves_83 rfl (lv_at hl 2 rfl) ?_
                    refine nw_isub X (by omega) d_Col_fillMoves_84 ?_
                    refine hw_iald X V (hz (8, i) (by first | exact rfl | assumption | exact (by omega : _ < _))) 0 rfl rfl (Nat.lt_of_lt_of_eq (by omega) hq6.symm) (Nat.lt_of_le_of_lt (Nat.le_of_eq hq6) (by omega)) d_Col_fillMoves_85 ?_
                    refine nw_iadd X d_Col_fillMoves_86 ?_
                    refine hw_iald X V (hz (8, i) (by first | exact rfl | assumption | exact (by omega : _ < _))) 0 rfl rfl (Nat.lt_of_lt_of_eq (by omega) hq6.symm) (Nat.lt_of_le_of_lt (Nat.le_of_eq hq6) (by omega)) d_Col_fillMoves_87 ?_
                    refine hw_iast X V (hz (8, i) (by first | exact rfl | assumption | exact (by omega : _ < _))) 0 (fun _ => rfl) rfl (Nat.lt_of_lt_of_eq hc hq6.symm) (Nat.lt_of_le_of_lt (Nat.le_of_eq hq6) (by omega)) (hB _ _) d_Col_fillMoves_88 (fun H locs V => ?_)
                    refine nw_iinc X (lv' := [(4, _), (0, _), (1, _), (2, _), (3, _)]) (k := 4) 1 d_Col_fillMoves_89 hl rfl (by decide) (by decide) rfl (fun ls hl => ?_)
                    refine nw_goto X (tgt := 68) d_Col_fillMoves_92 (by decide) ?_
                    exact IH68 (k + 1) _ _ _ _ (by omega) (by omega) hc (fun u hu => (hw_up_k _ _ _ hu).trans (hfr u hu)) (fm_put hv (by rw [e2, e1]; exact fm_next (by omega) (by omega))) V (lv_sub hl [1, 2, 3, 4, 0] rfl)
              exact LP68 (σ (2, 0) i * σ (3, 0) i + 1) _ _ _ _ _ (by omega) (Nat.le_refl _) hq.2.2.2.2.2.2 hfr (by rw [show 2 * σ (3, 0) i = σ (3, 0) i + x by omega]; exact hv) V (lv_sub hl [1, 2, 3, 4, 0] rfl)
            · skip
              refine nw_aload_n X d_Col_fillMoves_44 rfl (lv_at hl 3 rfl) ?_
              refine nw_iload_n X d_Col_fillMoves_45 rfl (lv_at hl 2 rfl) ?_
              refine nw_iload X d_Col_fillMoves_46 (lv_at hl 4 rfl) ?_
              refine nw_iadd X d_Col_fillMoves_48 ?_
              refine nw_aload_n X d_Col_fillMoves_49 rfl (lv_at hl 0 rfl) ?_
              refine nw_iload_n X d_Col_fillMoves_50 rfl (lv_at hl 1 rfl) ?_
              refine nw_iload X d_Col_fillMoves_51 (lv_at hl 4 rfl) ?_
              refine hw_calli X V (hz (1, 0) (by first | exact rfl | assumption | exact (by omega : _ < _))) rfl rfl (cm_Col_movedOnce l z σ1 hz i hi hK.1 (fun j h1 h2 => by rw [hfr (6, i) (hw_ne (by decide)), hfr (3, 0) (hw_ne (by decide))]; exact hc6 j h1 h2) x (by rw [hfr (3, 0) (hw_ne (by decide))]; exact hc) (fun y hy => by rw [hfr (3, 0) (hw_ne (by decide)), hv _ (by omega), fm_d1 (show y < σ (3, 0) i by omega), fm_m1 (show y < σ (3, 0) i by omega), hK.2.2.1]; rfl)) cs_Col_73 (by decide) rfl hl.1 rfl (Nat.le_of_ble_eq_true rfl) (by decide) d_Col_fillMoves_53 (fun r σ' H locs V hr => ?_)
              obtain ⟨hσ, rfl⟩ := hr
              rw [hσ] at V
              clear hσ
              have hB := V.1.2.2
              rw [hK.2.2.1]
              refine hw_iast X V (hz (8, i) (by first | exact rfl | assumption | exact (by omega : _ < _))) 0 (fun _ => rfl) rfl (Nat.lt_of_lt_of_eq (by omega) hq6.symm) (Nat.lt_of_le_of_lt (Nat.le_of_eq hq6) (by omega)) (by have : mo_t z σ i x < σ (3, 0) i := tb_s_l hw hi hk hc6 x; omega) d_Col_fillMoves_56 (fun H locs V => ?_)
              refine nw_iinc X (lv' := [(4, _), (0, _), (1, _), (2, _), (3, _)]) (k := 4) 1 d_Col_fillMoves_57 hl rfl (by decide) (by decide) rfl (fun ls hl => ?_)
              refine nw_goto X (tgt := 38) d_Col_fillMoves_60 (by decide) ?_
              exact IH38 (x + 1) _ _ _ _ (by omega) hc (fun u hu => (hw_up_k _ _ _ hu).trans (hfr u hu)) (fm_put hv (by show mo_t z σ i x = ex_it (mo_t z σ i) ((σ (3, 0) i + x) / σ (3, 0) i) ((σ (3, 0) i + x) % σ (3, 0) i); rw [fm_d1 hc, fm_m1 hc]; rfl)) V (lv_sub hl [1, 2, 3, 4, 0] rfl)
        exact LP38 (σ (3, 0) i + 1) 0 _ _ _ _ (by omega) (Nat.zero_le _) hfr (by rw [show σ (3, 0) i + 0 = x by omega]; exact hv) V (lv_sub hl [1, 2, 3, 4, 0] rfl)
      · skip
        refine nw_aload_n X d_Col_fillMoves_23 rfl (lv_at hl 3 rfl) ?_
        refine nw_iload X d_Col_fillMoves_24 (lv_at hl 4 rfl) ?_
        refine nw_iload X d_Col_fillMoves_26 (lv_at hl 4 rfl) ?_
        refine hw_iast X V (hz (8, i) (by first | exact rfl | assumption | exact (by omega : _ < _))) 0 (fun _ => rfl) rfl (Nat.lt_of_lt_of_eq (by omega) hq6.symm) (Nat.lt_of_le_of_lt (Nat.le_of_eq hq6) (by omega)) (by omega) d_Col_fillMoves_28 (fun H locs V => ?_)
        refine nw_iinc X (lv' := [(4, _), (0, _), (1, _), (2, _), (3, _)]) (k := 4) 1 d_Col_fillMoves_29 hl rfl (by decide) (by decide) rfl (fun ls hl => ?_)
        refine nw_goto X (tgt := 17) d_Col_fillMoves_32 (by decide) ?_
        exact IH17 (x + 1) _ _ _ _ (by omega) hc (fun u hu => (hw_up_k _ _ _ hu).trans (hfr u hu)) (fm_put hv (by rw [Nat.div_eq_of_lt hc, Nat.mod_eq_of_lt hc]; rfl)) V (lv_sub hl [1, 2, 3, 4, 0] rfl)
  exact LP17 (σ (3, 0) i + 1) 0 _ _ _ _ (by omega) (Nat.zero_le _) (fun _ _ => rfl) (fun y hy => absurd hy (Nat.not_lt_zero _)) V (lv_sub hl [3, 4, 2, 1, 0] rfl)
set_option maxHeartbeats 4000000 in
set_option maxRecDepth 20000 in
theorem cm_Col_fillCarries (l : Launch) (z : zz_Z) (σ : hw_M) (hz : ∀ k, zz_k (zz_n z) k → zz_O z k) (i : Nat) (hi : i < zz_n z) (hL : lo_ok z σ (i + 1)) (hc6 : ∀ j, i < j → j < zz_n z → σ (6, i) j < σ (3, 0) i) (hm : ∀ y, y < σ (2, 0) i * σ (3, 0) i → σ (8, i) y = ex_it (mo_t z σ i) (y / σ (3, 0) i) (y % σ (3, 0) i)) (hp : σ (4, 0) i < σ (3, 0) i) : Met l y_Col_fillCarries (hw_c y_Col_fillCarries b_Col_fillCarries 4 none) (hw_r 1) (va_Pc [.ref (zz_A z (1, 0)), .int (nI i)] (zz_B z σ)) (va_Qv (fun σ' => (∀ u : hw_P, u ≠ (10, i) → σ' u = σ u) ∧ ∀ y, y < σ (2, 0) i * σ (3, 0) i → σ' (10, i) y = mo_p z σ (zz_n z - (i + 1)) (σ (4, 0) i) (σ (8, i) y)) (zz_B z) (zz_F z)) 0 0 (zz_F z) := by
  refine hw_metv (post := (fun σ' => (∀ u : hw_P, u ≠ (10, i) → σ' u = σ u) ∧ ∀ y, y < σ (2, 0) i * σ (3, 0) i → σ' (10, i) y = mo_p z σ (zz_n z - (i + 1)) (σ (4, 0) i) (σ (8, i) y))) (by decide) (Nat.le_of_ble_eq_true rfl) ?_
  intro p e s m args below meth c ls Q X hret V hl
  have hl : lv_has ls 4 [(0, .ref (zz_A z (1, 0))), (1, .int (nI i))] := hl
  have hB := V.1.2.2
  obtain ⟨⟨hn7, hN, hn, hNe, hw, hsz, hln⟩, hk, ht⟩ := id hL
  have hq := st_lv hL.1 hi
  have ez := st_sz hL.1 hi
  have hq6 := hq.2.2.2.2.2.1
  refine nw_aload_n X d_Col_fillCarries_0 rfl (lv_at hl 0 rfl) ?_
  refine gf_Col_32 X V (hz (1, 0) (by first | exact rfl | assumption | exact (by omega : _ < _))) d_Col_fillCarries_1 ?_
  refine nw_iload_n X d_Col_fillCarries_4 rfl (lv_at hl 1 rfl) ?_
  refine hw_aald X V (hz (9, 0) (by first | exact rfl | assumption | exact (by omega : _ < _))) 2 rfl rfl rfl hi (by omega) rfl d_Col_fillCarries_5 ?_
  refine nw_astore_n X (lv' := [(2, _), (0, _), (1, _)]) d_Col_fillCarries_6 rfl hl (by decide) rfl (fun ls hl => ?_)
  refine nw_iconst X 0 d_Col_fillCarries_7 (by decide) ?_
  refine nw_istore_n X (lv' := [(3, _), (2, _), (0, _), (1, _)]) d_Col_fillCarries_8 rfl hl (by decide) rfl (fun ls hl => ?_)
  have LP9 : ∀ (d k : Nat) (σ1 : hw_M) (H : Heap) (locs : List Loc) (ls : Array Slot), σ (2, 0) i * σ (3, 0) i - k < d → (k ≤ σ (2, 0) i * σ (3, 0) i) → (∀ u : hw_P, u ≠ (10, i) → σ1 u = σ u) → (∀ y, y < k → σ1 (10, i) y = mo_p z σ (zz_n z - (i + 1)) (σ (4, 0) i) (σ (8, i) y)) → zz_V z σ1 s.heap H locs →  lv_has ls 4 [(0, .ref (zz_A z (1, 0))), (1, .int (nI i)), (2, .ref (zz_A z (10, i))), (3, .int (nI k))] →  W p l e (hw_r 1) s m args below meth c H locs 0 0 Q (F0 m 9 ls []) := by
    intro d
    induction d with
    | zero => intro k σ1 H locs ls hd; exact absurd hd (Nat.not_lt_zero _)
    | succ d IH9 =>
      intro k σ1 H locs ls hd hkl hfr hv V hl
      have hB := V.1.2.2
      have hK := lo_keep hL (lo_fr10 (f := i + 1) hfr (Nat.lt_succ_self i))
      refine nw_iload_n X d_Col_fillCarries_9 rfl (lv_at hl 3 rfl) ?_
      refine nw_aload_n X d_Col_fillCarries_10 rfl (lv_at hl 2 rfl) ?_
      refine hw_alen X V (hz (10, i) (by first | exact rfl | assumption | exact (by omega : _ < _))) 0 rfl rfl d_Col_fillCarries_11 ?_
      rw [show ((zz_l z (10, i).2 : Nat)) = σ (2, 0) i * σ (3, 0) i from hq6]
      refine nw_icmp_ge X (tgt := 45) d_Col_fillCarries_12 (by decide) (by omega) (by omega) (fun hc => ?_) (fun hc => ?_)
      · skip
        exact hret _ _ _ _ _ d_Col_fillCarries_45 V ⟨hfr, fun y hy => hv y (by omega)⟩
      · skip
        have hml : σ (8, i) k < σ (3, 0) i := by rw [hm k hc]; exact tb_it_l hw hi hk hc6 (Nat.mod_lt _ hq.1) _
        refine nw_aload_n X d_Col_fillCarries_15 rfl (lv_at hl 2 rfl) ?_
        refine nw_iload_n X d_Col_fillCarries_16 rfl (lv_at hl 3 rfl) ?_
        refine nw_aload_n X d_Col_fillCarries_17 rfl (lv_at hl 0 rfl) ?_
        refine nw_iload_n X d_Col_fillCarries_18 rfl (lv_at hl 1 rfl) ?_
        refine nw_iconst X 1 d_Col_fillCarries_19 (by decide) ?_
        refine nw_iadd X d_Col_fillCarries_20 ?_
        refine nw_aload_n X d_Col_fillCarries_21 rfl (lv_at hl 0 rfl) ?_
        refine gf_Col_20 X V (hz (1, 0) (by first | exact rfl | assumption | exact (by omega : _ < _))) d_Col_fillCarries_22 ?_
        refine nw_iload_n X d_Col_fillCarries_25 rfl (lv_at hl 1 rfl) ?_
        refine hw_iald X V (hz (4, 0) (by first | exact rfl | assumption | exact (by omega : _ < _))) 0 rfl rfl hi (by omega) d_Col_fillCarries_26 ?_
        rw [hfr (4, 0) (hw_ne (by decide))]
        refine nw_aload_n X d_Col_fillCarries_27 rfl (lv_at hl 0 rfl) ?_
        refine gf_Col_29 X V (hz (1, 0) (by first | exact rfl | assumption | exact (by omega : _ < _))) d_Col_fillCarries_28 ?_
        refine nw_iload_n X d_Col_fillCarries_31 rfl (lv_at hl 1 rfl) ?_
        refine hw_aald X V (hz (7, 0) (by first | exact rfl | assumption | exact (by omega : _ < _))) 2 rfl rfl rfl hi (by omega) rfl d_Col_fillCarries_32 ?_
        refine nw_iload_n X d_Col_fillCarries_33 rfl (lv_at hl 3 rfl) ?_
        refine hw_iald X V (hz (8, i) (by first | exact rfl | assumption | exact (by omega : _ < _))) 0 rfl rfl (Nat.lt_of_lt_of_eq hc hq6.symm) (Nat.lt_of_le_of_lt (Nat.le_of_eq hq6) (by omega)) d_Col_fillCarries_34 ?_
        rw [hfr (8, i) (hw_ne (by decide))]
        refine hw_calli X V (hz (1, 0) (by first | exact rfl | assumption | exact (by omega : _ < _))) rfl rfl (cm_Col_multiplyFrom l z σ1 hz (i + 1) (σ (4, 0) i) (σ (8, i) k) hi hK.1 (by rw [hK.2.2.2, ez.2]; exact hp) (by rw [hK.2.2.2, ez.2]; exact hml)) cs_Col_58 (by decide) rfl hl.1 rfl (Nat.le_of_ble_eq_true rfl) (by decide) d_Col_fillCarries_35 (fun r σ' H locs V hr => ?_)
        obtain ⟨hσ, rfl⟩ := hr
        rw [hσ] at V
        clear hσ
        have hB := V.1.2.2
        rw [hK.2.1]
        refine hw_iast X V (hz (10, i) (by first | exact rfl | assumption | exact (by omega : _ < _))) 0 (fun _ => rfl) rfl (Nat.lt_of_lt_of_eq hc hq6.symm) (Nat.lt_of_le_of_lt (Nat.le_of_eq hq6) (by omega)) (by have h1 := (tw_gpi hw hi hk).lt hp hml; have h2 : mo_p z σ (zz_n z - (i + 1)) (σ (4, 0) i) (σ (8, i) k) < σ (3, 0) i := h1; omega) d_Col_fillCarries_38 (fun H locs V => ?_)
        refine nw_iinc X (lv' := [(3, _), (0, _), (1, _), (2, _)]) (k := 3) 1 d_Col_fillCarries_39 hl rfl (by decide) (by decide) rfl (fun ls hl => ?_)
        refine nw_goto X (tgt := 9) d_Col_fillCarries_42 (by decide) ?_
        exact IH9 (k + 1) _ _ _ _ (by omega) hc (fun u hu => (hw_up_k _ _ _ hu).trans (hfr u hu)) (fm_put hv rfl) V (lv_sub hl [1, 2, 3, 0] rfl)
  exact LP9 (σ (2, 0) i * σ (3, 0) i + 1) 0 _ _ _ _ (by omega) (Nat.zero_le _) (fun _ _ => rfl) (fun y hy => absurd hy (Nat.not_lt_zero _)) V (lv_sub hl [2, 3, 1, 0] rfl)
set_option maxHeartbeats 4000000 in
set_option maxRecDepth 20000 in
theorem cm_Col_moveKeepsProducts (l : Launch) (z : zz_Z) (σ : hw_M) (hz : ∀ k, zz_k (zz_n z) k → zz_O z k) (i : Nat) (hi : i < zz_n z) (hL : lo_ok z σ (i + 1)) (hc6 : ∀ j, i < j → j < zz_n z → σ (6, i) j < σ (3, 0) i) (hm : ∀ y, y < σ (2, 0) i * σ (3, 0) i → σ (8, i) y = ex_it (mo_t z σ i) (y / σ (3, 0) i) (y % σ (3, 0) i)) : Met l y_Col_moveKeepsProducts (hw_c y_Col_moveKeepsProducts b_Col_moveKeepsProducts 8 (some .boolean)) (hw_r 1) (va_Pc [.ref (zz_A z (1, 0)), .int (nI i)] (zz_B z σ)) (va_Qi (fun r σ' => ∃ b, b < 2 ∧ r = nI b ∧ (fun b σ' => σ' = σ ∧ (b = 1 ↔ ∀ x j, x < σ (3, 0) i → i < j → j < zz_n z → mo_t z σ i (mo_p z σ (zz_n z - (i + 1)) x (σ (3, 0) j)) = mo_p z σ (zz_n z - (i + 1)) (mo_t z σ i x) (σ (6, i) j))) b σ') (zz_B z) (zz_F z)) 0 0 (zz_F z) := by
  refine hw_metz (post := (fun b σ' => σ' = σ ∧ (b = 1 ↔ ∀ x j, x < σ (3, 0) i → i < j → j < zz_n z → mo_t z σ i (mo_p z σ (zz_n z - (i + 1)) x (σ (3, 0) j)) = mo_p z σ (zz_n z - (i + 1)) (mo_t z σ i x) (σ (6, i) j)))) (by decide) (Nat.le_of_ble_eq_true rfl) ?_
  intro p e s m args below meth c ls Q X hret V hl
  have hl : lv_has ls 8 [(0, .ref (zz_A z (1, 0))), (1, .int (nI i))] := hl
  have hB := V.1.2.2
  obtain ⟨⟨hn7, hN, hn, hNe, hw, hsz, hln⟩, hk, ht⟩ := id hL
  have hq := st_lv hL.1 hi
  have ez := st_sz hL.1 hi
  have hq6 := hq.2.2.2.2.2.1
  have g := tw_gpi hw hi hk
  have hm1 : ∀ y, y < σ (3, 0) i → σ (8, i) (σ (3, 0) i + y) = mo_t z σ i y := fun y hy => by rw [hm _ (by omega), fm_d1 hy, fm_m1 hy]; rfl
  have htl : ∀ y, mo_t z σ i y < σ (3, 0) i := tb_s_l hw hi hk hc6
  refine nw_aload_n X d_Col_moveKeepsProducts_0 rfl (lv_at hl 0 rfl) ?_
  refine gf_Col_17 X V (hz (1, 0) (by first | exact rfl | assumption | exact (by omega : _ < _))) d_Col_moveKeepsProducts_1 ?_
  refine nw_iload_n X d_Col_moveKeepsProducts_4 rfl (lv_at hl 1 rfl) ?_
  refine hw_iald X V (hz (3, 0) (by first | exact rfl | assumption | exact (by omega : _ < _))) 0 rfl rfl hi (by omega) d_Col_moveKeepsProducts_5 ?_
  refine nw_istore_n X (lv' := [(2, _), (0, _), (1, _)]) d_Col_moveKeepsProducts_6 rfl hl (by decide) rfl (fun ls hl => ?_)
  refine nw_aload_n X d_Col_moveKeepsProducts_7 rfl (lv_at hl 1 rfl) ?_
  refine gf_Col_29 X V (hz (1, 0) (by first | exact rfl | assumption | exact (by omega : _ < _))) d_Col_moveKeepsProducts_8 ?_
  refine nw_iload_n X d_Col_moveKeepsProducts_11 rfl (lv_at hl 2 rfl) ?_
  refine hw_aald X V (hz (7, 0) (by first | exact rfl | assumption | exact (by omega : _ < _))) 2 rfl rfl rfl hi (by omega) rfl d_Col_moveKeepsProducts_12 ?_
  refine nw_astore_n X (lv' := [(3, _), (2, _), (0, _), (1, _)]) d_Col_moveKeepsProducts_13 rfl hl (by decide) rfl (fun ls hl => ?_)
  refine nw_iconst X 0 d_Col_moveKeepsProducts_14 (by decide) ?_
  refine nw_istore X (lv' := [(4, _), (3, _), (2, _), (0, _), (1, _)]) d_Col_moveKeepsProducts_15 hl (by decide) rfl (fun ls hl => ?_)
  have LP17 : ∀ (d x : Nat) (H : Heap) (locs : List Loc) (ls : Array Slot), σ (3, 0) i - x < d → (x ≤ σ (3, 0) i) → (∀ y j, y < x → i < j → j < zz_n z → mo_t z σ i (mo_p z σ (zz_n z - (i + 1)) y (σ (3, 0) j)) = mo_p z σ (zz_n z - (i + 1)) (mo_t z σ i y) (σ (6, i) j)) → zz_V z σ s.heap H locs →  lv_has ls 8 [(0, .ref (zz_A z (1, 0))), (1, .int (nI i)), (2, .int (nI (σ (3, 0) i))), (3, .ref (zz_A z (8, i))), (4, .int (nI x))] →  W p l e (hw_r 1) s m args below meth c H locs 0 0 Q (F0 m 17 ls []) := by
    intro d
    induction d with
    | zero => intro x H locs ls hd; exact absurd hd (Nat.not_lt_zero _)
    | succ d IH17 =>
      intro x H locs ls hd hx hall V hl
      have hB := V.1.2.2
      refine nw_iload X d_Col_moveKeepsProducts_17 (lv_at hl 4 rfl) ?_
      refine nw_iload_n X d_Col_moveKeepsProducts_19 rfl (lv_at hl 2 rfl) ?_
      refine nw_icmp_ge X (tgt := 104) d_Col_moveKeepsProducts_20 (by decide) (by first | assumption | omega) (by first | assumption | omega) (fun hcx => ?_) (fun hcx => ?_)
      · skip
        refine nw_iconst X 1 d_Col_moveKeepsProducts_104 (by decide) ?_
        exact hret 1 _ _ _ _ _ d_Col_moveKeepsProducts_105 V (by decide) ⟨rfl, fun _ y j h1 h2 h3 => hall y j (by omega) h2 h3, fun _ => rfl⟩
      · skip
        refine nw_iload_n X d_Col_moveKeepsProducts_23 rfl (lv_at hl 1 rfl) ?_
        refine nw_iconst X 1 d_Col_moveKeepsProducts_24 (by decide) ?_
        refine nw_iadd X d_Col_moveKeepsProducts_25 ?_
        refine nw_istore X (lv' := [(5, _), (0, _), (1, _), (2, _), (3, _), (4, _)]) d_Col_moveKeepsProducts_26 hl (by decide) rfl (fun ls hl => ?_)
        have LP28 : ∀ (d j : Nat) (H : Heap) (locs : List Loc) (ls : Array Slot), zz_n z - j < d → (i < j) → (j ≤ zz_n z) → (∀ k, i < k → k < j → mo_t z σ i (mo_p z σ (zz_n z - (i + 1)) x (σ (3, 0) k)) = mo_p z σ (zz_n z - (i + 1)) (mo_t z σ i x) (σ (6, i) k)) → zz_V z σ s.heap H locs →  lv_has ls 8 [(0, .ref (zz_A z (1, 0))), (1, .int (nI i)), (2, .int (nI (σ (3, 0) i))), (3, .ref (zz_A z (8, i))), (4, .int (nI x)), (5, .int (nI j))] →  W p l e (hw_r 1) s m args below meth c H locs 0 0 Q (F0 m 28 ls []) := by
          intro d
          induction d with
          | zero => intro j H locs ls hd; exact absurd hd (Nat.not_lt_zero _)
          | succ d IH28 =>
            intro j H locs ls hd hij hjn hin V hl
            have hB := V.1.2.2
            refine nw_iload X d_Col_moveKeepsProducts_28 (lv_at hl 5 rfl) ?_
            refine nw_aload_n X d_Col_moveKeepsProducts_30 rfl (lv_at hl 0 rfl) ?_
            refine gf_Col_7 X V (hz (1, 0) (by first | exact rfl | assumption | exact (by omega : _ < _))) d_Col_moveKeepsProducts_31 ?_
            rw [hn]
            refine nw_icmp_ge X (tgt := 98) d_Col_moveKeepsProducts_34 (by decide) (by first | assumption | omega) (by first | assumption | omega) (fun hcj => ?_) (fun hcj => ?_)
            · skip
              refine nw_iinc X (lv' := [(4, _), (0, _), (1, _), (2, _), (3, _), (5, _)]) (k := 4) 1 d_Col_moveKeepsProducts_98 hl rfl (by decide) (by decide) rfl (fun ls hl => ?_)
              refine nw_goto X (tgt := 17) d_Col_moveKeepsProducts_101 (by decide) ?_
              exact IH17 (x + 1) _ _ _ (by omega) hcx (fun y j h1 h2 h3 => by by_cases e : y = x; rw [e]; exact hin j h2 (by omega); exact hall y j (by omega) h2 h3) V (lv_sub hl [1, 2, 3, 4, 0] rfl)
            · skip
              have hj := hcj
              have hwj : σ (3, 0) j < σ (3, 0) i := hw.lt hij hj
              have hcj6 := hc6 j hij hj
              have hlo := g.lt hcx hwj
              have hlo : mo_p z σ (zz_n z - (i + 1)) x (σ (3, 0) j) < σ (3, 0) i := hlo
              have hpa := g.lt (htl x) hcj6
              have hpa : mo_p z σ (zz_n z - (i + 1)) (mo_t z σ i x) (σ (6, i) j) < σ (3, 0) i := hpa
              refine nw_aload_n X d_Col_moveKeepsProducts_37 rfl (lv_at hl 0 rfl) ?_
              refine nw_iload_n X d_Col_moveKeepsProducts_38 rfl (lv_at hl 1 rfl) ?_
              refine nw_iconst X 1 d_Col_moveKeepsProducts_39 (by decide) ?_
              refine nw_iadd X d_Col_moveKeepsProducts_40 ?_
              refine nw_iload X d_Col_moveKeepsProducts_41 (lv_at hl 4 rfl) ?_
              refine nw_aload_n X d_Col_moveKeepsProducts_43 rfl (lv_at hl 0 rfl) ?_
              refine gf_Col_17 X V (hz (1, 0) (by first | exact rfl | assumption | exact (by omega : _ < _))) d_Col_moveKeepsProducts_44 ?_
              refine nw_iload X d_Col_moveKeepsProducts_47 (lv_at hl 5 rfl) ?_
              refine hw_iald X V (hz (3, 0) (by first | exact rfl | assumption | exact (by omega : _ < _))) 0 rfl rfl hj (by omega) d_Col_moveKeepsProducts_49 ?_
              refine hw_calli X V (hz (1, 0) (by first | exact rfl | assumption | exact (by omega : _ < _))) rfl rfl (cm_Col_multiplyFrom l z σ hz (i + 1) _ _ hi hL (by rw [ez.2]; exact hcx) (by rw [ez.2]; exact hwj)) cs_Col_58 (by decide) rfl hl.1 rfl (Nat.le_of_ble_eq_true rfl) (by decide) d_Col_moveKeepsProducts_50 (fun r σ' H locs V hr => ?_)
              obtain ⟨hσ, rfl⟩ := hr
              rw [hσ] at V
              clear hσ
              have hB := V.1.2.2
              refine nw_istore X (lv' := [(6, _), (0, _), (1, _), (2, _), (3, _), (4, _), (5, _)]) d_Col_moveKeepsProducts_53 hl (by decide) rfl (fun ls hl => ?_)
              refine nw_aload_n X d_Col_moveKeepsProducts_55 rfl (lv_at hl 1 rfl) ?_
              refine nw_iload_n X d_Col_moveKeepsProducts_56 rfl (lv_at hl 2 rfl) ?_
              refine nw_iconst X 1 d_Col_moveKeepsProducts_57 (by decide) ?_
              refine nw_iadd X d_Col_moveKeepsProducts_58 ?_
              refine nw_aload_n X d_Col_moveKeepsProducts_59 rfl (lv_at hl 4 rfl) ?_
              refine nw_iload_n X d_Col_moveKeepsProducts_60 rfl (lv_at hl 3 rfl) ?_
              refine nw_iload X d_Col_moveKeepsProducts_61 (lv_at hl 5 rfl) ?_
              refine nw_iadd X d_Col_moveKeepsProducts_63 ?_
              refine hw_iald X V (hz (8, i) (by first | exact rfl | assumption | exact (by omega : _ < _))) 0 rfl rfl (Nat.lt_of_lt_of_eq (by omega) hq6.symm) (Nat.lt_of_le_of_lt (Nat.le_of_eq hq6) (by omega)) d_Col_moveKeepsProducts_64 ?_
              rw [hm1 x hcx]
              refine nw_aload_n X d_Col_moveKeepsProducts_65 rfl (lv_at hl 1 rfl) ?_
              refine gf_Col_25 X V (hz (1, 0) (by first | exact rfl | assumption | exact (by omega : _ < _))) d_Col_moveKeepsProducts_66 ?_
              refine nw_iload_n X d_Col_moveKeepsProducts_69 rfl (lv_at hl 2 rfl) ?_
              refine hw_aald X V (hz (5, 0) (by first | exact rfl | assumption | exact (by omega : _ < _))) 2 rfl rfl rfl hi (by omega) rfl d_Col_moveKeepsProducts_70 ?_
              refine nw_iload X d_Col_moveKeepsProducts_71 (lv_at hl 6 rfl) ?_
              refine hw_iald X V (hz (6, i) (by first | exact rfl | assumption | exact (by omega : _ < _))) 0 rfl rfl hj (by omega) d_Col_moveKeepsProducts_73 ?_
              refine hw_calli X V (hz (1, 0) (by first | exact rfl | assumption | exact (by omega : _ < _))) rfl rfl (cm_Col_multiplyFrom l z σ hz (i + 1) _ _ hi hL (by rw [ez.2]; exact htl x) (by rw [ez.2]; exact hcj6)) cs_Col_58 (by decide) rfl hl.1 rfl (Nat.le_of_ble_eq_true rfl) (by decide) d_Col_moveKeepsProducts_74 (fun r σ' H locs V hr => ?_)
              obtain ⟨hσ, rfl⟩ := hr
              rw [hσ] at V
              clear hσ
              have hB := V.1.2.2
              refine nw_istore X (lv' := [(7, _), (6, _), (0, _), (1, _), (2, _), (3, _), (4, _), (5, _)]) d_Col_moveKeepsProducts_77 hl (by decide) rfl (fun ls hl => ?_)
              refine nw_aload_n X d_Col_moveKeepsProducts_79 rfl (lv_at hl 5 rfl) ?_
              refine nw_iload_n X d_Col_moveKeepsProducts_80 rfl (lv_at hl 4 rfl) ?_
              refine nw_iload X d_Col_moveKeepsProducts_81 (lv_at hl 1 rfl) ?_
              refine nw_iadd X d_Col_moveKeepsProducts_83 ?_
              refine hw_iald X V (hz (8, i) (by first | exact rfl | assumption | exact (by omega : _ < _))) 0 rfl rfl (Nat.lt_of_lt_of_eq (by omega) hq6.symm) (Nat.lt_of_le_of_lt (Nat.le_of_eq hq6) (by omega)) d_Col_moveKeepsProducts_84 ?_
              rw [hm1 _ hlo]
              refine nw_iload X d_Col_moveKeepsProducts_85 (lv_at hl 0 rfl) ?_
              refine nw_icmp_eq X (tgt := 92) d_Col_moveKeepsProducts_87 (by decide) (by have := htl (mo_p z σ (zz_n z - (i + 1)) x (σ (3, 0) j)); omega) (by omega) (fun hc3 => ?_) (fun hc3 => ?_)
              · skip
                refine nw_iinc X (lv' := [(5, _), (7, _), (6, _), (0, _), (1, _), (2, _), (3, _), (4, _)]) (k := 7) 1 d_Col_moveKeepsProducts_92 hl rfl (by decide) (by decide) rfl (fun ls hl => ?_)
                refine nw_goto X (tgt := 28) d_Col_moveKeepsProducts_95 (by decide) ?_
                exact IH28 (j + 1) _ _ _ (by omega) (by omega) hj (fun k h1 h2 => by by_cases e : k = j; rw [e]; exact hc3; exact hin k h1 (by omega)) V (lv_sub hl [3, 4, 5, 6, 7, 0] rfl)
              · skip
                refine nw_iconst X 0 d_Col_moveKeepsProducts_90 (by decide) ?_
                exact hret 0 _ _ _ _ _ d_Col_moveKeepsProducts_91 V (by decide) ⟨rfl, fun q => absurd q (by decide), fun q => absurd (q x j hcx hij hj) hc3⟩
        exact LP28 (zz_n z + 1) (i + 1) _ _ _ (by omega) (by omega) hi (fun k h1 h2 => by omega) V (lv_sub hl [1, 2, 3, 4, 5, 0] rfl)
  exact LP17 (σ (3, 0) i + 1) 0 _ _ _ (by omega) (Nat.zero_le _) (fun y j hy => absurd hy (Nat.not_lt_zero _)) V (lv_sub hl [3, 4, 2, 1, 0] rfl)
set_option maxHeartbeats 4000000 in
set_option maxRecDepth 20000 in
theorem cm_Col_moveKeepsPower (l : Launch) (z : zz_Z) (σ : hw_M) (hz : ∀ k, zz_k (zz_n z) k → zz_O z k) (i : Nat) (hi : i < zz_n z) (hL : lo_ok z σ (i + 1)) (hc6 : ∀ j, i < j → j < zz_n z → σ (6, i) j < σ (3, 0) i) (hm : ∀ y, y < σ (2, 0) i * σ (3, 0) i → σ (8, i) y = ex_it (mo_t z σ i) (y / σ (3, 0) i) (y % σ (3, 0) i)) (hp : σ (4, 0) i < σ (3, 0) i) : Met l y_Col_moveKeepsPower (hw_c y_Col_moveKeepsPower b_Col_moveKeepsPower 2 (some .boolean)) (hw_r 0) (va_Pc [.ref (zz_A z (1, 0)), .int (nI i)] (zz_B z σ)) (va_Qi (fun r σ' => ∃ b, b < 2 ∧ r = nI b ∧ (fun b σ' => σ' = σ ∧ (b = 1 ↔ mo_t z σ i (σ (4, 0) i) = σ (4, 0) i)) b σ') (zz_B z) (zz_F z)) 0 0 (zz_F z) := by
  refine hw_metz (post := (fun b σ' => σ' = σ ∧ (b = 1 ↔ mo_t z σ i (σ (4, 0) i) = σ (4, 0) i))) (by decide) (Nat.le_of_ble_eq_true rfl) ?_
  intro p e s m args below meth c ls Q X hret V hl
  have hl : lv_has ls 2 [(0, .ref (zz_A z (1, 0))), (1, .int (nI i))] := hl
  have hB := V.1.2.2
  obtain ⟨⟨hn7, hN, hn, hNe, hw, hsz, hln⟩, hk, ht⟩ := id hL
  have hq := st_lv hL.1 hi
  have ez := st_sz hL.1 hi
  have hq6 := hq.2.2.2.2.2.1
  have g := tw_gpi hw hi hk
  have hm1 : ∀ y, y < σ (3, 0) i → σ (8, i) (σ (3, 0) i + y) = mo_t z σ i y := fun y hy => by rw [hm _ (by omega), fm_d1 hy, fm_m1 hy]; rfl
  have htl : ∀ y, mo_t z σ i y < σ (3, 0) i := tb_s_l hw hi hk hc6
  refine nw_aload_n X d_Col_moveKeepsPower_0 rfl (lv_at hl 0 rfl) ?_
  refine gf_Col_29 X V (hz (1, 0) (by first | exact rfl | assumption | exact (by omega : _ < _))) d_Col_moveKeepsPower_1 ?_
  refine nw_iload_n X d_Col_moveKeepsPower_4 rfl (lv_at hl 1 rfl) ?_
  refine hw_aald X V (hz (7, 0) (by first | exact rfl | assumption | exact (by omega : _ < _))) 2 rfl rfl rfl hi (by omega) rfl d_Col_moveKeepsPower_5 ?_
  refine nw_aload_n X d_Col_moveKeepsPower_6 rfl (lv_at hl 0 rfl) ?_
  refine gf_Col_17 X V (hz (1, 0) (by first | exact rfl | assumption | exact (by omega : _ < _))) d_Col_moveKeepsPower_7 ?_
  refine nw_iload_n X d_Col_moveKeepsPower_10 rfl (lv_at hl 1 rfl) ?_
  refine hw_iald X V (hz (3, 0) (by first | exact rfl | assumption | exact (by omega : _ < _))) 0 rfl rfl hi (by omega) d_Col_moveKeepsPower_11 ?_
  refine nw_aload_n X d_Col_moveKeepsPower_12 rfl (lv_at hl 0 rfl) ?_
  refine gf_Col_20 X V (hz (1, 0) (by first | exact rfl | assumption | exact (by omega : _ < _))) d_Col_moveKeepsPower_13 ?_
  refine nw_iload_n X d_Col_moveKeepsPower_16 rfl (lv_at hl 1 rfl) ?_
  refine hw_iald X V (hz (4, 0) (by first | exact rfl | assumption | exact (by omega : _ < _))) 0 rfl rfl hi (by omega) d_Col_moveKeepsPower_17 ?_
  refine nw_iadd X d_Col_moveKeepsPower_18 ?_
  refine hw_iald X V (hz (8, i) (by first | exact rfl | assumption | exact (by omega : _ < _))) 0 rfl rfl (Nat.lt_of_lt_of_eq (by omega) hq6.symm) (Nat.lt_of_le_of_lt (Nat.le_of_eq hq6) (by omega)) d_Col_moveKeepsPower_19 ?_
  rw [hm1 _ hp]
  refine nw_aload_n X d_Col_moveKeepsPower_20 rfl (lv_at hl 0 rfl) ?_
  refine gf_Col_20 X V (hz (1, 0) (by first | exact rfl | assumption | exact (by omega : _ < _))) d_Col_moveKeepsPower_21 ?_
  refine nw_iload_n X d_Col_moveKeepsPower_24 rfl (lv_at hl 1 rfl) ?_
  refine hw_iald X V (hz (4, 0) (by first | exact rfl | assumption | exact (by omega : _ < _))) 0 rfl rfl hi (by omega) d_Col_moveKeepsPower_25 ?_
  refine nw_icmp_ne X (tgt := 33) d_Col_moveKeepsPower_26 (by decide) (by have := htl (σ (4, 0) i); omega) (hB _ _) (fun hc => ?_) (fun hc => ?_)
  · skip
    refine nw_iconst X 0 d_Col_moveKeepsPower_33 (by decide) ?_
    exact hret 0 _ _ _ _ _ d_Col_moveKeepsPower_34 V (by decide) ⟨rfl, fun q => absurd q (by decide), fun q => absurd q hc⟩
  · skip
    refine nw_iconst X 1 d_Col_moveKeepsPower_29 (by decide) ?_
    refine nw_goto X (tgt := 34) d_Col_moveKeepsPower_30 (by decide) ?_
    exact hret 1 _ _ _ _ _ d_Col_moveKeepsPower_34 V (by decide) ⟨rfl, fun _ => hc, fun _ => rfl⟩
set_option maxHeartbeats 4000000 in
set_option maxRecDepth 20000 in
theorem cm_Col_fullTurnIsPower (l : Launch) (z : zz_Z) (σ : hw_M) (hz : ∀ k, zz_k (zz_n z) k → zz_O z k) (i : Nat) (hi : i < zz_n z) (hL : lo_ok z σ (i + 1)) (hc6 : ∀ j, i < j → j < zz_n z → σ (6, i) j < σ (3, 0) i) (hm : ∀ y, y < σ (2, 0) i * σ (3, 0) i → σ (8, i) y = ex_it (mo_t z σ i) (y / σ (3, 0) i) (y % σ (3, 0) i)) (hp : σ (4, 0) i < σ (3, 0) i) : Met l y_Col_fullTurnIsPower (hw_c y_Col_fullTurnIsPower b_Col_fullTurnIsPower 7 (some .boolean)) (hw_r 1) (va_Pc [.ref (zz_A z (1, 0)), .int (nI i)] (zz_B z σ)) (va_Qi (fun r σ' => ∃ b, b < 2 ∧ r = nI b ∧ (fun b σ' => σ' = σ ∧ (b = 1 ↔ ∀ x, x < σ (3, 0) i → mo_p z σ (zz_n z - (i + 1)) (σ (4, 0) i) (ex_it (mo_t z σ i) (σ (2, 0) i) x) = mo_p z σ (zz_n z - (i + 1)) x (σ (4, 0) i))) b σ') (zz_B z) (zz_F z)) 0 0 (zz_F z) := by
  refine hw_metz (post := (fun b σ' => σ' = σ ∧ (b = 1 ↔ ∀ x, x < σ (3, 0) i → mo_p z σ (zz_n z - (i + 1)) (σ (4, 0) i) (ex_it (mo_t z σ i) (σ (2, 0) i) x) = mo_p z σ (zz_n z - (i + 1)) x (σ (4, 0) i)))) (by decide) (Nat.le_of_ble_eq_true rfl) ?_
  intro p e s m args below meth c ls Q X hret V hl
  have hl : lv_has ls 7 [(0, .ref (zz_A z (1, 0))), (1, .int (nI i))] := hl
  have hB := V.1.2.2
  obtain ⟨⟨hn7, hN, hn, hNe, hw, hsz, hln⟩, hk, ht⟩ := id hL
  have hq := st_lv hL.1 hi
  have ez := st_sz hL.1 hi
  have hq6 := hq.2.2.2.2.2.1
  have g := tw_gpi hw hi hk
  have hm1 : ∀ y, y < σ (3, 0) i → σ (8, i) (σ (3, 0) i + y) = mo_t z σ i y := fun y hy => by rw [hm _ (by omega), fm_d1 hy, fm_m1 hy]; rfl
  have htl : ∀ y, mo_t z σ i y < σ (3, 0) i := tb_s_l hw hi hk hc6
  refine nw_aload_n X d_Col_fullTurnIsPower_0 rfl (lv_at hl 0 rfl) ?_
  refine gf_Col_17 X V (hz (1, 0) (by first | exact rfl | assumption | exact (by omega : _ < _))) d_Col_fullTurnIsPower_1 ?_
  refine nw_iload_n X d_Col_fullTurnIsPower_4 rfl (lv_at hl 1 rfl) ?_
  refine hw_iald X V (hz (3, 0) (by first | exact rfl | assumption | exact (by omega : _ < _))) 0 rfl rfl hi (by omega) d_Col_fullTurnIsPower_5 ?_
  refine nw_istore_n X (lv' := [(2, _), (0, _), (1, _)]) d_Col_fullTurnIsPower_6 rfl hl (by decide) rfl (fun ls hl => ?_)
  refine nw_aload_n X d_Col_fullTurnIsPower_7 rfl (lv_at hl 1 rfl) ?_
  refine gf_Col_29 X V (hz (1, 0) (by first | exact rfl | assumption | exact (by omega : _ < _))) d_Col_fullTurnIsPower_8 ?_
  refine nw_iload_n X d_Col_fullTurnIsPower_11 rfl (lv_at hl 2 rfl) ?_
  refine hw_aald X V (hz (7, 0) (by first | exact rfl | assumption | exact (by omega : _ < _))) 2 rfl rfl rfl hi (by omega) rfl d_Col_fullTurnIsPower_12 ?_
  refine nw_astore_n X (lv' := [(3, _), (2, _), (0, _), (1, _)]) d_Col_fullTurnIsPower_13 rfl hl (by decide) rfl (fun ls hl => ?_)
  refine nw_aload_n X d_Col_fullTurnIsPower_14 rfl (lv_at hl 2 rfl) ?_
  refine gf_Col_13 X V (hz (1, 0) (by first | exact rfl | assumption | exact (by omega : _ < _))) d_Col_fullTurnIsPower_15 ?_
  refine nw_iload_n X d_Col_fullTurnIsPower_18 rfl (lv_at hl 3 rfl) ?_
  refine hw_iald X V (hz (2, 0) (by first | exact rfl | assumption | exact (by omega : _ < _))) 0 rfl rfl hi (by omega) d_Col_fullTurnIsPower_19 ?_
  refine nw_iconst X 1 d_Col_fullTurnIsPower_20 (by decide) ?_
  refine nw_isub X (by omega) d_Col_fullTurnIsPower_21 ?_
  refine nw_iload_n X d_Col_fullTurnIsPower_22 rfl (lv_at hl 1 rfl) ?_
  refine nw_imul X d_Col_fullTurnIsPower_23 ?_
  refine nw_istore X (lv' := [(4, _), (3, _), (2, _), (0, _), (1, _)]) d_Col_fullTurnIsPower_24 hl (by decide) rfl (fun ls hl => ?_)
  refine nw_iconst X 0 d_Col_fullTurnIsPower_26 (by decide) ?_
  refine nw_istore X (lv' := [(5, _), (4, _), (3, _), (2, _), (0, _), (1, _)]) d_Col_fullTurnIsPower_27 hl (by decide) rfl (fun ls hl => ?_)
  have LP29 : ∀ (d x : Nat) (H : Heap) (locs : List Loc) (ls : Array Slot), σ (3, 0) i - x < d → (x ≤ σ (3, 0) i) → (∀ y, y < x → mo_p z σ (zz_n z - (i + 1)) (σ (4, 0) i) (ex_it (mo_t z σ i) (σ (2, 0) i) y) = mo_p z σ (zz_n z - (i + 1)) y (σ (4, 0) i)) → zz_V z σ s.heap H locs →  lv_has ls 7 [(0, .ref (zz_A z (1, 0))), (1, .int (nI i)), (2, .int (nI (σ (3, 0) i))), (3, .ref (zz_A z (8, i))), (4, .int (nI ((σ (2, 0) i - 1) * σ (3, 0) i))), (5, .int (nI x))] →  W p l e (hw_r 1) s m args below meth c H locs 0 0 Q (F0 m 29 ls []) := by
    intro d
    induction d with
    | zero => intro x H locs ls hd; exact absurd hd (Nat.not_lt_zero _)
    | succ d IH29 =>
      intro x H locs ls hd hx hall V hl
      have hB := V.1.2.2
      refine nw_iload X d_Col_fullTurnIsPower_29 (lv_at hl 5 rfl) ?_
      refine nw_iload_n X d_Col_fullTurnIsPower_31 rfl (lv_at hl 2 rfl) ?_
      refine nw_icmp_ge X (tgt := 89) d_Col_fullTurnIsPower_32 (by decide) (by first | assumption | omega) (by first | assumption | omega) (fun hcx => ?_) (fun hcx => ?_)
      · skip
        refine nw_iconst X 1 d_Col_fullTurnIsPower_89 (by decide) ?_
        exact hret 1 _ _ _ _ _ d_Col_fullTurnIsPower_90 V (by decide) ⟨rfl, fun _ y h1 => hall y (by omega), fun _ => rfl⟩
      · skip
        have hlr : (σ (2, 0) i - 1) * σ (3, 0) i + x < σ (2, 0) i * σ (3, 0) i := ex_lt (by omega) hcx
        have e0 : σ (8, i) ((σ (2, 0) i - 1) * σ (3, 0) i + x) = ex_it (mo_t z σ i) (σ (2, 0) i - 1) x := by rw [hm _ hlr, (ex_d hcx).1, (ex_d hcx).2]
        have e1 : ex_it (mo_t z σ i) (σ (2, 0) i - 1) x < σ (3, 0) i := tb_it_l hw hi hk hc6 hcx _
        have e2 : mo_t z σ i (ex_it (mo_t z σ i) (σ (2, 0) i - 1) x) = ex_it (mo_t z σ i) (σ (2, 0) i) x := congrArg (fun k => ex_it (mo_t z σ i) k x) (show σ (2, 0) i - 1 + 1 = σ (2, 0) i by omega)
        have e3 : ex_it (mo_t z σ i) (σ (2, 0) i) x < σ (3, 0) i := by rw [← e2]; exact htl _
        have u1 := g.lt hp e3
        have u1 : mo_p z σ (zz_n z - (i + 1)) (σ (4, 0) i) (ex_it (mo_t z σ i) (σ (2, 0) i) x) < σ (3, 0) i := u1
        have u2 := g.lt hcx hp
        have u2 : mo_p z σ (zz_n z - (i + 1)) x (σ (4, 0) i) < σ (3, 0) i := u2
        refine nw_aload_n X d_Col_fullTurnIsPower_35 rfl (lv_at hl 3 rfl) ?_
        refine nw_iload_n X d_Col_fullTurnIsPower_36 rfl (lv_at hl 2 rfl) ?_
        refine nw_aload_n X d_Col_fullTurnIsPower_37 rfl (lv_at hl 3 rfl) ?_
        refine nw_iload X d_Col_fullTurnIsPower_38 (lv_at hl 4 rfl) ?_
        refine nw_iload X d_Col_fullTurnIsPower_40 (lv_at hl 5 rfl) ?_
        refine nw_iadd X d_Col_fullTurnIsPower_42 ?_
        refine hw_iald X V (hz (8, i) (by first | exact rfl | assumption | exact (by omega : _ < _))) 0 rfl rfl (Nat.lt_of_lt_of_eq hlr hq6.symm) (Nat.lt_of_le_of_lt (Nat.le_of_eq hq6) (by omega)) d_Col_fullTurnIsPower_43 ?_
        rw [e0]
        refine nw_iadd X d_Col_fullTurnIsPower_44 ?_
        refine hw_iald X V (hz (8, i) (by first | exact rfl | assumption | exact (by omega : _ < _))) 0 rfl rfl (Nat.lt_of_lt_of_eq (by omega) hq6.symm) (Nat.lt_of_le_of_lt (Nat.le_of_eq hq6) (by omega)) d_Col_fullTurnIsPower_45 ?_
        rw [hm1 _ e1, e2]
        refine nw_istore X (lv' := [(6, _), (0, _), (1, _), (2, _), (3, _), (4, _), (5, _)]) d_Col_fullTurnIsPower_46 hl (by decide) rfl (fun ls hl => ?_)
        refine nw_aload_n X d_Col_fullTurnIsPower_48 rfl (lv_at hl 1 rfl) ?_
        refine nw_iload_n X d_Col_fullTurnIsPower_49 rfl (lv_at hl 2 rfl) ?_
        refine nw_iconst X 1 d_Col_fullTurnIsPower_50 (by decide) ?_
        refine nw_iadd X d_Col_fullTurnIsPower_51 ?_
        refine nw_aload_n X d_Col_fullTurnIsPower_52 rfl (lv_at hl 1 rfl) ?_
        refine gf_Col_20 X V (hz (1, 0) (by first | exact rfl | assumption | exact (by omega : _ < _))) d_Col_fullTurnIsPower_53 ?_
        refine nw_iload_n X d_Col_fullTurnIsPower_56 rfl (lv_at hl 2 rfl) ?_
        refine hw_iald X V (hz (4, 0) (by first | exact rfl | assumption | exact (by omega : _ < _))) 0 rfl rfl hi (by omega) d_Col_fullTurnIsPower_57 ?_
        refine nw_iload X d_Col_fullTurnIsPower_58 (lv_at hl 0 rfl) ?_
        refine hw_calli X V (hz (1, 0) (by first | exact rfl | assumption | exact (by omega : _ < _))) rfl rfl (cm_Col_multiplyFrom l z σ hz (i + 1) _ _ hi hL (by rw [ez.2]; exact hp) (by rw [ez.2]; exact e3)) cs_Col_58 (by decide) rfl hl.1 rfl (Nat.le_of_ble_eq_true rfl) (by decide) d_Col_fullTurnIsPower_60 (fun r σ' H locs V hr => ?_)
        obtain ⟨hσ, rfl⟩ := hr
        rw [hσ] at V
        clear hσ
        have hB := V.1.2.2
        refine nw_aload_n X d_Col_fullTurnIsPower_63 rfl (lv_at hl 1 rfl) ?_
        refine nw_iload_n X d_Col_fullTurnIsPower_64 rfl (lv_at hl 2 rfl) ?_
        refine nw_iconst X 1 d_Col_fullTurnIsPower_65 (by decide) ?_
        refine nw_iadd X d_Col_fullTurnIsPower_66 ?_
        refine nw_iload X d_Col_fullTurnIsPower_67 (lv_at hl 6 rfl) ?_
        refine nw_aload_n X d_Col_fullTurnIsPower_69 rfl (lv_at hl 1 rfl) ?_
        refine gf_Col_20 X V (hz (1, 0) (by first | exact rfl | assumption | exact (by omega : _ < _))) d_Col_fullTurnIsPower_70 ?_
        refine nw_iload_n X d_Col_fullTurnIsPower_73 rfl (lv_at hl 2 rfl) ?_
        refine hw_iald X V (hz (4, 0) (by first | exact rfl | assumption | exact (by omega : _ < _))) 0 rfl rfl hi (by omega) d_Col_fullTurnIsPower_74 ?_
        refine hw_calli X V (hz (1, 0) (by first | exact rfl | assumption | exact (by omega : _ < _))) rfl rfl (cm_Col_multiplyFrom l z σ hz (i + 1) _ _ hi hL (by rw [ez.2]; exact hcx) (by rw [ez.2]; exact hp)) cs_Col_58 (by decide) rfl hl.1 rfl (Nat.le_of_ble_eq_true rfl) (by decide) d_Col_fullTurnIsPower_75 (fun r σ' H locs V hr => ?_)
        obtain ⟨hσ, rfl⟩ := hr
        rw [hσ] at V
        clear hσ
        have hB := V.1.2.2
        refine nw_icmp_eq X (tgt := 83) d_Col_fullTurnIsPower_78 (by decide) (by omega) (by omega) (fun hc3 => ?_) (fun hc3 => ?_)
        · skip
          refine nw_iinc X (lv' := [(5, _), (6, _), (0, _), (1, _), (2, _), (3, _), (4, _)]) (k := 6) 1 d_Col_fullTurnIsPower_83 hl rfl (by decide) (by decide) rfl (fun ls hl => ?_)
          refine nw_goto X (tgt := 29) d_Col_fullTurnIsPower_86 (by decide) ?_
          exact IH29 (x + 1) _ _ _ (by omega) hcx (fun y hy => by by_cases e : y = x; rw [e]; exact hc3; exact hall y (by omega)) V (lv_sub hl [2, 3, 4, 5, 6, 0] rfl)
        · skip
          refine nw_iconst X 0 d_Col_fullTurnIsPower_81 (by decide) ?_
          exact hret 0 _ _ _ _ _ d_Col_fullTurnIsPower_82 V (by decide) ⟨rfl, fun q => absurd q (by decide), fun q => absurd (q x hcx) hc3⟩
  exact LP29 (σ (3, 0) i + 1) 0 _ _ _ (by omega) (Nat.zero_le _) (fun y hy => absurd hy (Nat.not_lt_zero _)) V (lv_sub hl [4, 5, 3, 2, 1, 0] rfl)
end
section
/-! The Collector: building. By program (wip/whole/gen/col4.py). -/
set_option maxHeartbeats 4000000 in
set_option maxRecDepth 20000 in
theorem cm_Col_build (l : Launch) (z : zz_Z) (σ : hw_M) (hz : ∀ k, zz_k (zz_n z) k → zz_O z k) (hS : st_ok z σ) (hR : rl_ok z σ) : Met l y_Col_build (hw_c y_Col_build b_Col_build 2 (some .boolean)) (hw_r 3) (va_Pc [.ref (zz_A z (1, 0))] (zz_B z σ)) (va_Qi (fun r σ' => ∃ b, b < 2 ∧ r = nI b ∧ (fun b σ' => (∀ u : hw_P, u.1 ≠ 8 → u.1 ≠ 10 → σ' u = σ u) ∧ (b = 1 ↔ mo_k z σ (zz_n z)) ∧ (b = 1 → lo_ok z σ' 0)) b σ') (zz_B z) (zz_F z)) 0 0 (zz_F z) := by
  refine hw_metz (post := (fun b σ' => (∀ u : hw_P, u.1 ≠ 8 → u.1 ≠ 10 → σ' u = σ u) ∧ (b = 1 ↔ mo_k z σ (zz_n z)) ∧ (b = 1 → lo_ok z σ' 0))) (by decide) (Nat.le_of_ble_eq_true rfl) ?_
  intro p e s m args below meth c ls Q X hret V hl
  have hl : lv_has ls 2 [(0, .ref (zz_A z (1, 0)))] := hl
  have hB := V.1.2.2
  obtain ⟨hn7, hN, hn, hNe, hw, hsz, hln⟩ := id hS
  refine nw_aload_n X d_Col_build_0 rfl (lv_at hl 0 rfl) ?_
  refine gf_Col_7 X V (hz (1, 0) (by first | exact rfl | assumption | exact (by omega : _ < _))) d_Col_build_1 ?_
  rw [hn]
  refine nw_iconst X 1 d_Col_build_4 (by decide) ?_
  refine nw_isub1 X d_Col_build_5 ?_
  refine nw_istore_n X (lv' := [(1, _), (0, _)]) d_Col_build_6 rfl hl (by decide) rfl (fun ls hl => ?_)
  have LP7 : ∀ (d k : Nat) (σ1 : hw_M) (H : Heap) (locs : List Loc) (ls : Array Slot), k < d → (k ≤ zz_n z) → (∀ u : hw_P, u.1 ≠ 8 → u.1 ≠ 10 → σ1 u = σ u) → (lo_ok z σ1 k) → zz_V z σ1 s.heap H locs →  lv_has ls 2 [(0, .ref (zz_A z (1, 0))), (1, .int (nI k - 1))] →  W p l e (hw_r 3) s m args below meth c H locs 0 0 Q (F0 m 7 ls []) := by
    intro d
    induction d with
    | zero => intro k σ1 H locs ls hd; exact absurd hd (Nat.not_lt_zero _)
    | succ d IH7 =>
      intro k σ1 H locs ls hd hkn hfr hL V hl
      have hB := V.1.2.2
      refine nw_iload_n X d_Col_build_7 rfl (lv_at hl 1 rfl) ?_
      refine nw_if_ltp X (tgt := 53) d_Col_build_8 (by decide) (by omega) (fun hk0 => ?_) (fun i hki => ?_)
      · skip
        subst hk0
        refine nw_iconst X 1 d_Col_build_53 (by decide) ?_
        exact hret 1 _ _ _ _ _ d_Col_build_54 V (by decide) ⟨hfr, ⟨fun _ => bl_k hfr hL, fun _ => rfl⟩, fun _ => hL⟩
      · skip
        subst hki
        rw [nI_pred] at hl
        have hi : i < zz_n z := hkn
        have hR1 := rl_keep hR hfr
        refine nw_aload_n X d_Col_build_11 rfl (lv_at hl 0 rfl) ?_
        refine nw_iload_n X d_Col_build_12 rfl (lv_at hl 1 rfl) ?_
        refine hw_callv X V (hz (1, 0) (by first | exact rfl | assumption | exact (by omega : _ < _))) rfl rfl (cm_Col_fillMoves l z σ1 hz i hi hL (hR1.2 i)) cs_Col_42 (by decide) rfl hl.1 rfl (Nat.le_of_ble_eq_true rfl) (by decide) d_Col_build_13 (fun σ2 H locs V hr => ?_)
        obtain ⟨f1, v1⟩ := hr
        have h2 := bl_mid hi hL f1 v1
        have hR2 := rl_keep hR1 h2.2.2
        have hB := V.1.2.2
        refine nw_aload_n X d_Col_build_16 rfl (lv_at hl 0 rfl) ?_
        refine nw_iload_n X d_Col_build_17 rfl (lv_at hl 1 rfl) ?_
        refine hw_callv X V (hz (1, 0) (by first | exact rfl | assumption | exact (by omega : _ < _))) rfl rfl (cm_Col_fillCarries l z σ2 hz i hi h2.1 (hR2.2 i) h2.2.1 (hR2.1 i hi)) cs_Col_46 (by decide) rfl hl.1 rfl (Nat.le_of_ble_eq_true rfl) (by decide) d_Col_build_18 (fun σ3 H locs V hr => ?_)
        obtain ⟨f2, v2⟩ := hr
        have h3 := bl_end (σ := σ) hi h2.1 h2.2.1 hR2 f2 v2 (fun u a b => (h2.2.2 u a b).trans (hfr u a b))
        have hR3 := rl_keep hR h3.2.2.2
        have hB := V.1.2.2
        refine nw_aload_n X d_Col_build_21 rfl (lv_at hl 0 rfl) ?_
        refine nw_iload_n X d_Col_build_22 rfl (lv_at hl 1 rfl) ?_
        refine hw_calli X V (hz (1, 0) (by first | exact rfl | assumption | exact (by omega : _ < _))) rfl rfl (cm_Col_moveKeepsProducts l z σ3 hz i hi h3.1.1 (hR3.2 i) h3.1.2) cs_Col_49 (by decide) rfl hl.1 rfl (Nat.le_of_ble_eq_true rfl) (by decide) d_Col_build_23 (fun r σ' H locs V hr => ?_)
        obtain ⟨b1, b12, rfl, hσ, b1p⟩ := hr
        rw [hσ] at V
        clear hσ
        have hB := V.1.2.2
        refine nw_if_eq X (tgt := 45) d_Col_build_26 (by decide) (by omega) (fun hc => ?_) (fun hd1 => ?_)
        · skip
          have hc1 : ¬ b1 = 1 := by omega
          refine nw_iconst X 0 d_Col_build_45 (by decide) ?_
          exact hret 0 _ _ _ _ _ d_Col_build_46 V (by decide) ⟨h3.2.2.2, ⟨fun q => absurd q (by decide), fun hk => absurd (h3.2.2.1.mp (bl_le h3.2.2.2 hk (by omega))) (fun q => hc1 (b1p.mpr q.1))⟩, fun q => absurd q (by decide)⟩
        · skip
          refine nw_aload_n X d_Col_build_29 rfl (lv_at hl 0 rfl) ?_
          refine nw_iload_n X d_Col_build_30 rfl (lv_at hl 1 rfl) ?_
          refine hw_calli X V (hz (1, 0) (by first | exact rfl | assumption | exact (by omega : _ < _))) rfl rfl (cm_Col_moveKeepsPower l z σ3 hz i hi h3.1.1 (hR3.2 i) h3.1.2 (hR3.1 i hi)) cs_Col_52 (by decide) rfl hl.1 rfl (Nat.le_of_ble_eq_true rfl) (by decide) d_Col_build_31 (fun r σ' H locs V hr => ?_)
          obtain ⟨b2, b22, rfl, hσ, b2p⟩ := hr
          rw [hσ] at V
          clear hσ
          have hB := V.1.2.2
          refine nw_if_eq X (tgt := 45) d_Col_build_34 (by decide) (by omega) (fun hc => ?_) (fun hd2 => ?_)
          · skip
            have hc2 : ¬ b2 = 1 := by omega
            refine nw_iconst X 0 d_Col_build_45 (by decide) ?_
            exact hret 0 _ _ _ _ _ d_Col_build_46 V (by decide) ⟨h3.2.2.2, ⟨fun q => absurd q (by decide), fun hk => absurd (h3.2.2.1.mp (bl_le h3.2.2.2 hk (by omega))) (fun q => hc2 (b2p.mpr q.2.1))⟩, fun q => absurd q (by decide)⟩
          · skip
            refine nw_aload_n X d_Col_build_37 rfl (lv_at hl 0 rfl) ?_
            refine nw_iload_n X d_Col_build_38 rfl (lv_at hl 1 rfl) ?_
            refine hw_calli X V (hz (1, 0) (by first | exact rfl | assumption | exact (by omega : _ < _))) rfl rfl (cm_Col_fullTurnIsPower l z σ3 hz i hi h3.1.1 (hR3.2 i) h3.1.2 (hR3.1 i hi)) cs_Col_55 (by decide) rfl hl.1 rfl (Nat.le_of_ble_eq_true rfl) (by decide) d_Col_build_39 (fun r σ' H locs V hr => ?_)
            obtain ⟨b3, b32, rfl, hσ, b3p⟩ := hr
            rw [hσ] at V
            clear hσ
            have hB := V.1.2.2
            refine nw_if_ne X (tgt := 47) d_Col_build_42 (by decide) (by omega) (fun hd3 => ?_) (fun hc => ?_)
            · skip
              refine nw_idec X (lv' := [(1, _), (0, _)]) (k := 1) d_Col_build_47 hl rfl (by decide) rfl (fun ls hl => ?_)
              refine nw_goto X (tgt := 7) d_Col_build_50 (by decide) ?_
              exact IH7 i _ _ _ _ (by omega) (by omega) h3.2.2.2 (h3.2.1 (h3.2.2.1.mpr ⟨b1p.mp (by omega), b2p.mp (by omega), b3p.mp (by omega)⟩)) V (lv_sub hl [1, 0] rfl)
            · skip
              have hc3 : ¬ b3 = 1 := by omega
              refine nw_iconst X 0 d_Col_build_45 (by decide) ?_
              exact hret 0 _ _ _ _ _ d_Col_build_46 V (by decide) ⟨h3.2.2.2, ⟨fun q => absurd q (by decide), fun hk => absurd (h3.2.2.1.mp (bl_le h3.2.2.2 hk (by omega))) (fun q => hc3 (b3p.mpr q.2.2))⟩, fun q => absurd q (by decide)⟩
  exact LP7 (zz_n z + 1) (zz_n z) _ _ _ _ (by omega) (Nat.le_refl _) (fun _ _ _ => rfl) (lo_top hS) V (lv_sub hl [1, 0] rfl)
end
section
/-! Subgroups: contracts. By program (wip/whole/gen/sub.py). -/
set_option maxHeartbeats 4000000 in
set_option maxRecDepth 20000 in
theorem cm_Sub_amount (l : Launch) (z : zz_Z) (σ : hw_M) (hz : ∀ k, zz_k (zz_n z) k → zz_O z k) (j : Nat) (hj : j < 7) (hN : zz_N z ≤ 128) (q : List Nat) (hE : es_ok z σ j q) : Met l y_Sub_amount (hw_c y_Sub_amount b_Sub_amount 1 (some .int)) (hw_r 1) (va_Pc [.ref (zz_A z (12, j))] (zz_B z σ)) (va_Qi (fun r σ' => σ' = σ ∧ r = nI q.length) (zz_B z) (zz_F z)) 0 0 (zz_F z) := by
  refine hw_meti (post := (fun r σ' => σ' = σ ∧ r = nI q.length)) (by decide) (Nat.le_of_ble_eq_true rfl) ?_
  intro p e s m args below meth c ls Q X hret V hl
  have hl : lv_has ls 1 [(0, .ref (zz_A z (12, j)))] := hl
  have hB := V.1.2.2
  have o1 : zz_O z (1, 0) := hz (1, 0) rfl
  have h12 : zz_O z (12, j) := hz (12, j) (show j < 7 by omega)
  have h13 : zz_O z (13, j) := hz (13, j) (show j < 8 by omega)
  have h14 : zz_O z (14, j) := hz (14, j) (show j < 8 by omega)
  have h15 : zz_O z (15, j) := hz (15, j) (show j < 8 by omega)
  have h16 : zz_O z (16, j) := hz (16, j) (show j < 7 by omega)
  refine nw_aload_n X d_Sub_amount_0 rfl (lv_at hl 0 rfl) ?_
  refine gf_Sub_26 X V h12 d_Sub_amount_1 ?_
  refine hw_calli X V h13 rfl rfl (cm_Set_amount l z σ j q h13 h14 h15 hN hE) cs_Sub_41 (by decide) rfl hl.1 rfl (Nat.le_of_ble_eq_true rfl) (by decide) d_Sub_amount_4 (fun r σ' H locs V hr => ?_)
  obtain ⟨hσ, rfl⟩ := hr
  rw [hσ] at V
  clear hσ
  have hB := V.1.2.2
  exact hret _ _ _ _ _ _ d_Sub_amount_7 V ⟨rfl, rfl⟩
set_option maxHeartbeats 4000000 in
set_option maxRecDepth 20000 in
theorem cm_Sub_holds (l : Launch) (z : zz_Z) (σ : hw_M) (hz : ∀ k, zz_k (zz_n z) k → zz_O z k) (j : Nat) (hj : j < 7) (hN : zz_N z ≤ 128) (q : List Nat) (hE : es_ok z σ j q) (a : Nat) (ha : a < zz_N z) : Met l y_Sub_holds (hw_c y_Sub_holds b_Sub_holds 2 (some .boolean)) (hw_r 1) (va_Pc [.ref (zz_A z (12, j)), .int (nI a)] (zz_B z σ)) (va_Qi (fun r σ' => ∃ b, b < 2 ∧ r = nI b ∧ (fun b σ' => σ' = σ ∧ b = if a ∈ q then 1 else 0) b σ') (zz_B z) (zz_F z)) 0 0 (zz_F z) := by
  refine hw_metz (post := (fun b σ' => σ' = σ ∧ b = if a ∈ q then 1 else 0)) (by decide) (Nat.le_of_ble_eq_true rfl) ?_
  intro p e s m args below meth c ls Q X hret V hl
  have hl : lv_has ls 2 [(0, .ref (zz_A z (12, j))), (1, .int (nI a))] := hl
  have hB := V.1.2.2
  have o1 : zz_O z (1, 0) := hz (1, 0) rfl
  have h12 : zz_O z (12, j) := hz (12, j) (show j < 7 by omega)
  have h13 : zz_O z (13, j) := hz (13, j) (show j < 8 by omega)
  have h14 : zz_O z (14, j) := hz (14, j) (show j < 8 by omega)
  have h15 : zz_O z (15, j) := hz (15, j) (show j < 8 by omega)
  have h16 : zz_O z (16, j) := hz (16, j) (show j < 7 by omega)
  refine nw_aload_n X d_Sub_holds_0 rfl (lv_at hl 0 rfl) ?_
  refine gf_Sub_26 X V h12 d_Sub_holds_1 ?_
  refine nw_iload_n X d_Sub_holds_4 rfl (lv_at hl 1 rfl) ?_
  refine hw_calli X V h13 rfl rfl (cm_Set_holds l z σ j q h13 h14 h15 hN hE a ha) cs_Sub_44 (by decide) rfl hl.1 rfl (Nat.le_of_ble_eq_true rfl) (by decide) d_Sub_holds_5 (fun r σ' H locs V hr => ?_)
  obtain ⟨b, hb2, rfl, hσ, hbp⟩ := hr
  rw [hσ] at V
  exact hret _ _ _ _ _ _ d_Sub_holds_8 V hb2 ⟨rfl, hbp⟩
set_option maxHeartbeats 4000000 in
set_option maxRecDepth 20000 in
theorem cm_Sub_reset (l : Launch) (z : zz_Z) (σ : hw_M) (hz : ∀ k, zz_k (zz_n z) k → zz_O z k) (j : Nat) (hj : j < 7) (hN : zz_N z ≤ 128) (q : List Nat) (hE : es_ok z σ j q) (h0 : 0 < zz_N z) : Met l y_Sub_reset (hw_c y_Sub_reset b_Sub_reset 1 none) (hw_r 1) (va_Pc [.ref (zz_A z (12, j))] (zz_B z σ)) (va_Qv (fun σ' => sg_ok z σ' j [0] [] ∧ sg_fr j σ σ') (zz_B z) (zz_F z)) 0 0 (zz_F z) := by
  refine hw_metv (post := (fun σ' => sg_ok z σ' j [0] [] ∧ sg_fr j σ σ')) (by decide) (Nat.le_of_ble_eq_true rfl) ?_
  intro p e s m args below meth c ls Q X hret V hl
  have hl : lv_has ls 1 [(0, .ref (zz_A z (12, j)))] := hl
  have hB := V.1.2.2
  have o1 : zz_O z (1, 0) := hz (1, 0) rfl
  have h12 : zz_O z (12, j) := hz (12, j) (show j < 7 by omega)
  have h13 : zz_O z (13, j) := hz (13, j) (show j < 8 by omega)
  have h14 : zz_O z (14, j) := hz (14, j) (show j < 8 by omega)
  have h15 : zz_O z (15, j) := hz (15, j) (show j < 8 by omega)
  have h16 : zz_O z (16, j) := hz (16, j) (show j < 7 by omega)
  refine nw_aload_n X d_Sub_reset_0 rfl (lv_at hl 0 rfl) ?_
  refine gf_Sub_26 X V h12 d_Sub_reset_1 ?_
  refine hw_callv X V h13 rfl rfl (cm_Set_empty l z σ j q h13 h14 h15 hN hE) cs_Sub_48 (by decide) rfl hl.1 rfl (Nat.le_of_ble_eq_true rfl) (by decide) d_Sub_reset_4 (fun σ1 H locs V hr => ?_)
  obtain ⟨e1, f1⟩ := hr
  refine nw_aload_n X d_Sub_reset_7 rfl (lv_at hl 0 rfl) ?_
  refine gf_Sub_26 X V h12 d_Sub_reset_8 ?_
  refine nw_iconst X 0 d_Sub_reset_11 (by decide) ?_
  refine hw_callv X V h13 rfl rfl (cm_Set_add l z σ1 j [] h13 h14 h15 hN e1 0 h0) cs_Sub_38 (by decide) rfl hl.1 rfl (Nat.le_of_ble_eq_true rfl) (by decide) d_Sub_reset_12 (fun σ2 H locs V hr => ?_)
  obtain ⟨e2, f2⟩ := hr
  refine nw_aload_n X d_Sub_reset_15 rfl (lv_at hl 0 rfl) ?_
  refine nw_iconst X 0 d_Sub_reset_16 (by decide) ?_
  refine pf_Sub_34 X V h12 (by decide) d_Sub_reset_17 (fun H locs V => ?_)
  exact hret _ _ _ _ _ d_Sub_reset_20 V ⟨sg_zero e2, (f1.sg.tr f2.sg).tr sg_fr.up12⟩
set_option maxHeartbeats 4000000 in
set_option maxRecDepth 20000 in
theorem cm_Sub_include (l : Launch) (z : zz_Z) (σ : hw_M) (hz : ∀ k, zz_k (zz_n z) k → zz_O z k) (j : Nat) (hj : j < 7) (hL : lo_ok z σ 0) (q bs : List Nat) (hG : sg_gp z (gr_p z σ) σ j q bs) (a : Nat) (ha : a < zz_N z) : Met l y_Sub_include (hw_c y_Sub_include b_Sub_include 4 none) (hw_r 2) (va_Pc [.ref (zz_A z (12, j)), .int (nI a)] (zz_B z σ)) (va_Qv (fun σ' => ∃ q' c', sg_gp z (gr_p z σ) σ' j q' c' ∧ a ∈ q' ∧ (c' = bs ∨ c' = bs ++ [a]) ∧ sg_fr j σ σ') (zz_B z) (zz_F z)) 0 0 (zz_F z) := by
  refine hw_metv (post := (fun σ' => ∃ q' c', sg_gp z (gr_p z σ) σ' j q' c' ∧ a ∈ q' ∧ (c' = bs ∨ c' = bs ++ [a]) ∧ sg_fr j σ σ')) (by decide) (Nat.le_of_ble_eq_true rfl) ?_
  intro p e s m args below meth c ls Q X hret V hl
  have hl : lv_has ls 4 [(0, .ref (zz_A z (12, j))), (1, .int (nI a))] := hl
  have hB := V.1.2.2
  have o1 : zz_O z (1, 0) := hz (1, 0) rfl
  have h12 : zz_O z (12, j) := hz (12, j) (show j < 7 by omega)
  have h13 : zz_O z (13, j) := hz (13, j) (show j < 8 by omega)
  have h14 : zz_O z (14, j) := hz (14, j) (show j < 8 by omega)
  have h15 : zz_O z (15, j) := hz (15, j) (show j < 8 by omega)
  have h16 : zz_O z (16, j) := hz (16, j) (show j < 7 by omega)
  obtain ⟨⟨hn7, hN, hn, hNe, hw, hsz, hln⟩, hk, ht⟩ := id hL
  have g := lo_gp hL
  have hE := hG.1.1
  refine nw_aload_n X d_Sub_include_0 rfl (lv_at hl 0 rfl) ?_
  refine gf_Sub_26 X V h12 d_Sub_include_1 ?_
  refine nw_iload_n X d_Sub_include_4 rfl (lv_at hl 1 rfl) ?_
  refine hw_calli X V h13 rfl rfl (cm_Set_holds l z σ j q h13 h14 h15 hN hE a ha) cs_Sub_44 (by decide) rfl hl.1 rfl (Nat.le_of_ble_eq_true rfl) (by decide) d_Sub_include_5 (fun r σ' H locs V hr => ?_)
  obtain ⟨b, hb2, rfl, hσ, hbp⟩ := hr
  rw [hσ] at V
  clear hσ
  have hB := V.1.2.2
  refine nw_if_ne X (tgt := 20) d_Sub_include_8 (by decide) (by omega) (fun hb0 => ?_) (fun hb0 => ?_)
  · skip
    have hin : a ∈ q := Classical.byContradiction fun h => hb0 (by rw [hbp, if_neg h])
    exact hret _ _ _ _ _ d_Sub_include_20 V ⟨q, bs, hG, hin, Or.inl rfl, sg_fr.rf⟩
  · skip
    have hn : a ∉ q := fun h => by rw [if_pos h] at hbp; omega
    have hc7 := sg_room hN hG ha hn
    have hbl := hG.1.2.1
    refine nw_aload_n X d_Sub_include_11 rfl (lv_at hl 0 rfl) ?_
    refine gf_Sub_34 X V h12 d_Sub_include_12 ?_
    rw [hbl]
    refine nw_bipush X 7 d_Sub_include_15 (by decide) ?_
    refine nw_icmp_lt X (tgt := 21) d_Sub_include_17 (by decide) (by omega) (by decide) (fun hc => ?_) (fun hc => ?_)
    · skip
      refine nw_aload_n X d_Sub_include_21 rfl (lv_at hl 0 rfl) ?_
      refine gf_Sub_30 X V h12 d_Sub_include_22 ?_
      refine nw_aload_n X d_Sub_include_25 rfl (lv_at hl 0 rfl) ?_
      refine gf_Sub_34 X V h12 d_Sub_include_26 ?_
      rw [hbl]
      refine nw_iload_n X d_Sub_include_29 rfl (lv_at hl 1 rfl) ?_
      refine hw_iast X V h16 0 (fun _ => rfl) rfl hc7 (by decide) (by omega) d_Sub_include_30 (fun H locs V => ?_)
      refine nw_aload_n X d_Sub_include_31 rfl (lv_at hl 0 rfl) ?_
      refine nw_dup X d_Sub_include_32 rfl ?_
      refine gf_Sub_34 X V h12 d_Sub_include_33 ?_
      rw [hw_up_k _ _ _ (hw_ne (by decide)), hbl]
      refine nw_iconst X 1 d_Sub_include_36 (by decide) ?_
      refine nw_iadd X d_Sub_include_37 ?_
      refine pf_Sub_34 X V h12 (by omega) d_Sub_include_38 (fun H locs V => ?_)
      refine nw_iconst X 0 d_Sub_include_41 (by decide) ?_
      refine nw_istore_n X (lv' := [(2, _), (0, _), (1, _)]) d_Sub_include_42 rfl hl (by decide) rfl (fun ls hl => ?_)
      have LP43 : ∀ (d k : Nat) (q1 : List Nat) (σ1 : hw_M) (H : Heap) (locs : List Loc) (ls : Array Slot), zz_N z - k < d → (k ≤ zz_N z) → (k ≤ q1.length) → (sg_ok z σ1 j q1 (bs ++ [a])) → (sg_fr j σ σ1) → (0 ∈ q1) → (∀ x, x ∈ q1 → gp_gn (zz_N z) (gr_p z σ) (fun y => y ∈ bs ++ [a]) x) → (∀ i, i < k → i < q1.length → ∀ b, b ∈ bs ++ [a] → gr_p z σ (q1.getD i 0) b ∈ q1) → zz_V z σ1 s.heap H locs →  lv_has ls 4 [(0, .ref (zz_A z (12, j))), (1, .int (nI a)), (2, .int (nI k))] →  W p l e (hw_r 2) s m args below meth c H locs 0 0 Q (F0 m 43 ls []) := by
        intro d
        induction d with
        | zero => intro k q1 σ1 H locs ls hd; exact absurd hd (Nat.not_lt_zero _)
        | succ d IH43 =>
          intro k q1 σ1 H locs ls hd hkN hkl hok hfr h0 hg hcl V hl
          have hB := V.1.2.2
          have hE1 := hok.1
          have hlen := es_len hE1
          have hLo := sg_lo hL hfr
          refine nw_iload_n X d_Sub_include_43 rfl (lv_at hl 2 rfl) ?_
          refine nw_aload_n X d_Sub_include_44 rfl (lv_at hl 0 rfl) ?_
          refine gf_Sub_9 X V h12 d_Sub_include_45 ?_
          refine hw_calli X V o1 rfl rfl (cm_Col_elementCount l z σ1 o1) cs_Sub_17 (by decide) rfl hl.1 rfl (Nat.le_of_ble_eq_true rfl) (by decide) d_Sub_include_48 (fun r σ' H locs V hr => ?_)
          obtain ⟨hσ, rfl⟩ := hr
          rw [hσ] at V
          clear hσ
          have hB := V.1.2.2
          rw [hLo.1.1.2.2.2.1]
          refine nw_icmp_ge X (tgt := 115) d_Sub_include_51 (by decide) (by first | assumption | omega) (by first | assumption | omega) (fun hck => ?_) (fun hck => ?_)
          · skip
            exact hret _ _ _ _ _ d_Sub_include_115 V (by
              have h9 := sg_end g hG hn hok h0 hg (k := k) (by omega) hcl
              exact ⟨q1, bs ++ [a], h9.1, h9.2, Or.inr rfl, hfr⟩)
          · skip
            refine nw_iload_n X d_Sub_include_54 rfl (lv_at hl 2 rfl) ?_
            refine nw_aload_n X d_Sub_include_55 rfl (lv_at hl 0 rfl) ?_
            refine gf_Sub_26 X V h12 d_Sub_include_56 ?_
            refine hw_calli X V h13 rfl rfl (cm_Set_amount l z σ1 j q1 h13 h14 h15 hN hE1) cs_Sub_41 (by decide) rfl hl.1 rfl (Nat.le_of_ble_eq_true rfl) (by decide) d_Sub_include_59 (fun r σ' H locs V hr => ?_)
            obtain ⟨hσ, rfl⟩ := hr
            rw [hσ] at V
            clear hσ
            have hB := V.1.2.2
            refine nw_icmp_ge X (tgt := 115) d_Sub_include_62 (by decide) (by first | assumption | omega) (by first | assumption | omega) (fun hcq => ?_) (fun hkl2 => ?_)
            · skip
              exact hret _ _ _ _ _ d_Sub_include_115 V (by
                have h9 := sg_end g hG hn hok h0 hg (k := k) (by omega) hcl
                exact ⟨q1, bs ++ [a], h9.1, h9.2, Or.inr rfl, hfr⟩)
            · skip
              refine nw_iconst X 0 d_Sub_include_65 (by decide) ?_
              refine nw_istore_n X (lv' := [(3, _), (0, _), (1, _), (2, _)]) d_Sub_include_66 rfl hl (by decide) rfl (fun ls hl => ?_)
              have LP67 : ∀ (d t : Nat) (q1 : List Nat) (σ1 : hw_M) (H : Heap) (locs : List Loc) (ls : Array Slot), (bs ++ [a]).length - t < d → (t ≤ (bs ++ [a]).length) → (k + 1 ≤ q1.length) → (sg_ok z σ1 j q1 (bs ++ [a])) → (sg_fr j σ σ1) → (0 ∈ q1) → (∀ x, x ∈ q1 → gp_gn (zz_N z) (gr_p z σ) (fun y => y ∈ bs ++ [a]) x) → (∀ i, i < k → i < q1.length → ∀ b, b ∈ bs ++ [a] → gr_p z σ (q1.getD i 0) b ∈ q1) → (∀ i, i < t → gr_p z σ (q1.getD k 0) ((bs ++ [a]).getD i 0) ∈ q1) → zz_V z σ1 s.heap H locs →  lv_has ls 4 [(0, .ref (zz_A z (12, j))), (1, .int (nI a)), (2, .int (nI k)), (3, .int (nI t))] →  W p l e (hw_r 2) s m args below meth c H locs 0 0 Q (F0 m 67 ls []) := by
                intro d
                induction d with
                | zero => intro t q1 σ1 H locs ls hd; exact absurd hd (Nat.not_lt_zero _)
                | succ d IH67 =>
                  intro t q1 σ1 H locs ls hd htl hkl hok hfr h0 hg hcl hin V hl
                  have hB := V.1.2.2
                  have hE1 := hok.1
                  have hlen := es_len hE1
                  have hLo := sg_lo hL hfr
                  have hcl7 := hok.2.2.1
                  have hkl2 := hkl
                  refine nw_iload_n X d_Sub_include_67 rfl (lv_at hl 3 rfl) ?_
                  refine nw_aload_n X d_Sub_include_68 rfl (lv_at hl 0 rfl) ?_
                  refine gf_Sub_34 X V h12 d_Sub_include_69 ?_
                  rw [hok.2.1]
                  refine nw_icmp_ge X (tgt := 109) d_Sub_include_72 (by decide) (by first | assumption | omega) (by first | assumption | omega) (fun htc => ?_) (fun htc => ?_)
                  · skip
                    refine nw_iinc X (lv' := [(2, _), (0, _), (1, _), (3, _)]) (k := 2) 1 d_Sub_include_109 hl rfl (by decide) (by decide) rfl (fun ls hl => ?_)
                    refine nw_goto X (tgt := 43) d_Sub_include_112 (by decide) ?_
                    exact IH43 (k + 1) q1 _ _ _ _ (by omega) hck hkl2 hok hfr h0 hg (fun i h1 h2 b hb => by
                      by_cases e : i = k
                      · obtain ⟨t, ht1, ht2⟩ := ls_mem_at hb
                        rw [e, ← ht2]
                        exact hin t (by omega)
                      · exact hcl i (by omega) h2 b hb) V (lv_sub hl [1, 2, 0] rfl)
                  · skip
                    have hb9 : (bs ++ [a]).getD t 0 < zz_N z := hok.2.2.2.2 _ (ls_at_mem htc)
                    have hq9 : q1.getD k 0 < zz_N z := hE1.2.1 _ (ls_at_mem (by omega))
                    refine nw_aload_n X d_Sub_include_75 rfl (lv_at hl 0 rfl) ?_
                    refine gf_Sub_26 X V h12 d_Sub_include_76 ?_
                    refine nw_aload_n X d_Sub_include_79 rfl (lv_at hl 0 rfl) ?_
                    refine gf_Sub_9 X V h12 d_Sub_include_80 ?_
                    refine nw_aload_n X d_Sub_include_83 rfl (lv_at hl 0 rfl) ?_
                    refine gf_Sub_26 X V h12 d_Sub_include_84 ?_
                    refine nw_iload_n X d_Sub_include_87 rfl (lv_at hl 2 rfl) ?_
                    refine hw_calli X V h13 rfl rfl (cm_Set_member l z σ1 j q1 h13 h14 h15 hN hE1 k (by omega)) cs_Sub_51 (by decide) rfl hl.1 rfl (Nat.le_of_ble_eq_true rfl) (by decide) d_Sub_include_88 (fun r σ' H locs V hr => ?_)
                    obtain ⟨hσ, rfl⟩ := hr
                    rw [hσ] at V
                    clear hσ
                    have hB := V.1.2.2
                    refine nw_aload_n X d_Sub_include_91 rfl (lv_at hl 0 rfl) ?_
                    refine gf_Sub_30 X V h12 d_Sub_include_92 ?_
                    refine nw_iload_n X d_Sub_include_95 rfl (lv_at hl 3 rfl) ?_
                    refine hw_iald X V h16 0 rfl rfl (by omega) (by decide) d_Sub_include_96 ?_
                    rw [hok.2.2.2.1 t htc]
                    refine hw_calli X V o1 rfl rfl (cm_Col_multiply l z σ1 hz hLo.1 _ _ hq9 hb9) cs_Sub_55 (by decide) rfl hl.1 rfl (Nat.le_of_ble_eq_true rfl) (by decide) d_Sub_include_97 (fun r σ' H locs V hr => ?_)
                    obtain ⟨hσ, rfl⟩ := hr
                    rw [hσ] at V
                    clear hσ
                    have hB := V.1.2.2
                    rw [hLo.2]
                    have hxl : gr_p z σ (q1.getD k 0) ((bs ++ [a]).getD t 0) < zz_N z := g.lt hq9 hb9
                    have hgx : gp_gn (zz_N z) (gr_p z σ) (fun y => y ∈ bs ++ [a]) (gr_p z σ (q1.getD k 0) ((bs ++ [a]).getD t 0)) := (gp_gn.sb g hok.2.2.2.2).2.2 _ _ (hg _ (ls_at_mem (by omega))) (gp_gn.in (ls_at_mem htc))
                    generalize hxe : gr_p z σ (q1.getD k 0) ((bs ++ [a]).getD t 0) = x at hxl hgx ⊢
                    refine hw_callv X V h13 rfl rfl (cm_Set_add l z σ1 j q1 h13 h14 h15 hN hE1 x hxl) cs_Sub_38 (by decide) rfl hl.1 rfl (Nat.le_of_ble_eq_true rfl) (by decide) d_Sub_include_100 (fun σ2 H locs V hr => ?_)
                    obtain ⟨e9, f9⟩ := hr
                    have hB := V.1.2.2
                    refine nw_iinc X (lv' := [(3, _), (0, _), (1, _), (2, _)]) (k := 3) 1 d_Sub_include_103 hl rfl (by decide) (by decide) rfl (fun ls hl => ?_)
                    refine nw_goto X (tgt := 67) d_Sub_include_106 (by decide) ?_
                    exact IH67 (t + 1) (ls_add q1 x) _ _ _ _ (by omega) htc (Nat.le_trans hkl ls_add_len) (sg_es hok e9 f9) (hfr.tr f9.sg) (ls_add_mem.mpr (Or.inl h0)) (fun y hy => (ls_add_mem.mp hy).elim (hg y) (fun e => by rw [e]; exact hgx)) (ls_cl_add hcl (by omega)) (fun i hi => by
                      rw [ls_add_at (show k < q1.length by omega)]
                      by_cases e : i = t
                      · rw [e]; exact ls_add_mem.mpr (Or.inr hxe)
                      · exact ls_add_mem.mpr (Or.inl (hin i (by omega)))) V (lv_sub hl [1, 2, 3, 0] rfl)
              exact LP67 ((bs ++ [a]).length + 1) 0 q1 _ _ _ _ (by omega) (Nat.zero_le _) hkl2 hok hfr h0 hg hcl (fun i hi => absurd hi (Nat.not_lt_zero _)) V (lv_sub hl [1, 2, 3, 0] rfl)
      exact LP43 (zz_N z + 1) 0 q _ _ _ _ (by omega) (Nat.zero_le _) (Nat.zero_le _) (sg_push hG.1 hc7 ha) ((sg_fr.up16).tr sg_fr.up12) ((hG.2.1 0).mpr (gp_gn.sb g hG.1.2.2.2.2).1) (fun x hx => gp_gn.mono (fun y hy => List.mem_append_left _ hy) ((hG.2.1 x).mp hx)) (fun i hi => absurd hi (Nat.not_lt_zero _)) V (lv_sub hl [1, 2, 0] rfl)
    · skip
      exact absurd hc (by omega)
end
section
/-! Subgroups: conjugates and commutators of what generates. By program (wip/whole/gen/sub2.py). -/
set_option maxHeartbeats 4000000 in
set_option maxRecDepth 20000 in
theorem cm_Sub_includeConjugates (l : Launch) (z : zz_Z) (σ : hw_M) (hz : ∀ k, zz_k (zz_n z) k → zz_O z k) (j : Nat) (hj : j < 7) (hL : lo_ok z σ 0) (q bs : List Nat) (hG : sg_gp z (gr_p z σ) σ j q bs) (a : Nat) (ha : a < zz_N z) (js : Nat) (hjs : js < 7) (hnes : js ≠ j) (qs bs0 : List Nat) (hSs0 : sg_ok z σ js qs bs0) : Met l y_Sub_includeConjugates (hw_c y_Sub_includeConjugates b_Sub_includeConjugates 4 none) (hw_r 3) (va_Pc [.ref (zz_A z (12, j)), .int (nI a), .ref (zz_A z (12, js))] (zz_B z σ)) (va_Qv (fun σ' => ∃ q' c', sg_gp z (gr_p z σ) σ' j q' c' ∧ (∃ x, c' = bs ++ x ∧ ∀ y, y ∈ x → ∃ b, b ∈ bs0 ∧ y = gp_cj (zz_N z) (gr_p z σ) a b) ∧ (∀ b, b ∈ bs0 → gp_cj (zz_N z) (gr_p z σ) a b ∈ q') ∧ sg_fr j σ σ') (zz_B z) (zz_F z)) 0 0 (zz_F z) := by
  refine hw_metv (post := (fun σ' => ∃ q' c', sg_gp z (gr_p z σ) σ' j q' c' ∧ (∃ x, c' = bs ++ x ∧ ∀ y, y ∈ x → ∃ b, b ∈ bs0 ∧ y = gp_cj (zz_N z) (gr_p z σ) a b) ∧ (∀ b, b ∈ bs0 → gp_cj (zz_N z) (gr_p z σ) a b ∈ q') ∧ sg_fr j σ σ')) (by decide) (Nat.le_of_ble_eq_true rfl) ?_
  intro p e s m args below meth c ls Q X hret V hl
  have hl : lv_has ls 4 [(0, .ref (zz_A z (12, j))), (1, .int (nI a)), (2, .ref (zz_A z (12, js)))] := hl
  have hB := V.1.2.2
  have o1 : zz_O z (1, 0) := hz (1, 0) rfl
  have h12 : zz_O z (12, j) := hz (12, j) (show j < 7 by omega)
  have h13 : zz_O z (13, j) := hz (13, j) (show j < 8 by omega)
  have h14 : zz_O z (14, j) := hz (14, j) (show j < 8 by omega)
  have h15 : zz_O z (15, j) := hz (15, j) (show j < 8 by omega)
  have h16 : zz_O z (16, j) := hz (16, j) (show j < 7 by omega)
  obtain ⟨⟨hn7, hN, hn, hNe, hw, hsz, hln⟩, hk, ht⟩ := id hL
  have g := lo_gp hL
  have hE := hG.1.1
  have h12s : zz_O z (12, js) := hz (12, js) (show js < 7 by omega)
  have h13s : zz_O z (13, js) := hz (13, js) (show js < 8 by omega)
  have h14s : zz_O z (14, js) := hz (14, js) (show js < 8 by omega)
  have h15s : zz_O z (15, js) := hz (15, js) (show js < 8 by omega)
  have h16s : zz_O z (16, js) := hz (16, js) (show js < 7 by omega)
  have hsl0 := hSs0.2.2.1
  refine nw_iconst X 0 d_Sub_includeConjugates_0 (by decide) ?_
  refine nw_istore_n X (lv' := [(3, _), (0, _), (1, _), (2, _)]) d_Sub_includeConjugates_1 rfl hl (by decide) rfl (fun ls hl => ?_)
  have LP2 : ∀ (d i : Nat) (q1 c1 : List Nat) (σ1 : hw_M) (H : Heap) (locs : List Loc) (ls : Array Slot), bs0.length - i < d → (i ≤ bs0.length) → (sg_fr j σ σ1) → (sg_gp z (gr_p z σ) σ1 j q1 c1) → (∃ x, c1 = bs ++ x ∧ ∀ y, y ∈ x → ∃ b, b ∈ bs0 ∧ y = gp_cj (zz_N z) (gr_p z σ) a b) → (∀ t, t < i → gp_cj (zz_N z) (gr_p z σ) a (bs0.getD t 0) ∈ q1) → zz_V z σ1 s.heap H locs →  lv_has ls 4 [(0, .ref (zz_A z (12, j))), (1, .int (nI a)), (2, .ref (zz_A z (12, js))), (3, .int (nI i))] →  W p l e (hw_r 3) s m args below meth c H locs 0 0 Q (F0 m 2 ls []) := by
    intro d
    induction d with
    | zero => intro i q1 c1 σ1 H locs ls hd; exact absurd hd (Nat.not_lt_zero _)
    | succ d IH2 =>
      intro i q1 c1 σ1 H locs ls hd hil hfr hG1 hx hin V hl
      have hB := V.1.2.2
      have hLo := sg_lo hL hfr
      have hSs := sg_oth hSs0 hfr hnes
      have hsl := hSs.2.2.1
      refine nw_iload_n X d_Sub_includeConjugates_2 rfl (lv_at hl 3 rfl) ?_
      refine nw_aload_n X d_Sub_includeConjugates_3 rfl (lv_at hl 2 rfl) ?_
      refine gf_Sub_34 X V h12s d_Sub_includeConjugates_4 ?_
      rw [hSs.2.1]
      refine nw_icmp_ge X (tgt := 34) d_Sub_includeConjugates_7 (by decide) (by first | assumption | omega) (by first | assumption | omega) (fun hci => ?_) (fun hci => ?_)
      · skip
        exact hret _ _ _ _ _ d_Sub_includeConjugates_34 V ⟨q1, c1, hG1, hx, fun b hb => by obtain ⟨t, ht1, ht2⟩ := ls_mem_at hb; rw [← ht2]; exact hin t (by omega), hfr⟩
      · skip
        have hb9 : bs0.getD i 0 < zz_N z := hSs.2.2.2.2 _ (ls_at_mem hci)
        refine nw_aload_n X d_Sub_includeConjugates_10 rfl (lv_at hl 0 rfl) ?_
        refine nw_aload_n X d_Sub_includeConjugates_11 rfl (lv_at hl 0 rfl) ?_
        refine gf_Sub_9 X V h12 d_Sub_includeConjugates_12 ?_
        refine nw_iload_n X d_Sub_includeConjugates_15 rfl (lv_at hl 1 rfl) ?_
        refine nw_aload_n X d_Sub_includeConjugates_16 rfl (lv_at hl 2 rfl) ?_
        refine gf_Sub_30 X V h12s d_Sub_includeConjugates_17 ?_
        refine nw_iload_n X d_Sub_includeConjugates_20 rfl (lv_at hl 3 rfl) ?_
        refine hw_iald X V h16s 0 rfl rfl (by omega) (by decide) d_Sub_includeConjugates_21 ?_
        rw [hSs.2.2.2.1 i hci]
        refine hw_calli X V o1 rfl rfl (cm_Col_conjugateOf l z σ1 hz hLo.1 _ _ ha hb9) cs_Sub_78 (by decide) rfl hl.1 rfl (Nat.le_of_ble_eq_true rfl) (by decide) d_Sub_includeConjugates_22 (fun r σ' H locs V hr => ?_)
        obtain ⟨hσ, rfl⟩ := hr
        rw [hσ] at V
        clear hσ
        have hB := V.1.2.2
        rw [hLo.2]
        refine hw_callv X V h12 rfl rfl (cm_Sub_include l z σ1 hz j hj hLo.1 q1 c1 (by rw [hLo.2]; exact hG1) _ (g.cjl ha hb9)) cs_Sub_69 (by decide) rfl hl.1 rfl (Nat.le_of_ble_eq_true rfl) (by decide) d_Sub_includeConjugates_25 (fun σ2 H locs V hr => ?_)
        obtain ⟨q2, c2, hG2, hin2, hc2, hf2⟩ := hr
        rw [hLo.2] at hG2
        have hB := V.1.2.2
        have hc12 : ∀ b, b ∈ c1 → b ∈ c2 := fun b hb => by rcases hc2 with e | e <;> rw [e]; exact hb; exact List.mem_append_left _ hb
        have hm := sg_mono hG1 hG2 hc12
        refine nw_iinc X (lv' := [(3, _), (0, _), (1, _), (2, _)]) (k := 3) 1 d_Sub_includeConjugates_28 hl rfl (by decide) (by decide) rfl (fun ls hl => ?_)
        refine nw_goto X (tgt := 2) d_Sub_includeConjugates_31 (by decide) ?_
        exact IH2 (i + 1) q2 c2 _ _ _ _ (by omega) hci (hfr.tr hf2) hG2 (by
          obtain ⟨x, e1, e2⟩ := hx
          rcases hc2 with e | e
          · rw [e]; exact ⟨x, e1, e2⟩
          · rw [e, e1, List.append_assoc]
            refine ⟨x ++ [_], rfl, fun y hy => ?_⟩
            rcases List.mem_append.mp hy with h | h
            · exact e2 y h
            · rw [List.mem_singleton] at h
              exact ⟨_, ls_at_mem hci, h⟩) (fun t ht => by
          by_cases e : t = i
          · rw [e]; exact hin2
          · exact hm _ (hin t (by omega))) V (lv_sub hl [1, 2, 3, 0] rfl)
  exact LP2 (bs0.length + 1) 0 q bs _ _ _ _ (by omega) (Nat.zero_le _) sg_fr.rf hG ⟨[], (List.append_nil _).symm, fun y hy => absurd hy List.not_mem_nil⟩ (fun t ht => absurd ht (Nat.not_lt_zero _)) V (lv_sub hl [1, 2, 3, 0] rfl)
set_option maxHeartbeats 4000000 in
set_option maxRecDepth 20000 in
theorem cm_Sub_includeAllConjugates (l : Launch) (z : zz_Z) (σ : hw_M) (hz : ∀ k, zz_k (zz_n z) k → zz_O z k) (j : Nat) (hj : j < 7) (hL : lo_ok z σ 0) (q bs : List Nat) (hG : sg_gp z (gr_p z σ) σ j q bs) (js : Nat) (hjs : js < 7) (hnes : js ≠ j) (qs bs0 : List Nat) (hSs0 : sg_ok z σ js qs bs0) : Met l y_Sub_includeAllConjugates (hw_c y_Sub_includeAllConjugates b_Sub_includeAllConjugates 3 none) (hw_r 4) (va_Pc [.ref (zz_A z (12, j)), .ref (zz_A z (12, js))] (zz_B z σ)) (va_Qv (fun σ' => ∃ q' c', sg_gp z (gr_p z σ) σ' j q' c' ∧ (∀ b, b ∈ bs → b ∈ c') ∧ (∀ y b, y ∈ c' → b ∈ bs0 → gp_cj (zz_N z) (gr_p z σ) y b ∈ q') ∧ (∀ K : Nat → Prop, gp_sb (zz_N z) (gr_p z σ) K → (∀ b, b ∈ bs → K b) → (∀ k b, K k → b ∈ bs0 → K (gp_cj (zz_N z) (gr_p z σ) k b)) → ∀ b, b ∈ c' → K b) ∧ sg_fr j σ σ') (zz_B z) (zz_F z)) 0 0 (zz_F z) := by
  refine hw_metv (post := (fun σ' => ∃ q' c', sg_gp z (gr_p z σ) σ' j q' c' ∧ (∀ b, b ∈ bs → b ∈ c') ∧ (∀ y b, y ∈ c' → b ∈ bs0 → gp_cj (zz_N z) (gr_p z σ) y b ∈ q') ∧ (∀ K : Nat → Prop, gp_sb (zz_N z) (gr_p z σ) K → (∀ b, b ∈ bs → K b) → (∀ k b, K k → b ∈ bs0 → K (gp_cj (zz_N z) (gr_p z σ) k b)) → ∀ b, b ∈ c' → K b) ∧ sg_fr j σ σ')) (by decide) (Nat.le_of_ble_eq_true rfl) ?_
  intro p e s m args below meth c ls Q X hret V hl
  have hl : lv_has ls 3 [(0, .ref (zz_A z (12, j))), (1, .ref (zz_A z (12, js)))] := hl
  have hB := V.1.2.2
  have o1 : zz_O z (1, 0) := hz (1, 0) rfl
  have h12 : zz_O z (12, j) := hz (12, j) (show j < 7 by omega)
  have h13 : zz_O z (13, j) := hz (13, j) (show j < 8 by omega)
  have h14 : zz_O z (14, j) := hz (14, j) (show j < 8 by omega)
  have h15 : zz_O z (15, j) := hz (15, j) (show j < 8 by omega)
  have h16 : zz_O z (16, j) := hz (16, j) (show j < 7 by omega)
  obtain ⟨⟨hn7, hN, hn, hNe, hw, hsz, hln⟩, hk, ht⟩ := id hL
  have g := lo_gp hL
  have hE := hG.1.1
  have h12s : zz_O z (12, js) := hz (12, js) (show js < 7 by omega)
  have h13s : zz_O z (13, js) := hz (13, js) (show js < 8 by omega)
  have h14s : zz_O z (14, js) := hz (14, js) (show js < 8 by omega)
  have h15s : zz_O z (15, js) := hz (15, js) (show js < 8 by omega)
  have h16s : zz_O z (16, js) := hz (16, js) (show js < 7 by omega)
  refine nw_iconst X 0 d_Sub_includeAllConjugates_0 (by decide) ?_
  refine nw_istore_n X (lv' := [(2, _), (0, _), (1, _)]) d_Sub_includeAllConjugates_1 rfl hl (by decide) rfl (fun ls hl => ?_)
  have LP2 : ∀ (d k : Nat) (q1 c1 : List Nat) (σ1 : hw_M) (H : Heap) (locs : List Loc) (ls : Array Slot), 7 - k < d → (k ≤ 7) → (sg_fr j σ σ1) → (sg_gp z (gr_p z σ) σ1 j q1 c1) → (∀ b, b ∈ bs → b ∈ c1) → (∀ t, t < k → t < c1.length → ∀ b, b ∈ bs0 → gp_cj (zz_N z) (gr_p z σ) (c1.getD t 0) b ∈ q1) → (∀ K : Nat → Prop, gp_sb (zz_N z) (gr_p z σ) K → (∀ b, b ∈ bs → K b) → (∀ k b, K k → b ∈ bs0 → K (gp_cj (zz_N z) (gr_p z σ) k b)) → ∀ b, b ∈ c1 → K b) → zz_V z σ1 s.heap H locs →  lv_has ls 3 [(0, .ref (zz_A z (12, j))), (1, .ref (zz_A z (12, js))), (2, .int (nI k))] →  W p l e (hw_r 4) s m args below meth c H locs 0 0 Q (F0 m 2 ls []) := by
    intro d
    induction d with
    | zero => intro k q1 c1 σ1 H locs ls hd; exact absurd hd (Nat.not_lt_zero _)
    | succ d IH2 =>
      intro k q1 c1 σ1 H locs ls hd hk7 hfr hG1 hsub hin hK V hl
      have hB := V.1.2.2
      have hLo := sg_lo hL hfr
      have hSs := sg_oth hSs0 hfr hnes
      have hsl := hSs.2.2.1
      have hcl7 := hG1.1.2.2.1
      refine nw_iload_n X d_Sub_includeAllConjugates_2 rfl (lv_at hl 2 rfl) ?_
      refine nw_bipush X 7 d_Sub_includeAllConjugates_3 (by decide) ?_
      refine nw_icmp_ge X (tgt := 33) d_Sub_includeAllConjugates_5 (by decide) (by omega) (by decide) (fun hc7 => ?_) (fun hc7 => ?_)
      · skip
        exact hret _ _ _ _ _ d_Sub_includeAllConjugates_33 V ⟨q1, c1, hG1, hsub, fun y b hy hb => by obtain ⟨t, ht1, ht2⟩ := ls_mem_at hy; rw [← ht2]; exact hin t (by omega) ht1 b hb, hK, hfr⟩
      · skip
        refine nw_iload_n X d_Sub_includeAllConjugates_8 rfl (lv_at hl 2 rfl) ?_
        refine nw_aload_n X d_Sub_includeAllConjugates_9 rfl (lv_at hl 0 rfl) ?_
        refine gf_Sub_34 X V h12 d_Sub_includeAllConjugates_10 ?_
        rw [hG1.1.2.1]
        refine nw_icmp_ge X (tgt := 33) d_Sub_includeAllConjugates_13 (by decide) (by first | assumption | omega) (by first | assumption | omega) (fun hcl => ?_) (fun hcl => ?_)
        · skip
          exact hret _ _ _ _ _ d_Sub_includeAllConjugates_33 V ⟨q1, c1, hG1, hsub, fun y b hy hb => by obtain ⟨t, ht1, ht2⟩ := ls_mem_at hy; rw [← ht2]; exact hin t (by omega) ht1 b hb, hK, hfr⟩
        · skip
          have hck : c1.getD k 0 < zz_N z := hG1.1.2.2.2.2 _ (ls_at_mem hcl)
          refine nw_aload_n X d_Sub_includeAllConjugates_16 rfl (lv_at hl 0 rfl) ?_
          refine nw_aload_n X d_Sub_includeAllConjugates_17 rfl (lv_at hl 0 rfl) ?_
          refine gf_Sub_30 X V h12 d_Sub_includeAllConjugates_18 ?_
          refine nw_iload_n X d_Sub_includeAllConjugates_21 rfl (lv_at hl 2 rfl) ?_
          refine hw_iald X V h16 0 rfl rfl (by omega) (by decide) d_Sub_includeAllConjugates_22 ?_
          rw [hG1.1.2.2.2.1 k hcl]
          refine nw_aload_n X d_Sub_includeAllConjugates_23 rfl (lv_at hl 1 rfl) ?_
          refine hw_callv X V h12 rfl rfl (cm_Sub_includeConjugates l z σ1 hz j hj hLo.1 q1 c1 (by rw [hLo.2]; exact hG1) _ hck js hjs hnes qs bs0 (sg_oth hSs0 hfr hnes)) cs_Sub_59 (by decide) rfl hl.1 rfl (Nat.le_of_ble_eq_true rfl) (by decide) d_Sub_includeAllConjugates_24 (fun σ2 H locs V hr => ?_)
          obtain ⟨q2, c2, hG2, ⟨x2, ex2, hx2⟩, hin2, hf2⟩ := hr
          rw [hLo.2] at hG2 hx2 hin2
          have hB := V.1.2.2
          refine nw_iinc X (lv' := [(2, _), (0, _), (1, _)]) (k := 2) 1 d_Sub_includeAllConjugates_27 hl rfl (by decide) (by decide) rfl (fun ls hl => ?_)
          refine nw_goto X (tgt := 2) d_Sub_includeAllConjugates_30 (by decide) ?_
          have hc12 : ∀ b, b ∈ c1 → b ∈ c2 := fun b hb => by rw [ex2]; exact List.mem_append_left _ hb
          have hm := sg_mono hG1 hG2 hc12
          have hgd : ∀ t, t < c1.length → c2.getD t 0 = c1.getD t 0 := fun t ht => by rw [ex2, List.getD_eq_getElem?_getD, List.getD_eq_getElem?_getD, List.getElem?_append_left ht]
          exact IH2 (k + 1) q2 c2 _ _ _ _ (by omega) hc7 (hfr.tr hf2) hG2 (fun b hb => hc12 b (hsub b hb)) (fun t h1 h2 b hb => by
            by_cases e : t = k
            · rw [e, hgd k hcl]; exact hin2 b hb
            · rw [hgd t (by omega)]; exact hm _ (hin t (by omega) (by omega) b hb)) (fun K hs h1 h2 b hb => by
            rw [ex2] at hb
            rcases List.mem_append.mp hb with h | h
            · exact hK K hs h1 h2 b h
            · obtain ⟨b9, e1, e2⟩ := hx2 b h
              rw [e2]
              exact h2 _ _ (hK K hs h1 h2 _ (ls_at_mem hcl)) e1) V (lv_sub hl [1, 2, 0] rfl)
  exact LP2 (7 + 1) 0 q bs _ _ _ _ (by omega) (Nat.zero_le _) sg_fr.rf hG (fun b hb => hb) (fun t ht => absurd ht (Nat.not_lt_zero _)) (fun K _ h1 _ b hb => h1 b hb) V (lv_sub hl [1, 2, 0] rfl)
end
section
/-! Subgroups: copies and commutators. By program (wip/whole/gen/sub3.py). -/
set_option maxHeartbeats 4000000 in
set_option maxRecDepth 20000 in
theorem cm_Sub_becomeCopy (l : Launch) (z : zz_Z) (σ : hw_M) (hz : ∀ k, zz_k (zz_n z) k → zz_O z k) (j : Nat) (hj : j < 7) (hN : zz_N z ≤ 128) (q : List Nat) (hE : es_ok z σ j q) (js : Nat) (hjs : js < 7) (hnes : js ≠ j) (qs bs0 : List Nat) (hSs0 : sg_ok z σ js qs bs0) : Met l y_Sub_becomeCopy (hw_c y_Sub_becomeCopy b_Sub_becomeCopy 3 none) (hw_r 1) (va_Pc [.ref (zz_A z (12, j)), .ref (zz_A z (12, js))] (zz_B z σ)) (va_Qv (fun σ' => sg_ok z σ' j qs bs0 ∧ sg_fr j σ σ') (zz_B z) (zz_F z)) 0 0 (zz_F z) := by
  refine hw_metv (post := (fun σ' => sg_ok z σ' j qs bs0 ∧ sg_fr j σ σ')) (by decide) (Nat.le_of_ble_eq_true rfl) ?_
  intro p e s m args below meth c ls Q X hret V hl
  have hl : lv_has ls 3 [(0, .ref (zz_A z (12, j))), (1, .ref (zz_A z (12, js)))] := hl
  have hB := V.1.2.2
  have o1 : zz_O z (1, 0) := hz (1, 0) rfl
  have h12 : zz_O z (12, j) := hz (12, j) (show j < 7 by omega)
  have h13 : zz_O z (13, j) := hz (13, j) (show j < 8 by omega)
  have h14 : zz_O z (14, j) := hz (14, j) (show j < 8 by omega)
  have h15 : zz_O z (15, j) := hz (15, j) (show j < 8 by omega)
  have h16 : zz_O z (16, j) := hz (16, j) (show j < 7 by omega)
  have h12s : zz_O z (12, js) := hz (12, js) (show js < 7 by omega)
  have h13s : zz_O z (13, js) := hz (13, js) (show js < 8 by omega)
  have h14s : zz_O z (14, js) := hz (14, js) (show js < 8 by omega)
  have h15s : zz_O z (15, js) := hz (15, js) (show js < 8 by omega)
  have h16s : zz_O z (16, js) := hz (16, js) (show js < 7 by omega)
  refine nw_aload_n X d_Sub_becomeCopy_0 rfl (lv_at hl 0 rfl) ?_
  refine gf_Sub_26 X V h12 d_Sub_becomeCopy_1 ?_
  refine hw_callv X V h13 rfl rfl (cm_Set_empty l z σ j q h13 h14 h15 hN hE) cs_Sub_48 (by decide) rfl hl.1 rfl (Nat.le_of_ble_eq_true rfl) (by decide) d_Sub_becomeCopy_4 (fun σ1 H locs V hr => ?_)
  obtain ⟨e1, f1⟩ := hr
  refine nw_iconst X 0 d_Sub_becomeCopy_7 (by decide) ?_
  refine nw_istore_n X (lv' := [(2, _), (0, _), (1, _)]) d_Sub_becomeCopy_8 rfl hl (by decide) rfl (fun ls hl => ?_)
  have LP9 : ∀ (d k : Nat) (σ2 : hw_M) (H : Heap) (locs : List Loc) (ls : Array Slot), qs.length - k < d → (k ≤ qs.length) → (es_fr j σ σ2) → (es_ok z σ2 j (qs.take k)) → zz_V z σ2 s.heap H locs →  lv_has ls 3 [(0, .ref (zz_A z (12, j))), (1, .ref (zz_A z (12, js))), (2, .int (nI k))] →  W p l e (hw_r 1) s m args below meth c H locs 0 0 Q (F0 m 9 ls []) := by
    intro d
    induction d with
    | zero => intro k σ2 H locs ls hd; exact absurd hd (Nat.not_lt_zero _)
    | succ d IH9 =>
      intro k σ2 H locs ls hd hkl hfr hE1 V hl
      have hB := V.1.2.2
      have hSs := sg_oth hSs0 hfr.sg hnes
      have hlen := es_len hSs.1
      have hs7 := hSs.2.2.1
      refine nw_iload_n X d_Sub_becomeCopy_9 rfl (lv_at hl 2 rfl) ?_
      refine nw_aload_n X d_Sub_becomeCopy_10 rfl (lv_at hl 1 rfl) ?_
      refine gf_Sub_26 X V h12s d_Sub_becomeCopy_11 ?_
      refine hw_calli X V h13s rfl rfl (cm_Set_amount l z σ2 js qs h13s h14s h15s hN hSs.1) cs_Sub_41 (by decide) rfl hl.1 rfl (Nat.le_of_ble_eq_true rfl) (by decide) d_Sub_becomeCopy_14 (fun r σ' H locs V hr => ?_)
      obtain ⟨hσ, rfl⟩ := hr
      rw [hσ] at V
      clear hσ
      have hB := V.1.2.2
      refine nw_icmp_ge X (tgt := 41) d_Sub_becomeCopy_17 (by decide) (by first | assumption | omega) (by first | assumption | omega) (fun hc => ?_) (fun hc => ?_)
      · skip
        refine nw_aload_n X d_Sub_becomeCopy_41 rfl (lv_at hl 1 rfl) ?_
        refine gf_Sub_30 X V h12s d_Sub_becomeCopy_42 ?_
        refine nw_iconst X 0 d_Sub_becomeCopy_45 (by decide) ?_
        refine nw_aload_n X d_Sub_becomeCopy_46 rfl (lv_at hl 0 rfl) ?_
        refine gf_Sub_30 X V h12 d_Sub_becomeCopy_47 ?_
        refine nw_iconst X 0 d_Sub_becomeCopy_50 (by decide) ?_
        refine nw_aload_n X d_Sub_becomeCopy_51 rfl (lv_at hl 1 rfl) ?_
        refine gf_Sub_34 X V h12s d_Sub_becomeCopy_52 ?_
        rw [hSs.2.1]
        refine hw_copy X V h16s h16 0 rfl (fun _ => rfl) rfl wi_390 wi_71 wi_70 wi_36 hs7 hs7 (by omega) hl.1 (by decide) (Nat.le_of_ble_eq_true rfl) d_Sub_becomeCopy_55 (fun H locs V => ?_)
        refine nw_aload_n X d_Sub_becomeCopy_58 rfl (lv_at hl 0 rfl) ?_
        refine nw_aload_n X d_Sub_becomeCopy_59 rfl (lv_at hl 1 rfl) ?_
        refine gf_Sub_34 X V h12s d_Sub_becomeCopy_60 ?_
        rw [show hw_cp σ2 (16, js) (16, j) bs0.length (12, js) = σ2 (12, js) from if_neg (hw_ne (by decide)), hSs.2.1]
        refine pf_Sub_34 X V h12 (by omega) d_Sub_becomeCopy_63 (fun H locs V => ?_)
        exact hret _ _ _ _ _ d_Sub_becomeCopy_66 V (sg_copy (by rw [List.take_of_length_le (by omega)] at hE1; exact hE1) hfr hSs hnes)
      · skip
        refine nw_aload_n X d_Sub_becomeCopy_20 rfl (lv_at hl 0 rfl) ?_
        refine gf_Sub_26 X V h12 d_Sub_becomeCopy_21 ?_
        refine nw_aload_n X d_Sub_becomeCopy_24 rfl (lv_at hl 1 rfl) ?_
        refine gf_Sub_26 X V h12s d_Sub_becomeCopy_25 ?_
        refine nw_iload_n X d_Sub_becomeCopy_28 rfl (lv_at hl 2 rfl) ?_
        refine hw_calli X V h13s rfl rfl (cm_Set_member l z σ2 js qs h13s h14s h15s hN hSs.1 k hc) cs_Sub_51 (by decide) rfl hl.1 rfl (Nat.le_of_ble_eq_true rfl) (by decide) d_Sub_becomeCopy_29 (fun r σ' H locs V hr => ?_)
        obtain ⟨hσ, rfl⟩ := hr
        rw [hσ] at V
        clear hσ
        have hB := V.1.2.2
        refine hw_callv X V h13 rfl rfl (cm_Set_add l z σ2 j _ h13 h14 h15 hN hE1 _ (hSs.1.2.1 _ (ls_at_mem hc))) cs_Sub_38 (by decide) rfl hl.1 rfl (Nat.le_of_ble_eq_true rfl) (by decide) d_Sub_becomeCopy_32 (fun σ3 H locs V hr => ?_)
        obtain ⟨e3, f3⟩ := hr
        refine nw_iinc X (lv' := [(2, _), (0, _), (1, _)]) (k := 2) 1 d_Sub_becomeCopy_35 hl rfl (by decide) (by decide) rfl (fun ls hl => ?_)
        refine nw_goto X (tgt := 9) d_Sub_becomeCopy_38 (by decide) ?_
        exact IH9 (k + 1) _ _ _ _ (by omega) hc (fun u a b c => (f3 u a b c).trans (hfr u a b c)) (by rw [← ls_take hSs0.1.1 hc]; exact e3) V (lv_sub hl [1, 2, 0] rfl)
  exact LP9 (qs.length + 1) 0 _ _ _ _ (by omega) (Nat.zero_le _) f1 e1 V (lv_sub hl [1, 2, 0] rfl)
set_option maxHeartbeats 4000000 in
set_option maxRecDepth 20000 in
theorem cm_Sub_becomeCommutators (l : Launch) (z : zz_Z) (σ : hw_M) (hz : ∀ k, zz_k (zz_n z) k → zz_O z k) (j : Nat) (hj : j < 7) (hL : lo_ok z σ 0) (q : List Nat) (hE : es_ok z σ j q) (js : Nat) (hjs : js < 7) (hnes : js ≠ j) (qs bs0 : List Nat) (hSs0 : sg_ok z σ js qs bs0) (jt : Nat) (hjt : jt < 7) (hnet : jt ≠ j) (qt bt0 : List Nat) (hSt0 : sg_ok z σ jt qt bt0) : Met l y_Sub_becomeCommutators (hw_c y_Sub_becomeCommutators b_Sub_becomeCommutators 5 none) (hw_r 4) (va_Pc [.ref (zz_A z (12, j)), .ref (zz_A z (12, js)), .ref (zz_A z (12, jt))] (zz_B z σ)) (va_Qv (fun σ' => ∃ q' c', sg_gp z (gr_p z σ) σ' j q' c' ∧ (∀ x, x ∈ q' ↔ gp_cs (zz_N z) (gr_p z σ) (gp_gn (zz_N z) (gr_p z σ) (fun y => y ∈ bs0)) (gp_gn (zz_N z) (gr_p z σ) (fun y => y ∈ bt0)) x) ∧ sg_fr j σ σ') (zz_B z) (zz_F z)) 0 0 (zz_F z) := by
  refine hw_metv (post := (fun σ' => ∃ q' c', sg_gp z (gr_p z σ) σ' j q' c' ∧ (∀ x, x ∈ q' ↔ gp_cs (zz_N z) (gr_p z σ) (gp_gn (zz_N z) (gr_p z σ) (fun y => y ∈ bs0)) (gp_gn (zz_N z) (gr_p z σ) (fun y => y ∈ bt0)) x) ∧ sg_fr j σ σ')) (by decide) (Nat.le_of_ble_eq_true rfl) ?_
  intro p e s m args below meth c ls Q X hret V hl
  have hl : lv_has ls 5 [(0, .ref (zz_A z (12, j))), (1, .ref (zz_A z (12, js))), (2, .ref (zz_A z (12, jt)))] := hl
  have hB := V.1.2.2
  have o1 : zz_O z (1, 0) := hz (1, 0) rfl
  have h12 : zz_O z (12, j) := hz (12, j) (show j < 7 by omega)
  have h13 : zz_O z (13, j) := hz (13, j) (show j < 8 by omega)
  have h14 : zz_O z (14, j) := hz (14, j) (show j < 8 by omega)
  have h15 : zz_O z (15, j) := hz (15, j) (show j < 8 by omega)
  have h16 : zz_O z (16, j) := hz (16, j) (show j < 7 by omega)
  obtain ⟨⟨hn7, hN, hn, hNe, hw, hsz, hln⟩, hk, ht⟩ := id hL
  have g := lo_gp hL
  have h12s : zz_O z (12, js) := hz (12, js) (show js < 7 by omega)
  have h13s : zz_O z (13, js) := hz (13, js) (show js < 8 by omega)
  have h14s : zz_O z (14, js) := hz (14, js) (show js < 8 by omega)
  have h15s : zz_O z (15, js) := hz (15, js) (show js < 8 by omega)
  have h16s : zz_O z (16, js) := hz (16, js) (show js < 7 by omega)
  have h12t : zz_O z (12, jt) := hz (12, jt) (show jt < 7 by omega)
  have h13t : zz_O z (13, jt) := hz (13, jt) (show jt < 8 by omega)
  have h14t : zz_O z (14, jt) := hz (14, jt) (show jt < 8 by omega)
  have h15t : zz_O z (15, jt) := hz (15, jt) (show jt < 8 by omega)
  have h16t : zz_O z (16, jt) := hz (16, jt) (show jt < 7 by omega)
  refine nw_aload_n X d_Sub_becomeCommutators_0 rfl (lv_at hl 0 rfl) ?_
  refine hw_callv X V h12 rfl rfl (cm_Sub_reset l z σ hz j hj hN q hE g.pos) cs_Sub_63 (by decide) rfl hl.1 rfl (Nat.le_of_ble_eq_true rfl) (by decide) d_Sub_becomeCommutators_1 (fun σ0 H locs V hr => ?_)
  obtain ⟨e0, f0⟩ := hr
  have hG0 := sg_gp0 g e0
  refine nw_iconst X 0 d_Sub_becomeCommutators_4 (by decide) ?_
  refine nw_istore_n X (lv' := [(3, _), (0, _), (1, _), (2, _)]) d_Sub_becomeCommutators_5 rfl hl (by decide) rfl (fun ls hl => ?_)
  have LP6 : ∀ (d i : Nat) (q1 c1 : List Nat) (σ1 : hw_M) (H : Heap) (locs : List Loc) (ls : Array Slot), bs0.length - i < d → (i ≤ bs0.length) → (sg_fr j σ σ1) → (sg_gp z (gr_p z σ) σ1 j q1 c1) → (∀ K : Nat → Prop, gp_sb (zz_N z) (gr_p z σ) K → (∀ x y, x ∈ bs0 → y ∈ bt0 → K (gp_cm (zz_N z) (gr_p z σ) x y)) → ∀ b, b ∈ c1 → K b) → (∀ t, t < i → ∀ y, y ∈ bt0 → gp_cm (zz_N z) (gr_p z σ) (bs0.getD t 0) y ∈ q1) → zz_V z σ1 s.heap H locs →  lv_has ls 5 [(0, .ref (zz_A z (12, j))), (1, .ref (zz_A z (12, js))), (2, .ref (zz_A z (12, jt))), (3, .int (nI i))] →  W p l e (hw_r 4) s m args below meth c H locs 0 0 Q (F0 m 6 ls []) := by
    intro d
    induction d with
    | zero => intro i q1 c1 σ1 H locs ls hd; exact absurd hd (Nat.not_lt_zero _)
    | succ d IH6 =>
      intro i q1 c1 σ1 H locs ls hd hil hfr hG1 hK hin V hl
      have hB := V.1.2.2
      have hLo := sg_lo hL hfr
      have hSs := sg_oth hSs0 hfr hnes
      have hSt := sg_oth hSt0 hfr hnet
      have hsl := hSs.2.2.1
      have htl := hSt.2.2.1
      refine nw_iload_n X d_Sub_becomeCommutators_6 rfl (lv_at hl 3 rfl) ?_
      refine nw_aload_n X d_Sub_becomeCommutators_7 rfl (lv_at hl 1 rfl) ?_
      refine gf_Sub_34 X V h12s d_Sub_becomeCommutators_8 ?_
      rw [hSs.2.1]
      refine nw_icmp_ge X (tgt := 62) d_Sub_becomeCommutators_11 (by decide) (by first | assumption | omega) (by first | assumption | omega) (fun hci => ?_) (fun hci => ?_)
      · skip
        have hcm : ∀ x y, x ∈ bs0 → y ∈ bt0 → gp_cm (zz_N z) (gr_p z σ) x y ∈ q1 := fun x y hx hy => by obtain ⟨t, ht1, ht2⟩ := ls_mem_at hx; rw [← ht2]; exact hin t (by omega) y hy
        refine nw_iconst X 0 d_Sub_becomeCommutators_62 (by decide) ?_
        refine nw_istore_n X (lv' := [(3, _), (0, _), (1, _), (2, _)]) d_Sub_becomeCommutators_63 rfl hl (by decide) rfl (fun ls hl => ?_)
        have LP64 : ∀ (d k : Nat) (q1 c1 : List Nat) (σ1 : hw_M) (H : Heap) (locs : List Loc) (ls : Array Slot), 7 - k < d → (k ≤ 7) → (sg_fr j σ σ1) → (sg_gp z (gr_p z σ) σ1 j q1 c1) → (∀ x y, x ∈ bs0 → y ∈ bt0 → gp_cm (zz_N z) (gr_p z σ) x y ∈ q1) → (∀ t, t < k → t < c1.length → (∀ b, b ∈ bs0 → gp_cj (zz_N z) (gr_p z σ) (c1.getD t 0) b ∈ q1) ∧ ∀ b, b ∈ bt0 → gp_cj (zz_N z) (gr_p z σ) (c1.getD t 0) b ∈ q1) → (∀ K : Nat → Prop, gp_sb (zz_N z) (gr_p z σ) K → (∀ x y, x ∈ bs0 → y ∈ bt0 → K (gp_cm (zz_N z) (gr_p z σ) x y)) → (∀ k b, K k → b ∈ bs0 → K (gp_cj (zz_N z) (gr_p z σ) k b)) → (∀ k b, K k → b ∈ bt0 → K (gp_cj (zz_N z) (gr_p z σ) k b)) → ∀ b, b ∈ c1 → K b) → zz_V z σ1 s.heap H locs →  lv_has ls 5 [(0, .ref (zz_A z (12, j))), (1, .ref (zz_A z (12, js))), (2, .ref (zz_A z (12, jt))), (3, .int (nI k))] →  W p l e (hw_r 4) s m args below meth c H locs 0 0 Q (F0 m 64 ls []) := by
          intro d
          induction d with
          | zero => intro k q1 c1 σ1 H locs ls hd; exact absurd hd (Nat.not_lt_zero _)
          | succ d IH64 =>
            intro k q1 c1 σ1 H locs ls hd hk7 hfr hG1 hcm hin hK V hl
            have hB := V.1.2.2
            have hLo := sg_lo hL hfr
            have hSs := sg_oth hSs0 hfr hnes
            have hSt := sg_oth hSt0 hfr hnet
            have hsl := hSs.2.2.1
            have htl := hSt.2.2.1
            have hcl7 := hG1.1.2.2.1
            refine nw_iload_n X d_Sub_becomeCommutators_64 rfl (lv_at hl 3 rfl) ?_
            refine nw_bipush X 7 d_Sub_becomeCommutators_65 (by decide) ?_
            refine nw_icmp_ge X (tgt := 106) d_Sub_becomeCommutators_67 (by decide) (by omega) (by decide) (fun hc7 => ?_) (fun hc7 => ?_)
            · skip
              exact hret _ _ _ _ _ d_Sub_becomeCommutators_106 V ⟨q1, c1, hG1, sg_cs g hSs0 hSt0 hG1 hcm (fun t ht => hin t (by omega) ht) hK, hfr⟩
            · skip
              refine nw_iload_n X d_Sub_becomeCommutators_70 rfl (lv_at hl 3 rfl) ?_
              refine nw_aload_n X d_Sub_becomeCommutators_71 rfl (lv_at hl 0 rfl) ?_
              refine gf_Sub_34 X V h12 d_Sub_becomeCommutators_72 ?_
              rw [hG1.1.2.1]
              refine nw_icmp_ge X (tgt := 106) d_Sub_becomeCommutators_75 (by decide) (by first | assumption | omega) (by first | assumption | omega) (fun hcl => ?_) (fun hcl => ?_)
              · skip
                exact hret _ _ _ _ _ d_Sub_becomeCommutators_106 V ⟨q1, c1, hG1, sg_cs g hSs0 hSt0 hG1 hcm (fun t ht => hin t (by omega) ht) hK, hfr⟩
              · skip
                have hck : c1.getD k 0 < zz_N z := hG1.1.2.2.2.2 _ (ls_at_mem hcl)
                refine nw_aload_n X d_Sub_becomeCommutators_78 rfl (lv_at hl 0 rfl) ?_
                refine nw_aload_n X d_Sub_becomeCommutators_79 rfl (lv_at hl 0 rfl) ?_
                refine gf_Sub_30 X V h12 d_Sub_becomeCommutators_80 ?_
                refine nw_iload_n X d_Sub_becomeCommutators_83 rfl (lv_at hl 3 rfl) ?_
                refine hw_iald X V h16 0 rfl rfl (by omega) (by decide) d_Sub_becomeCommutators_84 ?_
                rw [hG1.1.2.2.2.1 k hcl]
                refine nw_aload_n X d_Sub_becomeCommutators_85 rfl (lv_at hl 1 rfl) ?_
                refine hw_callv X V h12 rfl rfl (cm_Sub_includeConjugates l z σ1 hz j hj hLo.1 q1 c1 (by rw [hLo.2]; exact hG1) _ hck js hjs hnes qs bs0 (sg_oth hSs0 hfr hnes)) cs_Sub_59 (by decide) rfl hl.1 rfl (Nat.le_of_ble_eq_true rfl) (by decide) d_Sub_becomeCommutators_86 (fun σ2 H locs V hr => ?_)
                obtain ⟨q2, c2, hG2, ⟨xs, exs, hxs⟩, hins, hfs⟩ := hr
                rw [hLo.2] at hG2 hxs hins
                have hB := V.1.2.2
                refine nw_aload_n X d_Sub_becomeCommutators_89 rfl (lv_at hl 0 rfl) ?_
                refine nw_aload_n X d_Sub_becomeCommutators_90 rfl (lv_at hl 0 rfl) ?_
                refine gf_Sub_30 X V h12 d_Sub_becomeCommutators_91 ?_
                refine nw_iload_n X d_Sub_becomeCommutators_94 rfl (lv_at hl 3 rfl) ?_
                have hgk : c2.getD k 0 = c1.getD k 0 := by rw [exs, List.getD_eq_getElem?_getD, List.getD_eq_getElem?_getD, List.getElem?_append_left hcl]
                have hcl2 : k < c2.length := by rw [exs, List.length_append]; omega
                have hfr2 := hfr.tr hfs
                have hLo2 := sg_lo hL hfr2
                refine hw_iald X V h16 0 rfl rfl (by omega) (by decide) d_Sub_becomeCommutators_95 ?_
                rw [hG2.1.2.2.2.1 k hcl2, hgk]
                refine nw_aload_n X d_Sub_becomeCommutators_96 rfl (lv_at hl 2 rfl) ?_
                refine hw_callv X V h12 rfl rfl (cm_Sub_includeConjugates l z σ2 hz j hj hLo2.1 q2 c2 (by rw [hLo2.2]; exact hG2) _ hck jt hjt hnet qt bt0 (sg_oth hSt0 hfr2 hnet)) cs_Sub_59 (by decide) rfl hl.1 rfl (Nat.le_of_ble_eq_true rfl) (by decide) d_Sub_becomeCommutators_97 (fun σ3 H locs V hr => ?_)
                obtain ⟨q3, c3, hG3, ⟨xt, ext, hxt⟩, hint, hft⟩ := hr
                rw [hLo2.2] at hG3 hxt hint
                have hB := V.1.2.2
                refine nw_iinc X (lv' := [(3, _), (0, _), (1, _), (2, _)]) (k := 3) 1 d_Sub_becomeCommutators_100 hl rfl (by decide) (by decide) rfl (fun ls hl => ?_)
                refine nw_goto X (tgt := 64) d_Sub_becomeCommutators_103 (by decide) ?_
                have hm3 := sg_mono hG2 hG3 (fun b hb => by rw [ext]; exact List.mem_append_left _ hb)
                have hm : ∀ x, x ∈ q1 → x ∈ q3 := fun x hx => hm3 x (sg_mono hG1 hG2 (fun b hb => by rw [exs]; exact List.mem_append_left _ hb) x hx)
                have hgd : ∀ t, t < c1.length → c3.getD t 0 = c1.getD t 0 := fun t ht => by rw [ext, exs, List.append_assoc, List.getD_eq_getElem?_getD, List.getD_eq_getElem?_getD, List.getElem?_append_left ht]
                exact IH64 (k + 1) q3 c3 _ _ _ _ (by omega) hc7 ((hfr.tr hfs).tr hft) hG3 (fun x y hx hy => hm _ (hcm x y hx hy)) (fun t h1 h2 => by
                  by_cases e : t = k
                  · rw [e, hgd k hcl]; exact ⟨fun b hb => hm3 _ (hins b hb), fun b hb => hint b hb⟩
                  · rw [hgd t (by omega)]
                    have h9 := hin t (by omega) (by omega)
                    exact ⟨fun b hb => hm _ (h9.1 b hb), fun b hb => hm _ (h9.2 b hb)⟩) (fun K hs h1 h2 h3 b hb => by
                  rw [ext, exs] at hb
                  rcases List.mem_append.mp hb with h | h
                  · rcases List.mem_append.mp h with h | h
                    · exact hK K hs h1 h2 h3 b h
                    · obtain ⟨b9, e1, e2⟩ := hxs b h
                      rw [e2]; exact h2 _ _ (hK K hs h1 h2 h3 _ (ls_at_mem hcl)) e1
                  · obtain ⟨b9, e1, e2⟩ := hxt b h
                    rw [e2]; exact h3 _ _ (hK K hs h1 h2 h3 _ (ls_at_mem hcl)) e1) V (lv_sub hl [1, 2, 3, 0] rfl)
        exact LP64 (7 + 1) 0 q1 c1 _ _ _ _ (by omega) (Nat.zero_le _) hfr hG1 hcm (fun t ht => absurd ht (Nat.not_lt_zero _)) (fun K hs h1 _ _ b hb => hK K hs h1 b hb) V (lv_sub hl [1, 2, 3, 0] rfl)
      · skip
        refine nw_iconst X 0 d_Sub_becomeCommutators_14 (by decide) ?_
        refine nw_istore X (lv' := [(4, _), (0, _), (1, _), (2, _), (3, _)]) d_Sub_becomeCommutators_15 hl (by decide) rfl (fun ls hl => ?_)
        have LP17 : ∀ (d u : Nat) (q1 c1 : List Nat) (σ1 : hw_M) (H : Heap) (locs : List Loc) (ls : Array Slot), bt0.length - u < d → (u ≤ bt0.length) → (sg_fr j σ σ1) → (sg_gp z (gr_p z σ) σ1 j q1 c1) → (∀ K : Nat → Prop, gp_sb (zz_N z) (gr_p z σ) K → (∀ x y, x ∈ bs0 → y ∈ bt0 → K (gp_cm (zz_N z) (gr_p z σ) x y)) → ∀ b, b ∈ c1 → K b) → (∀ t, t < i → ∀ y, y ∈ bt0 → gp_cm (zz_N z) (gr_p z σ) (bs0.getD t 0) y ∈ q1) → (∀ t, t < u → gp_cm (zz_N z) (gr_p z σ) (bs0.getD i 0) (bt0.getD t 0) ∈ q1) → zz_V z σ1 s.heap H locs →  lv_has ls 5 [(0, .ref (zz_A z (12, j))), (1, .ref (zz_A z (12, js))), (2, .ref (zz_A z (12, jt))), (3, .int (nI i)), (4, .int (nI u))] →  W p l e (hw_r 4) s m args below meth c H locs 0 0 Q (F0 m 17 ls []) := by
          intro d
          induction d with
          | zero => intro u q1 c1 σ1 H locs ls hd; exact absurd hd (Nat.not_lt_zero _)
          | succ d IH17 =>
            intro u q1 c1 σ1 H locs ls hd hul hfr hG1 hK hin hin2 V hl
            have hB := V.1.2.2
            have hLo := sg_lo hL hfr
            have hSs := sg_oth hSs0 hfr hnes
            have hSt := sg_oth hSt0 hfr hnet
            have hsl := hSs.2.2.1
            have htl := hSt.2.2.1
            refine nw_iload X d_Sub_becomeCommutators_17 (lv_at hl 4 rfl) ?_
            refine nw_aload_n X d_Sub_becomeCommutators_19 rfl (lv_at hl 2 rfl) ?_
            refine gf_Sub_34 X V h12t d_Sub_becomeCommutators_20 ?_
            rw [hSt.2.1]
            refine nw_icmp_ge X (tgt := 56) d_Sub_becomeCommutators_23 (by decide) (by first | assumption | omega) (by first | assumption | omega) (fun hcu => ?_) (fun hcu => ?_)
            · skip
              refine nw_iinc X (lv' := [(3, _), (0, _), (1, _), (2, _), (4, _)]) (k := 3) 1 d_Sub_becomeCommutators_56 hl rfl (by decide) (by decide) rfl (fun ls hl => ?_)
              refine nw_goto X (tgt := 6) d_Sub_becomeCommutators_59 (by decide) ?_
              exact IH6 (i + 1) q1 c1 _ _ _ _ (by omega) hci hfr hG1 hK (fun t ht y hy => by
                by_cases e : t = i
                · obtain ⟨u9, hu1, hu2⟩ := ls_mem_at hy
                  rw [e, ← hu2]; exact hin2 u9 (by omega)
                · exact hin t (by omega) y hy) V (lv_sub hl [1, 2, 3, 0] rfl)
            · skip
              have ha9 : bs0.getD i 0 < zz_N z := hSs.2.2.2.2 _ (ls_at_mem hci)
              have hb9 : bt0.getD u 0 < zz_N z := hSt.2.2.2.2 _ (ls_at_mem hcu)
              refine nw_aload_n X d_Sub_becomeCommutators_26 rfl (lv_at hl 0 rfl) ?_
              refine nw_aload_n X d_Sub_becomeCommutators_27 rfl (lv_at hl 0 rfl) ?_
              refine gf_Sub_9 X V h12 d_Sub_becomeCommutators_28 ?_
              refine nw_aload_n X d_Sub_becomeCommutators_31 rfl (lv_at hl 1 rfl) ?_
              refine gf_Sub_30 X V h12s d_Sub_becomeCommutators_32 ?_
              refine nw_iload_n X d_Sub_becomeCommutators_35 rfl (lv_at hl 3 rfl) ?_
              refine hw_iald X V h16s 0 rfl rfl (by omega) (by decide) d_Sub_becomeCommutators_36 ?_
              rw [hSs.2.2.2.1 i hci]
              refine nw_aload_n X d_Sub_becomeCommutators_37 rfl (lv_at hl 2 rfl) ?_
              refine gf_Sub_30 X V h12t d_Sub_becomeCommutators_38 ?_
              refine nw_iload X d_Sub_becomeCommutators_41 (lv_at hl 4 rfl) ?_
              refine hw_iald X V h16t 0 rfl rfl (by omega) (by decide) d_Sub_becomeCommutators_43 ?_
              rw [hSt.2.2.2.1 u hcu]
              refine hw_calli X V o1 rfl rfl (cm_Col_commutatorOf l z σ1 hz hLo.1 _ _ ha9 hb9) cs_Sub_66 (by decide) rfl hl.1 rfl (Nat.le_of_ble_eq_true rfl) (by decide) d_Sub_becomeCommutators_44 (fun r σ' H locs V hr => ?_)
              obtain ⟨hσ, rfl⟩ := hr
              rw [hσ] at V
              clear hσ
              have hB := V.1.2.2
              rw [hLo.2]
              refine hw_callv X V h12 rfl rfl (cm_Sub_include l z σ1 hz j hj hLo.1 q1 c1 (by rw [hLo.2]; exact hG1) _ (g.cml ha9 hb9)) cs_Sub_69 (by decide) rfl hl.1 rfl (Nat.le_of_ble_eq_true rfl) (by decide) d_Sub_becomeCommutators_47 (fun σ2 H locs V hr => ?_)
              obtain ⟨q2, c2, hG2, hin9, hc2, hf2⟩ := hr
              rw [hLo.2] at hG2
              have hB := V.1.2.2
              have hc12 : ∀ b, b ∈ c1 → b ∈ c2 := fun b hb => by rcases hc2 with e | e <;> rw [e]; exact hb; exact List.mem_append_left _ hb
              have hm := sg_mono hG1 hG2 hc12
              refine nw_iinc X (lv' := [(4, _), (0, _), (1, _), (2, _), (3, _)]) (k := 4) 1 d_Sub_becomeCommutators_50 hl rfl (by decide) (by decide) rfl (fun ls hl => ?_)
              refine nw_goto X (tgt := 17) d_Sub_becomeCommutators_53 (by decide) ?_
              exact IH17 (u + 1) q2 c2 _ _ _ _ (by omega) hcu (hfr.tr hf2) hG2 (fun K hs h1 b hb => by
                rcases hc2 with e | e
                · rw [e] at hb; exact hK K hs h1 b hb
                · rw [e] at hb
                  rcases List.mem_append.mp hb with h | h
                  · exact hK K hs h1 b h
                  · rw [List.mem_singleton] at h; rw [h]; exact h1 _ _ (ls_at_mem hci) (ls_at_mem hcu)) (fun t ht y hy => hm _ (hin t ht y hy)) (fun t ht => by
                by_cases e : t = u
                · rw [e]; exact hin9
                · exact hm _ (hin2 t (by omega))) V (lv_sub hl [1, 2, 3, 4, 0] rfl)
        exact LP17 (bt0.length + 1) 0 q1 c1 _ _ _ _ (by omega) (Nat.zero_le _) hfr hG1 hK hin (fun t ht => absurd ht (Nat.not_lt_zero _)) V (lv_sub hl [1, 2, 3, 4, 0] rfl)
  exact LP6 (bs0.length + 1) 0 [0] [] _ _ _ _ (by omega) (Nat.zero_le _) f0 hG0 (fun K _ _ b hb => absurd hb List.not_mem_nil) (fun t ht => absurd ht (Nat.not_lt_zero _)) V (lv_sub hl [1, 2, 3, 0] rfl)
end
section
/-! The state of the class's object. -/
/-- its memory: relations in bounds, a flag, sets; and once fixed the group, four places, the whole -/
def cs_ok (z : zz_Z) (σ : hw_M) (S : Nat → Nat → Prop) : Prop :=
  st_ok z σ ∧ rl_ok z σ ∧ σ (0, 0) 6 < 2 ∧ (∀ j, j < 8 → ∃ q, es_ok z σ j q) ∧
    (σ (0, 0) 6 = 1 → lo_ok z σ 0 ∧ (∀ s, s < 4 → ∃ q b, sg_gp z (gr_p z σ) σ s q b ∧ ∀ x, x ∈ q ↔ S s x) ∧ ∃ q b, sg_gp z (gr_p z σ) σ 4 q b ∧ ∀ x, x ∈ q ↔ x < zz_N z)
/-- the reference's memory, the relations and the flag stay -/
def cs_q (σ σ1 : hw_M) : Prop := ∀ u : hw_P, u.1 < 12 ∨ 16 < u.1 → σ1 u = σ u
theorem cs_q.rf {σ : hw_M} : cs_q σ σ := fun _ _ => rfl
theorem cs_q.tr {σ σ1 σ2 : hw_M} (h : cs_q σ σ1) (h2 : cs_q σ1 σ2) : cs_q σ σ2 := fun u hu => (h2 u hu).trans (h u hu)
theorem sg_fr.cq {j : Nat} {σ σ1 : hw_M} (h : sg_fr j σ σ1) : cs_q σ σ1 := fun u hu => h u (Or.inr hu)
theorem es_fr.cq {j : Nat} {σ σ1 : hw_M} (h : es_fr j σ σ1) : cs_q σ σ1 := h.sg.cq
theorem cs_q.st {z : zz_Z} {σ σ1 : hw_M} (h : cs_q σ σ1) (hS : st_ok z σ) : st_ok z σ1 := by
  unfold st_ok
  rw [h (1, 0) (Or.inl (by decide)), h (2, 0) (Or.inl (by decide)), h (3, 0) (Or.inl (by decide))]
  exact hS
theorem cs_q.rl {z : zz_Z} {σ σ1 : hw_M} (h : cs_q σ σ1) (hS : rl_ok z σ) : rl_ok z σ1 := by
  refine ⟨fun i hi => ?_, fun i j h1 h2 => ?_⟩
  · rw [h (3, 0) (Or.inl (by decide)), h (4, 0) (Or.inl (by decide))]; exact hS.1 i hi
  · rw [h (3, 0) (Or.inl (by decide)), h (6, i) (Or.inl (by show (6 : Nat) < 12; decide))]; exact hS.2 i j h1 h2
theorem cs_q.lo {z : zz_Z} {σ σ1 : hw_M} (h : cs_q σ σ1) (hL : lo_ok z σ 0) : lo_ok z σ1 0 ∧ gr_p z σ1 = gr_p z σ := by
  have hK := lo_keep hL (σ1 := σ1) (fun u _ h1 _ _ => h u (Or.inl h1))
  exact ⟨hK.1, hK.2.1 _⟩
theorem cs_q.fx {σ σ1 : hw_M} (h : cs_q σ σ1) : σ1 (0, 0) = σ (0, 0) := h (0, 0) (Or.inl (by decide))
/-- the state behind a call that changed sets alone -/
theorem cs_set {z : zz_Z} {σ σ1 : hw_M} {S S' : Nat → Nat → Prop} (h : cs_ok z σ S) (hq : cs_q σ σ1) (he : ∀ j, j < 8 → ∃ q, es_ok z σ1 j q)
    (hp : σ (0, 0) 6 = 1 → (∀ s, s < 4 → ∃ q b, sg_gp z (gr_p z σ) σ1 s q b ∧ ∀ x, x ∈ q ↔ S' s x) ∧ ∃ q b, sg_gp z (gr_p z σ) σ1 4 q b ∧ ∀ x, x ∈ q ↔ x < zz_N z) : cs_ok z σ1 S' := by
  refine ⟨hq.st h.1, hq.rl h.2.1, by rw [hq.fx]; exact h.2.2.1, he, fun hf => ?_⟩
  rw [hq.fx] at hf
  have hL := hq.lo (h.2.2.2.2 hf).1
  rw [hL.2]
  exact ⟨hL.1, hp hf⟩
theorem sg_gpo {z : zz_Z} {o : Nat → Nat → Nat} {σ σ1 : hw_M} {i j : Nat} {q c : List Nat} (h : sg_gp z o σ j q c) (hf : sg_fr i σ σ1) (hij : j ≠ i) : sg_gp z o σ1 j q c := ⟨sg_oth h.1 hf hij, h.2⟩
theorem es_all {z : zz_Z} {σ σ1 : hw_M} {i : Nat} (h : ∀ j, j < 8 → ∃ q, es_ok z σ j q) (hf : sg_fr i σ σ1) (hi : ∃ q, es_ok z σ1 i q) : ∀ j, j < 8 → ∃ q, es_ok z σ1 j q := by
  intro j hj
  by_cases e : j = i
  · rw [e]; exact hi
  · obtain ⟨q, hq⟩ := h j hj
    exact ⟨q, es_oth hq hf e⟩
/-- one place is another set now -/
theorem cs_put {z : zz_Z} {σ σ1 : hw_M} {S : Nat → Nat → Prop} {P : Prop} {k : Nat} {T : Nat → Prop} {q b : List Nat} (h : cs_ok z σ S) (hf : σ (0, 0) 6 = 1) (hk : k < 4) (hfr : sg_fr k σ σ1) (hP : P) (hG : sg_gp z (gr_p z σ) σ1 k q b) (hT : ∀ x, x ∈ q ↔ T x) : cs_ok z σ1 (sa_t P k T S) := by
  refine cs_set h hfr.cq (es_all h.2.2.2.1 hfr ⟨q, hG.1.1⟩) (fun _ => ?_)
  obtain ⟨hL, hp, qw, bw, hw1, hw2⟩ := h.2.2.2.2 hf
  refine ⟨fun s hs => ?_, qw, bw, sg_gpo hw1 hfr (by omega), hw2⟩
  by_cases e : s = k
  · rw [e]
    exact ⟨q, b, hG, fun x => (hT x).trans (sa_in hP x).symm⟩
  · obtain ⟨q1, b1, h1, h2⟩ := hp s hs
    exact ⟨q1, b1, sg_gpo h1 hfr e, fun x => (h2 x).trans (sa_ot e x).symm⟩
theorem cs_no {z : zz_Z} {σ : hw_M} {S : Nat → Nat → Prop} {P : Prop} {k : Nat} {T : Nat → Prop} (h : cs_ok z σ S) (hP : ¬ P) : cs_ok z σ (sa_t P k T S) := by
  refine cs_set h cs_q.rf h.2.2.2.1 (fun hf => ?_)
  obtain ⟨hL, hp, hw⟩ := h.2.2.2.2 hf
  refine ⟨fun s hs => ?_, hw⟩
  obtain ⟨q1, b1, h1, h2⟩ := hp s hs
  exact ⟨q1, b1, h1, fun x => (h2 x).trans (sa_no hP x).symm⟩
theorem cs_cnt {z : zz_Z} {o : Nat → Nat → Nat} {σ : hw_M} {j : Nat} {q b : List Nat} {T : Nat → Prop} (h : sg_gp z o σ j q b) (hT : ∀ x, x ∈ q ↔ T x) : q.length = gp_cd (zz_N z) T := gp_cd_ls h.1.1.1 h.1.1.2.1 (fun x _ => hT x)
theorem cs_rel {z : zz_Z} {σ : hw_M} {S : Nat → Nat → Prop} (h : cs_ok z σ S) : cs_ok z (hw_up σ (0, 0) 6 0) S := by
  have e : ∀ k i, k ≠ 0 → hw_up σ (0, 0) 6 0 (k, i) = σ (k, i) := fun k i hk => hw_up_k _ _ _ (hw_ne hk)
  refine ⟨?_, ⟨fun i hi => ?_, fun i j h1 h2 => ?_⟩, by rw [hw_up_s]; decide, fun j hj => ?_, fun hf => by rw [hw_up_s] at hf; cases hf⟩
  · unfold st_ok
    rw [e 1 0 (by decide), e 2 0 (by decide), e 3 0 (by decide)]
    exact h.1
  · rw [e 3 0 (by decide), e 4 0 (by decide)]; exact h.2.1.1 i hi
  · rw [e 3 0 (by decide), e 6 i (by decide)]; exact h.2.1.2 i j h1 h2
  · obtain ⟨q, hq⟩ := h.2.2.2.1 j hj
    exact ⟨q, es_keep hq (e 13 j (by decide)) (e 14 j (by decide)) (e 15 j (by decide))⟩
end
section
theorem d_Top_init_0 : decode b_Top_init 0 = .ok (.aload_n 0, 1) := by decide +kernel
theorem d_Top_init_1 : decode b_Top_init 1 = .ok (.invokespecial 1, 3) := by decide +kernel
theorem d_Top_init_4 : decode b_Top_init 4 = .ok (.aload_n 0, 1) := by decide +kernel
theorem d_Top_init_5 : decode b_Top_init 5 = .ok (.new 7, 3) := by decide +kernel
theorem d_Top_init_8 : decode b_Top_init 8 = .ok (.dup, 1) := by decide +kernel
theorem d_Top_init_9 : decode b_Top_init 9 = .ok (.iload_n 1, 1) := by decide +kernel
theorem d_Top_init_10 : decode b_Top_init 10 = .ok (.invokestatic 9, 3) := by decide +kernel
theorem d_Top_init_13 : decode b_Top_init 13 = .ok (.invokespecial 15, 3) := by decide +kernel
theorem d_Top_init_16 : decode b_Top_init 16 = .ok (.putfield 18, 3) := by decide +kernel
theorem d_Top_init_19 : decode b_Top_init 19 = .ok (.aload_n 0, 1) := by decide +kernel
theorem d_Top_init_20 : decode b_Top_init 20 = .ok (.iconst 4, 1) := by decide +kernel
theorem d_Top_init_21 : decode b_Top_init 21 = .ok (.anewarray 22, 3) := by decide +kernel
theorem d_Top_init_24 : decode b_Top_init 24 = .ok (.putfield 24, 3) := by decide +kernel
theorem d_Top_init_27 : decode b_Top_init 27 = .ok (.iconst 0, 1) := by decide +kernel
theorem d_Top_init_28 : decode b_Top_init 28 = .ok (.istore_n 2, 1) := by decide +kernel
theorem d_Top_init_29 : decode b_Top_init 29 = .ok (.iload_n 2, 1) := by decide +kernel
theorem d_Top_init_30 : decode b_Top_init 30 = .ok (.iconst 4, 1) := by decide +kernel
theorem d_Top_init_31 : decode b_Top_init 31 = .ok (.if_icmp .ge 26, 3) := by decide +kernel
theorem d_Top_init_34 : decode b_Top_init 34 = .ok (.aload_n 0, 1) := by decide +kernel
theorem d_Top_init_35 : decode b_Top_init 35 = .ok (.getfield 24, 3) := by decide +kernel
theorem d_Top_init_38 : decode b_Top_init 38 = .ok (.iload_n 2, 1) := by decide +kernel
theorem d_Top_init_39 : decode b_Top_init 39 = .ok (.new 22, 3) := by decide +kernel
theorem d_Top_init_42 : decode b_Top_init 42 = .ok (.dup, 1) := by decide +kernel
theorem d_Top_init_43 : decode b_Top_init 43 = .ok (.aload_n 0, 1) := by decide +kernel
theorem d_Top_init_44 : decode b_Top_init 44 = .ok (.getfield 18, 3) := by decide +kernel
theorem d_Top_init_47 : decode b_Top_init 47 = .ok (.invokespecial 28, 3) := by decide +kernel
theorem d_Top_init_50 : decode b_Top_init 50 = .ok (.aastore, 1) := by decide +kernel
theorem d_Top_init_51 : decode b_Top_init 51 = .ok (.iinc 2 1, 3) := by decide +kernel
theorem d_Top_init_54 : decode b_Top_init 54 = .ok (.goto (-25), 3) := by decide +kernel
theorem d_Top_init_57 : decode b_Top_init 57 = .ok (.aload_n 0, 1) := by decide +kernel
theorem d_Top_init_58 : decode b_Top_init 58 = .ok (.new 22, 3) := by decide +kernel
theorem d_Top_init_61 : decode b_Top_init 61 = .ok (.dup, 1) := by decide +kernel
theorem d_Top_init_62 : decode b_Top_init 62 = .ok (.aload_n 0, 1) := by decide +kernel
theorem d_Top_init_63 : decode b_Top_init 63 = .ok (.getfield 18, 3) := by decide +kernel
theorem d_Top_init_66 : decode b_Top_init 66 = .ok (.invokespecial 28, 3) := by decide +kernel
theorem d_Top_init_69 : decode b_Top_init 69 = .ok (.putfield 31, 3) := by decide +kernel
theorem d_Top_init_72 : decode b_Top_init 72 = .ok (.aload_n 0, 1) := by decide +kernel
theorem d_Top_init_73 : decode b_Top_init 73 = .ok (.new 22, 3) := by decide +kernel
theorem d_Top_init_76 : decode b_Top_init 76 = .ok (.dup, 1) := by decide +kernel
theorem d_Top_init_77 : decode b_Top_init 77 = .ok (.aload_n 0, 1) := by decide +kernel
theorem d_Top_init_78 : decode b_Top_init 78 = .ok (.getfield 18, 3) := by decide +kernel
theorem d_Top_init_81 : decode b_Top_init 81 = .ok (.invokespecial 28, 3) := by decide +kernel
theorem d_Top_init_84 : decode b_Top_init 84 = .ok (.putfield 35, 3) := by decide +kernel
theorem d_Top_init_87 : decode b_Top_init 87 = .ok (.aload_n 0, 1) := by decide +kernel
theorem d_Top_init_88 : decode b_Top_init 88 = .ok (.new 22, 3) := by decide +kernel
theorem d_Top_init_91 : decode b_Top_init 91 = .ok (.dup, 1) := by decide +kernel
theorem d_Top_init_92 : decode b_Top_init 92 = .ok (.aload_n 0, 1) := by decide +kernel
theorem d_Top_init_93 : decode b_Top_init 93 = .ok (.getfield 18, 3) := by decide +kernel
theorem d_Top_init_96 : decode b_Top_init 96 = .ok (.invokespecial 28, 3) := by decide +kernel
theorem d_Top_init_99 : decode b_Top_init 99 = .ok (.putfield 38, 3) := by decide +kernel
theorem d_Top_init_102 : decode b_Top_init 102 = .ok (.aload_n 0, 1) := by decide +kernel
theorem d_Top_init_103 : decode b_Top_init 103 = .ok (.new 41, 3) := by decide +kernel
theorem d_Top_init_106 : decode b_Top_init 106 = .ok (.dup, 1) := by decide +kernel
theorem d_Top_init_107 : decode b_Top_init 107 = .ok (.aload_n 0, 1) := by decide +kernel
theorem d_Top_init_108 : decode b_Top_init 108 = .ok (.getfield 18, 3) := by decide +kernel
theorem d_Top_init_111 : decode b_Top_init 111 = .ok (.invokevirtual 43, 3) := by decide +kernel
theorem d_Top_init_114 : decode b_Top_init 114 = .ok (.invokespecial 47, 3) := by decide +kernel
theorem d_Top_init_117 : decode b_Top_init 117 = .ok (.putfield 50, 3) := by decide +kernel
theorem d_Top_init_120 : decode b_Top_init 120 = .ok (.aload_n 0, 1) := by decide +kernel
theorem d_Top_init_121 : decode b_Top_init 121 = .ok (.iconst 0, 1) := by decide +kernel
theorem d_Top_init_122 : decode b_Top_init 122 = .ok (.putfield 54, 3) := by decide +kernel
theorem d_Top_init_125 : decode b_Top_init 125 = .ok (.return_, 1) := by decide +kernel
theorem d_Top_generators_0 : decode b_Top_generators 0 = .ok (.aload_n 0, 1) := by decide +kernel
theorem d_Top_generators_1 : decode b_Top_generators 1 = .ok (.getfield 18, 3) := by decide +kernel
theorem d_Top_generators_4 : decode b_Top_generators 4 = .ok (.invokevirtual 58, 3) := by decide +kernel
theorem d_Top_generators_7 : decode b_Top_generators 7 = .ok (.ireturn, 1) := by decide +kernel
theorem d_Top_size_0 : decode b_Top_size 0 = .ok (.aload_n 0, 1) := by decide +kernel
theorem d_Top_size_1 : decode b_Top_size 1 = .ok (.getfield 18, 3) := by decide +kernel
theorem d_Top_size_4 : decode b_Top_size 4 = .ok (.invokevirtual 43, 3) := by decide +kernel
theorem d_Top_size_7 : decode b_Top_size 7 = .ok (.ireturn, 1) := by decide +kernel
theorem d_Top_generator_0 : decode b_Top_generator 0 = .ok (.aload_n 0, 1) := by decide +kernel
theorem d_Top_generator_1 : decode b_Top_generator 1 = .ok (.getfield 18, 3) := by decide +kernel
theorem d_Top_generator_4 : decode b_Top_generator 4 = .ok (.iload_n 1, 1) := by decide +kernel
theorem d_Top_generator_5 : decode b_Top_generator 5 = .ok (.invokevirtual 61, 3) := by decide +kernel
theorem d_Top_generator_8 : decode b_Top_generator 8 = .ok (.ifCond .eq 14, 3) := by decide +kernel
theorem d_Top_generator_11 : decode b_Top_generator 11 = .ok (.aload_n 0, 1) := by decide +kernel
theorem d_Top_generator_12 : decode b_Top_generator 12 = .ok (.getfield 18, 3) := by decide +kernel
theorem d_Top_generator_15 : decode b_Top_generator 15 = .ok (.iload_n 1, 1) := by decide +kernel
theorem d_Top_generator_16 : decode b_Top_generator 16 = .ok (.invokevirtual 65, 3) := by decide +kernel
theorem d_Top_generator_19 : decode b_Top_generator 19 = .ok (.goto 4, 3) := by decide +kernel
theorem d_Top_generator_22 : decode b_Top_generator 22 = .ok (.iconst (-1), 1) := by decide +kernel
theorem d_Top_generator_23 : decode b_Top_generator 23 = .ok (.ireturn, 1) := by decide +kernel
theorem d_Top_power_0 : decode b_Top_power 0 = .ok (.aload_n 0, 1) := by decide +kernel
theorem d_Top_power_1 : decode b_Top_power 1 = .ok (.getfield 54, 3) := by decide +kernel
theorem d_Top_power_4 : decode b_Top_power 4 = .ok (.ifCond .ne 15, 3) := by decide +kernel
theorem d_Top_power_7 : decode b_Top_power 7 = .ok (.aload_n 0, 1) := by decide +kernel
theorem d_Top_power_8 : decode b_Top_power 8 = .ok (.getfield 18, 3) := by decide +kernel
theorem d_Top_power_11 : decode b_Top_power 11 = .ok (.iload_n 1, 1) := by decide +kernel
theorem d_Top_power_12 : decode b_Top_power 12 = .ok (.iload_n 2, 1) := by decide +kernel
theorem d_Top_power_13 : decode b_Top_power 13 = .ok (.invokevirtual 69, 3) := by decide +kernel
theorem d_Top_power_16 : decode b_Top_power 16 = .ok (.ifCond .ne 5, 3) := by decide +kernel
theorem d_Top_power_19 : decode b_Top_power 19 = .ok (.iconst 0, 1) := by decide +kernel
theorem d_Top_power_20 : decode b_Top_power 20 = .ok (.ireturn, 1) := by decide +kernel
theorem d_Top_power_21 : decode b_Top_power 21 = .ok (.aload_n 0, 1) := by decide +kernel
theorem d_Top_power_22 : decode b_Top_power 22 = .ok (.getfield 18, 3) := by decide +kernel
theorem d_Top_power_25 : decode b_Top_power 25 = .ok (.iload_n 1, 1) := by decide +kernel
theorem d_Top_power_26 : decode b_Top_power 26 = .ok (.iload_n 2, 1) := by decide +kernel
theorem d_Top_power_27 : decode b_Top_power 27 = .ok (.invokevirtual 73, 3) := by decide +kernel
theorem d_Top_power_30 : decode b_Top_power 30 = .ok (.iconst 1, 1) := by decide +kernel
theorem d_Top_power_31 : decode b_Top_power 31 = .ok (.ireturn, 1) := by decide +kernel
theorem d_Top_conjugate_0 : decode b_Top_conjugate 0 = .ok (.aload_n 0, 1) := by decide +kernel
theorem d_Top_conjugate_1 : decode b_Top_conjugate 1 = .ok (.getfield 54, 3) := by decide +kernel
theorem d_Top_conjugate_4 : decode b_Top_conjugate 4 = .ok (.ifCond .ne 31, 3) := by decide +kernel
theorem d_Top_conjugate_7 : decode b_Top_conjugate 7 = .ok (.aload_n 0, 1) := by decide +kernel
theorem d_Top_conjugate_8 : decode b_Top_conjugate 8 = .ok (.getfield 18, 3) := by decide +kernel
theorem d_Top_conjugate_11 : decode b_Top_conjugate 11 = .ok (.iload_n 2, 1) := by decide +kernel
theorem d_Top_conjugate_12 : decode b_Top_conjugate 12 = .ok (.invokevirtual 61, 3) := by decide +kernel
theorem d_Top_conjugate_15 : decode b_Top_conjugate 15 = .ok (.ifCond .eq 20, 3) := by decide +kernel
theorem d_Top_conjugate_18 : decode b_Top_conjugate 18 = .ok (.iload_n 1, 1) := by decide +kernel
theorem d_Top_conjugate_19 : decode b_Top_conjugate 19 = .ok (.iload_n 2, 1) := by decide +kernel
theorem d_Top_conjugate_20 : decode b_Top_conjugate 20 = .ok (.if_icmp .ge 15, 3) := by decide +kernel
theorem d_Top_conjugate_23 : decode b_Top_conjugate 23 = .ok (.aload_n 0, 1) := by decide +kernel
theorem d_Top_conjugate_24 : decode b_Top_conjugate 24 = .ok (.getfield 18, 3) := by decide +kernel
theorem d_Top_conjugate_27 : decode b_Top_conjugate 27 = .ok (.iload_n 1, 1) := by decide +kernel
theorem d_Top_conjugate_28 : decode b_Top_conjugate 28 = .ok (.iload_n 3, 1) := by decide +kernel
theorem d_Top_conjugate_29 : decode b_Top_conjugate 29 = .ok (.invokevirtual 69, 3) := by decide +kernel
theorem d_Top_conjugate_32 : decode b_Top_conjugate 32 = .ok (.ifCond .ne 5, 3) := by decide +kernel
theorem d_Top_conjugate_35 : decode b_Top_conjugate 35 = .ok (.iconst 0, 1) := by decide +kernel
theorem d_Top_conjugate_36 : decode b_Top_conjugate 36 = .ok (.ireturn, 1) := by decide +kernel
theorem d_Top_conjugate_37 : decode b_Top_conjugate 37 = .ok (.aload_n 0, 1) := by decide +kernel
theorem d_Top_conjugate_38 : decode b_Top_conjugate 38 = .ok (.getfield 18, 3) := by decide +kernel
theorem d_Top_conjugate_41 : decode b_Top_conjugate 41 = .ok (.iload_n 1, 1) := by decide +kernel
theorem d_Top_conjugate_42 : decode b_Top_conjugate 42 = .ok (.iload_n 2, 1) := by decide +kernel
theorem d_Top_conjugate_43 : decode b_Top_conjugate 43 = .ok (.iload_n 3, 1) := by decide +kernel
theorem d_Top_conjugate_44 : decode b_Top_conjugate 44 = .ok (.invokevirtual 77, 3) := by decide +kernel
theorem d_Top_conjugate_47 : decode b_Top_conjugate 47 = .ok (.iconst 1, 1) := by decide +kernel
theorem d_Top_conjugate_48 : decode b_Top_conjugate 48 = .ok (.ireturn, 1) := by decide +kernel
theorem d_Top_fix_0 : decode b_Top_fix 0 = .ok (.aload_n 0, 1) := by decide +kernel
theorem d_Top_fix_1 : decode b_Top_fix 1 = .ok (.getfield 54, 3) := by decide +kernel
theorem d_Top_fix_4 : decode b_Top_fix 4 = .ok (.ifCond .ne 44, 3) := by decide +kernel
theorem d_Top_fix_7 : decode b_Top_fix 7 = .ok (.aload_n 0, 1) := by decide +kernel
theorem d_Top_fix_8 : decode b_Top_fix 8 = .ok (.getfield 18, 3) := by decide +kernel
theorem d_Top_fix_11 : decode b_Top_fix 11 = .ok (.invokevirtual 81, 3) := by decide +kernel
theorem d_Top_fix_14 : decode b_Top_fix 14 = .ok (.ifCond .eq 34, 3) := by decide +kernel
theorem d_Top_fix_17 : decode b_Top_fix 17 = .ok (.aload_n 0, 1) := by decide +kernel
theorem d_Top_fix_18 : decode b_Top_fix 18 = .ok (.iconst 1, 1) := by decide +kernel
theorem d_Top_fix_19 : decode b_Top_fix 19 = .ok (.putfield 54, 3) := by decide +kernel
theorem d_Top_fix_22 : decode b_Top_fix 22 = .ok (.iconst 0, 1) := by decide +kernel
theorem d_Top_fix_23 : decode b_Top_fix 23 = .ok (.istore_n 1, 1) := by decide +kernel
theorem d_Top_fix_24 : decode b_Top_fix 24 = .ok (.iload_n 1, 1) := by decide +kernel
theorem d_Top_fix_25 : decode b_Top_fix 25 = .ok (.iconst 4, 1) := by decide +kernel
theorem d_Top_fix_26 : decode b_Top_fix 26 = .ok (.if_icmp .ge 18, 3) := by decide +kernel
theorem d_Top_fix_29 : decode b_Top_fix 29 = .ok (.aload_n 0, 1) := by decide +kernel
theorem d_Top_fix_30 : decode b_Top_fix 30 = .ok (.getfield 24, 3) := by decide +kernel
theorem d_Top_fix_33 : decode b_Top_fix 33 = .ok (.iload_n 1, 1) := by decide +kernel
theorem d_Top_fix_34 : decode b_Top_fix 34 = .ok (.aaload, 1) := by decide +kernel
theorem d_Top_fix_35 : decode b_Top_fix 35 = .ok (.invokevirtual 85, 3) := by decide +kernel
theorem d_Top_fix_38 : decode b_Top_fix 38 = .ok (.iinc 1 1, 3) := by decide +kernel
theorem d_Top_fix_41 : decode b_Top_fix 41 = .ok (.goto (-17), 3) := by decide +kernel
theorem d_Top_fix_44 : decode b_Top_fix 44 = .ok (.aload_n 0, 1) := by decide +kernel
theorem d_Top_fix_45 : decode b_Top_fix 45 = .ok (.invokevirtual 88, 3) := by decide +kernel
theorem d_Top_fix_48 : decode b_Top_fix 48 = .ok (.aload_n 0, 1) := by decide +kernel
theorem d_Top_fix_49 : decode b_Top_fix 49 = .ok (.getfield 54, 3) := by decide +kernel
theorem d_Top_fix_52 : decode b_Top_fix 52 = .ok (.ireturn, 1) := by decide +kernel
theorem d_Top_release_0 : decode b_Top_release 0 = .ok (.aload_n 0, 1) := by decide +kernel
theorem d_Top_release_1 : decode b_Top_release 1 = .ok (.iconst 0, 1) := by decide +kernel
theorem d_Top_release_2 : decode b_Top_release 2 = .ok (.putfield 54, 3) := by decide +kernel
theorem d_Top_release_5 : decode b_Top_release 5 = .ok (.return_, 1) := by decide +kernel
theorem d_Top_fixed_0 : decode b_Top_fixed 0 = .ok (.aload_n 0, 1) := by decide +kernel
theorem d_Top_fixed_1 : decode b_Top_fixed 1 = .ok (.getfield 54, 3) := by decide +kernel
theorem d_Top_fixed_4 : decode b_Top_fixed 4 = .ok (.ireturn, 1) := by decide +kernel
theorem d_Top_product_0 : decode b_Top_product 0 = .ok (.aload_n 0, 1) := by decide +kernel
theorem d_Top_product_1 : decode b_Top_product 1 = .ok (.iload_n 1, 1) := by decide +kernel
theorem d_Top_product_2 : decode b_Top_product 2 = .ok (.invokevirtual 91, 3) := by decide +kernel
theorem d_Top_product_5 : decode b_Top_product 5 = .ok (.ifCond .eq 23, 3) := by decide +kernel
theorem d_Top_product_8 : decode b_Top_product 8 = .ok (.aload_n 0, 1) := by decide +kernel
theorem d_Top_product_9 : decode b_Top_product 9 = .ok (.iload_n 2, 1) := by decide +kernel
theorem d_Top_product_10 : decode b_Top_product 10 = .ok (.invokevirtual 91, 3) := by decide +kernel
theorem d_Top_product_13 : decode b_Top_product 13 = .ok (.ifCond .eq 15, 3) := by decide +kernel
theorem d_Top_product_16 : decode b_Top_product 16 = .ok (.aload_n 0, 1) := by decide +kernel
theorem d_Top_product_17 : decode b_Top_product 17 = .ok (.getfield 18, 3) := by decide +kernel
theorem d_Top_product_20 : decode b_Top_product 20 = .ok (.iload_n 1, 1) := by decide +kernel
theorem d_Top_product_21 : decode b_Top_product 21 = .ok (.iload_n 2, 1) := by decide +kernel
theorem d_Top_product_22 : decode b_Top_product 22 = .ok (.invokevirtual 94, 3) := by decide +kernel
theorem d_Top_product_25 : decode b_Top_product 25 = .ok (.goto 4, 3) := by decide +kernel
theorem d_Top_product_28 : decode b_Top_product 28 = .ok (.iconst (-1), 1) := by decide +kernel
theorem d_Top_product_29 : decode b_Top_product 29 = .ok (.ireturn, 1) := by decide +kernel
theorem d_Top_times_0 : decode b_Top_times 0 = .ok (.aload_n 0, 1) := by decide +kernel
theorem d_Top_times_1 : decode b_Top_times 1 = .ok (.iload_n 1, 1) := by decide +kernel
theorem d_Top_times_2 : decode b_Top_times 2 = .ok (.invokevirtual 91, 3) := by decide +kernel
theorem d_Top_times_5 : decode b_Top_times 5 = .ok (.ifCond .ne 5, 3) := by decide +kernel
theorem d_Top_times_8 : decode b_Top_times 8 = .ok (.iconst (-1), 1) := by decide +kernel
theorem d_Top_times_9 : decode b_Top_times 9 = .ok (.ireturn, 1) := by decide +kernel
theorem d_Top_times_10 : decode b_Top_times 10 = .ok (.aload_n 0, 1) := by decide +kernel
theorem d_Top_times_11 : decode b_Top_times 11 = .ok (.getfield 18, 3) := by decide +kernel
theorem d_Top_times_14 : decode b_Top_times 14 = .ok (.iload_n 1, 1) := by decide +kernel
theorem d_Top_times_15 : decode b_Top_times 15 = .ok (.iload_n 2, 1) := by decide +kernel
theorem d_Top_times_16 : decode b_Top_times 16 = .ok (.aload_n 0, 1) := by decide +kernel
theorem d_Top_times_17 : decode b_Top_times 17 = .ok (.getfield 18, 3) := by decide +kernel
theorem d_Top_times_20 : decode b_Top_times 20 = .ok (.iload_n 1, 1) := by decide +kernel
theorem d_Top_times_21 : decode b_Top_times 21 = .ok (.invokevirtual 98, 3) := by decide +kernel
theorem d_Top_times_24 : decode b_Top_times 24 = .ok (.invokestatic 101, 3) := by decide +kernel
theorem d_Top_times_27 : decode b_Top_times 27 = .ok (.invokevirtual 106, 3) := by decide +kernel
theorem d_Top_times_30 : decode b_Top_times 30 = .ok (.ireturn, 1) := by decide +kernel
theorem d_Top_conjugated_0 : decode b_Top_conjugated 0 = .ok (.aload_n 0, 1) := by decide +kernel
theorem d_Top_conjugated_1 : decode b_Top_conjugated 1 = .ok (.iload_n 1, 1) := by decide +kernel
theorem d_Top_conjugated_2 : decode b_Top_conjugated 2 = .ok (.invokevirtual 91, 3) := by decide +kernel
theorem d_Top_conjugated_5 : decode b_Top_conjugated 5 = .ok (.ifCond .eq 23, 3) := by decide +kernel
theorem d_Top_conjugated_8 : decode b_Top_conjugated 8 = .ok (.aload_n 0, 1) := by decide +kernel
theorem d_Top_conjugated_9 : decode b_Top_conjugated 9 = .ok (.iload_n 2, 1) := by decide +kernel
theorem d_Top_conjugated_10 : decode b_Top_conjugated 10 = .ok (.invokevirtual 91, 3) := by decide +kernel
theorem d_Top_conjugated_13 : decode b_Top_conjugated 13 = .ok (.ifCond .eq 15, 3) := by decide +kernel
theorem d_Top_conjugated_16 : decode b_Top_conjugated 16 = .ok (.aload_n 0, 1) := by decide +kernel
theorem d_Top_conjugated_17 : decode b_Top_conjugated 17 = .ok (.getfield 18, 3) := by decide +kernel
theorem d_Top_conjugated_20 : decode b_Top_conjugated 20 = .ok (.iload_n 1, 1) := by decide +kernel
theorem d_Top_conjugated_21 : decode b_Top_conjugated 21 = .ok (.iload_n 2, 1) := by decide +kernel
theorem d_Top_conjugated_22 : decode b_Top_conjugated 22 = .ok (.invokevirtual 109, 3) := by decide +kernel
theorem d_Top_conjugated_25 : decode b_Top_conjugated 25 = .ok (.goto 4, 3) := by decide +kernel
theorem d_Top_conjugated_28 : decode b_Top_conjugated 28 = .ok (.iconst (-1), 1) := by decide +kernel
theorem d_Top_conjugated_29 : decode b_Top_conjugated 29 = .ok (.ireturn, 1) := by decide +kernel
theorem d_Top_commutator_0 : decode b_Top_commutator 0 = .ok (.aload_n 0, 1) := by decide +kernel
theorem d_Top_commutator_1 : decode b_Top_commutator 1 = .ok (.iload_n 1, 1) := by decide +kernel
theorem d_Top_commutator_2 : decode b_Top_commutator 2 = .ok (.invokevirtual 91, 3) := by decide +kernel
theorem d_Top_commutator_5 : decode b_Top_commutator 5 = .ok (.ifCond .eq 23, 3) := by decide +kernel
theorem d_Top_commutator_8 : decode b_Top_commutator 8 = .ok (.aload_n 0, 1) := by decide +kernel
theorem d_Top_commutator_9 : decode b_Top_commutator 9 = .ok (.iload_n 2, 1) := by decide +kernel
theorem d_Top_commutator_10 : decode b_Top_commutator 10 = .ok (.invokevirtual 91, 3) := by decide +kernel
theorem d_Top_commutator_13 : decode b_Top_commutator 13 = .ok (.ifCond .eq 15, 3) := by decide +kernel
theorem d_Top_commutator_16 : decode b_Top_commutator 16 = .ok (.aload_n 0, 1) := by decide +kernel
theorem d_Top_commutator_17 : decode b_Top_commutator 17 = .ok (.getfield 18, 3) := by decide +kernel
theorem d_Top_commutator_20 : decode b_Top_commutator 20 = .ok (.iload_n 1, 1) := by decide +kernel
theorem d_Top_commutator_21 : decode b_Top_commutator 21 = .ok (.iload_n 2, 1) := by decide +kernel
theorem d_Top_commutator_22 : decode b_Top_commutator 22 = .ok (.invokevirtual 112, 3) := by decide +kernel
theorem d_Top_commutator_25 : decode b_Top_commutator 25 = .ok (.goto 4, 3) := by decide +kernel
theorem d_Top_commutator_28 : decode b_Top_commutator 28 = .ok (.iconst (-1), 1) := by decide +kernel
theorem d_Top_commutator_29 : decode b_Top_commutator 29 = .ok (.ireturn, 1) := by decide +kernel
theorem d_Top_order_0 : decode b_Top_order 0 = .ok (.aload_n 0, 1) := by decide +kernel
theorem d_Top_order_1 : decode b_Top_order 1 = .ok (.iload_n 1, 1) := by decide +kernel
theorem d_Top_order_2 : decode b_Top_order 2 = .ok (.invokevirtual 91, 3) := by decide +kernel
theorem d_Top_order_5 : decode b_Top_order 5 = .ok (.ifCond .eq 14, 3) := by decide +kernel
theorem d_Top_order_8 : decode b_Top_order 8 = .ok (.aload_n 0, 1) := by decide +kernel
theorem d_Top_order_9 : decode b_Top_order 9 = .ok (.getfield 18, 3) := by decide +kernel
theorem d_Top_order_12 : decode b_Top_order 12 = .ok (.iload_n 1, 1) := by decide +kernel
theorem d_Top_order_13 : decode b_Top_order 13 = .ok (.invokevirtual 98, 3) := by decide +kernel
theorem d_Top_order_16 : decode b_Top_order 16 = .ok (.goto 4, 3) := by decide +kernel
theorem d_Top_order_19 : decode b_Top_order 19 = .ok (.iconst (-1), 1) := by decide +kernel
theorem d_Top_order_20 : decode b_Top_order 20 = .ok (.ireturn, 1) := by decide +kernel
theorem d_Top_clear_0 : decode b_Top_clear 0 = .ok (.aload_n 0, 1) := by decide +kernel
theorem d_Top_clear_1 : decode b_Top_clear 1 = .ok (.iload_n 1, 1) := by decide +kernel
theorem d_Top_clear_2 : decode b_Top_clear 2 = .ok (.invokevirtual 115, 3) := by decide +kernel
theorem d_Top_clear_5 : decode b_Top_clear 5 = .ok (.ifCond .ne 5, 3) := by decide +kernel
theorem d_Top_clear_8 : decode b_Top_clear 8 = .ok (.iconst (-1), 1) := by decide +kernel
theorem d_Top_clear_9 : decode b_Top_clear 9 = .ok (.ireturn, 1) := by decide +kernel
theorem d_Top_clear_10 : decode b_Top_clear 10 = .ok (.aload_n 0, 1) := by decide +kernel
theorem d_Top_clear_11 : decode b_Top_clear 11 = .ok (.getfield 24, 3) := by decide +kernel
theorem d_Top_clear_14 : decode b_Top_clear 14 = .ok (.iload_n 1, 1) := by decide +kernel
theorem d_Top_clear_15 : decode b_Top_clear 15 = .ok (.aaload, 1) := by decide +kernel
theorem d_Top_clear_16 : decode b_Top_clear 16 = .ok (.invokevirtual 85, 3) := by decide +kernel
theorem d_Top_clear_19 : decode b_Top_clear 19 = .ok (.aload_n 0, 1) := by decide +kernel
theorem d_Top_clear_20 : decode b_Top_clear 20 = .ok (.getfield 24, 3) := by decide +kernel
theorem d_Top_clear_23 : decode b_Top_clear 23 = .ok (.iload_n 1, 1) := by decide +kernel
theorem d_Top_clear_24 : decode b_Top_clear 24 = .ok (.aaload, 1) := by decide +kernel
theorem d_Top_clear_25 : decode b_Top_clear 25 = .ok (.invokevirtual 118, 3) := by decide +kernel
theorem d_Top_clear_28 : decode b_Top_clear 28 = .ok (.ireturn, 1) := by decide +kernel
theorem d_Top_join_0 : decode b_Top_join 0 = .ok (.aload_n 0, 1) := by decide +kernel
theorem d_Top_join_1 : decode b_Top_join 1 = .ok (.iload_n 1, 1) := by decide +kernel
theorem d_Top_join_2 : decode b_Top_join 2 = .ok (.invokevirtual 115, 3) := by decide +kernel
theorem d_Top_join_5 : decode b_Top_join 5 = .ok (.ifCond .eq 11, 3) := by decide +kernel
theorem d_Top_join_8 : decode b_Top_join 8 = .ok (.aload_n 0, 1) := by decide +kernel
theorem d_Top_join_9 : decode b_Top_join 9 = .ok (.iload_n 2, 1) := by decide +kernel
theorem d_Top_join_10 : decode b_Top_join 10 = .ok (.invokevirtual 91, 3) := by decide +kernel
theorem d_Top_join_13 : decode b_Top_join 13 = .ok (.ifCond .ne 5, 3) := by decide +kernel
theorem d_Top_join_16 : decode b_Top_join 16 = .ok (.iconst (-1), 1) := by decide +kernel
theorem d_Top_join_17 : decode b_Top_join 17 = .ok (.ireturn, 1) := by decide +kernel
theorem d_Top_join_18 : decode b_Top_join 18 = .ok (.aload_n 0, 1) := by decide +kernel
theorem d_Top_join_19 : decode b_Top_join 19 = .ok (.getfield 24, 3) := by decide +kernel
theorem d_Top_join_22 : decode b_Top_join 22 = .ok (.iload_n 1, 1) := by decide +kernel
theorem d_Top_join_23 : decode b_Top_join 23 = .ok (.aaload, 1) := by decide +kernel
theorem d_Top_join_24 : decode b_Top_join 24 = .ok (.iload_n 2, 1) := by decide +kernel
theorem d_Top_join_25 : decode b_Top_join 25 = .ok (.invokevirtual 121, 3) := by decide +kernel
theorem d_Top_join_28 : decode b_Top_join 28 = .ok (.aload_n 0, 1) := by decide +kernel
theorem d_Top_join_29 : decode b_Top_join 29 = .ok (.getfield 24, 3) := by decide +kernel
theorem d_Top_join_32 : decode b_Top_join 32 = .ok (.iload_n 1, 1) := by decide +kernel
theorem d_Top_join_33 : decode b_Top_join 33 = .ok (.aaload, 1) := by decide +kernel
theorem d_Top_join_34 : decode b_Top_join 34 = .ok (.invokevirtual 118, 3) := by decide +kernel
theorem d_Top_join_37 : decode b_Top_join 37 = .ok (.ireturn, 1) := by decide +kernel
theorem d_Top_spread_0 : decode b_Top_spread 0 = .ok (.aload_n 0, 1) := by decide +kernel
theorem d_Top_spread_1 : decode b_Top_spread 1 = .ok (.iload_n 1, 1) := by decide +kernel
theorem d_Top_spread_2 : decode b_Top_spread 2 = .ok (.invokevirtual 115, 3) := by decide +kernel
theorem d_Top_spread_5 : decode b_Top_spread 5 = .ok (.ifCond .ne 5, 3) := by decide +kernel
theorem d_Top_spread_8 : decode b_Top_spread 8 = .ok (.iconst (-1), 1) := by decide +kernel
theorem d_Top_spread_9 : decode b_Top_spread 9 = .ok (.ireturn, 1) := by decide +kernel
theorem d_Top_spread_10 : decode b_Top_spread 10 = .ok (.aload_n 0, 1) := by decide +kernel
theorem d_Top_spread_11 : decode b_Top_spread 11 = .ok (.getfield 24, 3) := by decide +kernel
theorem d_Top_spread_14 : decode b_Top_spread 14 = .ok (.iload_n 1, 1) := by decide +kernel
theorem d_Top_spread_15 : decode b_Top_spread 15 = .ok (.aaload, 1) := by decide +kernel
theorem d_Top_spread_16 : decode b_Top_spread 16 = .ok (.aload_n 0, 1) := by decide +kernel
theorem d_Top_spread_17 : decode b_Top_spread 17 = .ok (.getfield 31, 3) := by decide +kernel
theorem d_Top_spread_20 : decode b_Top_spread 20 = .ok (.invokevirtual 124, 3) := by decide +kernel
theorem d_Top_spread_23 : decode b_Top_spread 23 = .ok (.aload_n 0, 1) := by decide +kernel
theorem d_Top_spread_24 : decode b_Top_spread 24 = .ok (.getfield 24, 3) := by decide +kernel
theorem d_Top_spread_27 : decode b_Top_spread 27 = .ok (.iload_n 1, 1) := by decide +kernel
theorem d_Top_spread_28 : decode b_Top_spread 28 = .ok (.aaload, 1) := by decide +kernel
theorem d_Top_spread_29 : decode b_Top_spread 29 = .ok (.invokevirtual 118, 3) := by decide +kernel
theorem d_Top_spread_32 : decode b_Top_spread 32 = .ok (.ireturn, 1) := by decide +kernel
theorem d_Top_commute_0 : decode b_Top_commute 0 = .ok (.aload_n 0, 1) := by decide +kernel
theorem d_Top_commute_1 : decode b_Top_commute 1 = .ok (.iload_n 1, 1) := by decide +kernel
theorem d_Top_commute_2 : decode b_Top_commute 2 = .ok (.invokevirtual 115, 3) := by decide +kernel
theorem d_Top_commute_5 : decode b_Top_commute 5 = .ok (.ifCond .eq 19, 3) := by decide +kernel
theorem d_Top_commute_8 : decode b_Top_commute 8 = .ok (.aload_n 0, 1) := by decide +kernel
theorem d_Top_commute_9 : decode b_Top_commute 9 = .ok (.iload_n 2, 1) := by decide +kernel
theorem d_Top_commute_10 : decode b_Top_commute 10 = .ok (.invokevirtual 115, 3) := by decide +kernel
theorem d_Top_commute_13 : decode b_Top_commute 13 = .ok (.ifCond .eq 11, 3) := by decide +kernel
theorem d_Top_commute_16 : decode b_Top_commute 16 = .ok (.aload_n 0, 1) := by decide +kernel
theorem d_Top_commute_17 : decode b_Top_commute 17 = .ok (.iload_n 3, 1) := by decide +kernel
theorem d_Top_commute_18 : decode b_Top_commute 18 = .ok (.invokevirtual 115, 3) := by decide +kernel
theorem d_Top_commute_21 : decode b_Top_commute 21 = .ok (.ifCond .ne 5, 3) := by decide +kernel
theorem d_Top_commute_24 : decode b_Top_commute 24 = .ok (.iconst (-1), 1) := by decide +kernel
theorem d_Top_commute_25 : decode b_Top_commute 25 = .ok (.ireturn, 1) := by decide +kernel
theorem d_Top_commute_26 : decode b_Top_commute 26 = .ok (.aload_n 0, 1) := by decide +kernel
theorem d_Top_commute_27 : decode b_Top_commute 27 = .ok (.getfield 38, 3) := by decide +kernel
theorem d_Top_commute_30 : decode b_Top_commute 30 = .ok (.aload_n 0, 1) := by decide +kernel
theorem d_Top_commute_31 : decode b_Top_commute 31 = .ok (.getfield 24, 3) := by decide +kernel
theorem d_Top_commute_34 : decode b_Top_commute 34 = .ok (.iload_n 1, 1) := by decide +kernel
theorem d_Top_commute_35 : decode b_Top_commute 35 = .ok (.aaload, 1) := by decide +kernel
theorem d_Top_commute_36 : decode b_Top_commute 36 = .ok (.aload_n 0, 1) := by decide +kernel
theorem d_Top_commute_37 : decode b_Top_commute 37 = .ok (.getfield 24, 3) := by decide +kernel
theorem d_Top_commute_40 : decode b_Top_commute 40 = .ok (.iload_n 2, 1) := by decide +kernel
theorem d_Top_commute_41 : decode b_Top_commute 41 = .ok (.aaload, 1) := by decide +kernel
theorem d_Top_commute_42 : decode b_Top_commute 42 = .ok (.invokevirtual 128, 3) := by decide +kernel
theorem d_Top_commute_45 : decode b_Top_commute 45 = .ok (.aload_n 0, 1) := by decide +kernel
theorem d_Top_commute_46 : decode b_Top_commute 46 = .ok (.getfield 24, 3) := by decide +kernel
theorem d_Top_commute_49 : decode b_Top_commute 49 = .ok (.iload_n 3, 1) := by decide +kernel
theorem d_Top_commute_50 : decode b_Top_commute 50 = .ok (.aaload, 1) := by decide +kernel
theorem d_Top_commute_51 : decode b_Top_commute 51 = .ok (.aload_n 0, 1) := by decide +kernel
theorem d_Top_commute_52 : decode b_Top_commute 52 = .ok (.getfield 38, 3) := by decide +kernel
theorem d_Top_commute_55 : decode b_Top_commute 55 = .ok (.invokevirtual 132, 3) := by decide +kernel
theorem d_Top_commute_58 : decode b_Top_commute 58 = .ok (.aload_n 0, 1) := by decide +kernel
theorem d_Top_commute_59 : decode b_Top_commute 59 = .ok (.getfield 24, 3) := by decide +kernel
theorem d_Top_commute_62 : decode b_Top_commute 62 = .ok (.iload_n 3, 1) := by decide +kernel
theorem d_Top_commute_63 : decode b_Top_commute 63 = .ok (.aaload, 1) := by decide +kernel
theorem d_Top_commute_64 : decode b_Top_commute 64 = .ok (.invokevirtual 118, 3) := by decide +kernel
theorem d_Top_commute_67 : decode b_Top_commute 67 = .ok (.ireturn, 1) := by decide +kernel
theorem d_Top_count_0 : decode b_Top_count 0 = .ok (.aload_n 0, 1) := by decide +kernel
theorem d_Top_count_1 : decode b_Top_count 1 = .ok (.iload_n 1, 1) := by decide +kernel
theorem d_Top_count_2 : decode b_Top_count 2 = .ok (.invokevirtual 115, 3) := by decide +kernel
theorem d_Top_count_5 : decode b_Top_count 5 = .ok (.ifCond .eq 15, 3) := by decide +kernel
theorem d_Top_count_8 : decode b_Top_count 8 = .ok (.aload_n 0, 1) := by decide +kernel
theorem d_Top_count_9 : decode b_Top_count 9 = .ok (.getfield 24, 3) := by decide +kernel
theorem d_Top_count_12 : decode b_Top_count 12 = .ok (.iload_n 1, 1) := by decide +kernel
theorem d_Top_count_13 : decode b_Top_count 13 = .ok (.aaload, 1) := by decide +kernel
theorem d_Top_count_14 : decode b_Top_count 14 = .ok (.invokevirtual 118, 3) := by decide +kernel
theorem d_Top_count_17 : decode b_Top_count 17 = .ok (.goto 4, 3) := by decide +kernel
theorem d_Top_count_20 : decode b_Top_count 20 = .ok (.iconst (-1), 1) := by decide +kernel
theorem d_Top_count_21 : decode b_Top_count 21 = .ok (.ireturn, 1) := by decide +kernel
theorem d_Top_has_0 : decode b_Top_has 0 = .ok (.aload_n 0, 1) := by decide +kernel
theorem d_Top_has_1 : decode b_Top_has 1 = .ok (.iload_n 1, 1) := by decide +kernel
theorem d_Top_has_2 : decode b_Top_has 2 = .ok (.invokevirtual 115, 3) := by decide +kernel
theorem d_Top_has_5 : decode b_Top_has 5 = .ok (.ifCond .eq 28, 3) := by decide +kernel
theorem d_Top_has_8 : decode b_Top_has 8 = .ok (.aload_n 0, 1) := by decide +kernel
theorem d_Top_has_9 : decode b_Top_has 9 = .ok (.iload_n 2, 1) := by decide +kernel
theorem d_Top_has_10 : decode b_Top_has 10 = .ok (.invokevirtual 91, 3) := by decide +kernel
theorem d_Top_has_13 : decode b_Top_has 13 = .ok (.ifCond .eq 20, 3) := by decide +kernel
theorem d_Top_has_16 : decode b_Top_has 16 = .ok (.aload_n 0, 1) := by decide +kernel
theorem d_Top_has_17 : decode b_Top_has 17 = .ok (.getfield 24, 3) := by decide +kernel
theorem d_Top_has_20 : decode b_Top_has 20 = .ok (.iload_n 1, 1) := by decide +kernel
theorem d_Top_has_21 : decode b_Top_has 21 = .ok (.aaload, 1) := by decide +kernel
theorem d_Top_has_22 : decode b_Top_has 22 = .ok (.iload_n 2, 1) := by decide +kernel
theorem d_Top_has_23 : decode b_Top_has 23 = .ok (.invokevirtual 135, 3) := by decide +kernel
theorem d_Top_has_26 : decode b_Top_has 26 = .ok (.ifCond .eq 7, 3) := by decide +kernel
theorem d_Top_has_29 : decode b_Top_has 29 = .ok (.iconst 1, 1) := by decide +kernel
theorem d_Top_has_30 : decode b_Top_has 30 = .ok (.goto 4, 3) := by decide +kernel
theorem d_Top_has_33 : decode b_Top_has 33 = .ok (.iconst 0, 1) := by decide +kernel
theorem d_Top_has_34 : decode b_Top_has 34 = .ok (.ireturn, 1) := by decide +kernel
theorem d_Top_derived_0 : decode b_Top_derived 0 = .ok (.aload_n 0, 1) := by decide +kernel
theorem d_Top_derived_1 : decode b_Top_derived 1 = .ok (.iload_n 1, 1) := by decide +kernel
theorem d_Top_derived_2 : decode b_Top_derived 2 = .ok (.aload_n 0, 1) := by decide +kernel
theorem d_Top_derived_3 : decode b_Top_derived 3 = .ok (.getfield 35, 3) := by decide +kernel
theorem d_Top_derived_6 : decode b_Top_derived 6 = .ok (.invokevirtual 138, 3) := by decide +kernel
theorem d_Top_derived_9 : decode b_Top_derived 9 = .ok (.ireturn, 1) := by decide +kernel
theorem d_Top_lower_0 : decode b_Top_lower 0 = .ok (.aload_n 0, 1) := by decide +kernel
theorem d_Top_lower_1 : decode b_Top_lower 1 = .ok (.iload_n 1, 1) := by decide +kernel
theorem d_Top_lower_2 : decode b_Top_lower 2 = .ok (.aload_n 0, 1) := by decide +kernel
theorem d_Top_lower_3 : decode b_Top_lower 3 = .ok (.getfield 31, 3) := by decide +kernel
theorem d_Top_lower_6 : decode b_Top_lower 6 = .ok (.invokevirtual 138, 3) := by decide +kernel
theorem d_Top_lower_9 : decode b_Top_lower 9 = .ok (.ireturn, 1) := by decide +kernel
theorem d_Top_centre_0 : decode b_Top_centre 0 = .ok (.aload_n 0, 1) := by decide +kernel
theorem d_Top_centre_1 : decode b_Top_centre 1 = .ok (.getfield 54, 3) := by decide +kernel
theorem d_Top_centre_4 : decode b_Top_centre 4 = .ok (.ifCond .ne 5, 3) := by decide +kernel
theorem d_Top_centre_7 : decode b_Top_centre 7 = .ok (.iconst (-1), 1) := by decide +kernel
theorem d_Top_centre_8 : decode b_Top_centre 8 = .ok (.ireturn, 1) := by decide +kernel
theorem d_Top_centre_9 : decode b_Top_centre 9 = .ok (.iconst 0, 1) := by decide +kernel
theorem d_Top_centre_10 : decode b_Top_centre 10 = .ok (.istore_n 1, 1) := by decide +kernel
theorem d_Top_centre_11 : decode b_Top_centre 11 = .ok (.iconst 0, 1) := by decide +kernel
theorem d_Top_centre_12 : decode b_Top_centre 12 = .ok (.istore_n 2, 1) := by decide +kernel
theorem d_Top_centre_13 : decode b_Top_centre 13 = .ok (.iload_n 2, 1) := by decide +kernel
theorem d_Top_centre_14 : decode b_Top_centre 14 = .ok (.aload_n 0, 1) := by decide +kernel
theorem d_Top_centre_15 : decode b_Top_centre 15 = .ok (.getfield 18, 3) := by decide +kernel
theorem d_Top_centre_18 : decode b_Top_centre 18 = .ok (.invokevirtual 43, 3) := by decide +kernel
theorem d_Top_centre_21 : decode b_Top_centre 21 = .ok (.if_icmp .ge 23, 3) := by decide +kernel
theorem d_Top_centre_24 : decode b_Top_centre 24 = .ok (.aload_n 0, 1) := by decide +kernel
theorem d_Top_centre_25 : decode b_Top_centre 25 = .ok (.getfield 18, 3) := by decide +kernel
theorem d_Top_centre_28 : decode b_Top_centre 28 = .ok (.iload_n 2, 1) := by decide +kernel
theorem d_Top_centre_29 : decode b_Top_centre 29 = .ok (.invokevirtual 142, 3) := by decide +kernel
theorem d_Top_centre_32 : decode b_Top_centre 32 = .ok (.ifCond .eq 6, 3) := by decide +kernel
theorem d_Top_centre_35 : decode b_Top_centre 35 = .ok (.iinc 1 1, 3) := by decide +kernel
theorem d_Top_centre_38 : decode b_Top_centre 38 = .ok (.iinc 2 1, 3) := by decide +kernel
theorem d_Top_centre_41 : decode b_Top_centre 41 = .ok (.goto (-28), 3) := by decide +kernel
theorem d_Top_centre_44 : decode b_Top_centre 44 = .ok (.iload_n 1, 1) := by decide +kernel
theorem d_Top_centre_45 : decode b_Top_centre 45 = .ok (.ireturn, 1) := by decide +kernel
end
section
theorem d_Top_classes_0 : decode b_Top_classes 0 = .ok (.aload_n 0, 1) := by decide +kernel
theorem d_Top_classes_1 : decode b_Top_classes 1 = .ok (.getfield 54, 3) := by decide +kernel
theorem d_Top_classes_4 : decode b_Top_classes 4 = .ok (.ifCond .ne 5, 3) := by decide +kernel
theorem d_Top_classes_7 : decode b_Top_classes 7 = .ok (.iconst (-1), 1) := by decide +kernel
theorem d_Top_classes_8 : decode b_Top_classes 8 = .ok (.ireturn, 1) := by decide +kernel
theorem d_Top_classes_9 : decode b_Top_classes 9 = .ok (.iconst 0, 1) := by decide +kernel
theorem d_Top_classes_10 : decode b_Top_classes 10 = .ok (.istore_n 1, 1) := by decide +kernel
theorem d_Top_classes_11 : decode b_Top_classes 11 = .ok (.aload_n 0, 1) := by decide +kernel
theorem d_Top_classes_12 : decode b_Top_classes 12 = .ok (.getfield 50, 3) := by decide +kernel
theorem d_Top_classes_15 : decode b_Top_classes 15 = .ok (.invokevirtual 145, 3) := by decide +kernel
theorem d_Top_classes_18 : decode b_Top_classes 18 = .ok (.iconst 0, 1) := by decide +kernel
theorem d_Top_classes_19 : decode b_Top_classes 19 = .ok (.istore_n 2, 1) := by decide +kernel
theorem d_Top_classes_20 : decode b_Top_classes 20 = .ok (.iload_n 2, 1) := by decide +kernel
theorem d_Top_classes_21 : decode b_Top_classes 21 = .ok (.aload_n 0, 1) := by decide +kernel
theorem d_Top_classes_22 : decode b_Top_classes 22 = .ok (.getfield 18, 3) := by decide +kernel
theorem d_Top_classes_25 : decode b_Top_classes 25 = .ok (.invokevirtual 43, 3) := by decide +kernel
theorem d_Top_classes_28 : decode b_Top_classes 28 = .ok (.if_icmp .ge 28, 3) := by decide +kernel
theorem d_Top_classes_31 : decode b_Top_classes 31 = .ok (.aload_n 0, 1) := by decide +kernel
theorem d_Top_classes_32 : decode b_Top_classes 32 = .ok (.getfield 50, 3) := by decide +kernel
theorem d_Top_classes_35 : decode b_Top_classes 35 = .ok (.iload_n 2, 1) := by decide +kernel
theorem d_Top_classes_36 : decode b_Top_classes 36 = .ok (.invokevirtual 148, 3) := by decide +kernel
theorem d_Top_classes_39 : decode b_Top_classes 39 = .ok (.ifCond .ne 11, 3) := by decide +kernel
theorem d_Top_classes_42 : decode b_Top_classes 42 = .ok (.aload_n 0, 1) := by decide +kernel
theorem d_Top_classes_43 : decode b_Top_classes 43 = .ok (.iload_n 2, 1) := by decide +kernel
theorem d_Top_classes_44 : decode b_Top_classes 44 = .ok (.invokevirtual 149, 3) := by decide +kernel
theorem d_Top_classes_47 : decode b_Top_classes 47 = .ok (.iinc 1 1, 3) := by decide +kernel
theorem d_Top_classes_50 : decode b_Top_classes 50 = .ok (.iinc 2 1, 3) := by decide +kernel
theorem d_Top_classes_53 : decode b_Top_classes 53 = .ok (.goto (-33), 3) := by decide +kernel
theorem d_Top_classes_56 : decode b_Top_classes 56 = .ok (.iload_n 1, 1) := by decide +kernel
theorem d_Top_classes_57 : decode b_Top_classes 57 = .ok (.ireturn, 1) := by decide +kernel
theorem d_Top_kin_0 : decode b_Top_kin 0 = .ok (.aload_n 0, 1) := by decide +kernel
theorem d_Top_kin_1 : decode b_Top_kin 1 = .ok (.iload_n 1, 1) := by decide +kernel
theorem d_Top_kin_2 : decode b_Top_kin 2 = .ok (.invokevirtual 91, 3) := by decide +kernel
theorem d_Top_kin_5 : decode b_Top_kin 5 = .ok (.ifCond .ne 5, 3) := by decide +kernel
theorem d_Top_kin_8 : decode b_Top_kin 8 = .ok (.iconst (-1), 1) := by decide +kernel
theorem d_Top_kin_9 : decode b_Top_kin 9 = .ok (.ireturn, 1) := by decide +kernel
theorem d_Top_kin_10 : decode b_Top_kin 10 = .ok (.aload_n 0, 1) := by decide +kernel
theorem d_Top_kin_11 : decode b_Top_kin 11 = .ok (.getfield 50, 3) := by decide +kernel
theorem d_Top_kin_14 : decode b_Top_kin 14 = .ok (.invokevirtual 145, 3) := by decide +kernel
theorem d_Top_kin_17 : decode b_Top_kin 17 = .ok (.aload_n 0, 1) := by decide +kernel
theorem d_Top_kin_18 : decode b_Top_kin 18 = .ok (.iload_n 1, 1) := by decide +kernel
theorem d_Top_kin_19 : decode b_Top_kin 19 = .ok (.invokevirtual 149, 3) := by decide +kernel
theorem d_Top_kin_22 : decode b_Top_kin 22 = .ok (.aload_n 0, 1) := by decide +kernel
theorem d_Top_kin_23 : decode b_Top_kin 23 = .ok (.getfield 50, 3) := by decide +kernel
theorem d_Top_kin_26 : decode b_Top_kin 26 = .ok (.invokevirtual 152, 3) := by decide +kernel
theorem d_Top_kin_29 : decode b_Top_kin 29 = .ok (.ireturn, 1) := by decide +kernel
theorem d_Top_head_0 : decode b_Top_head 0 = .ok (.aload_n 0, 1) := by decide +kernel
theorem d_Top_head_1 : decode b_Top_head 1 = .ok (.iload_n 1, 1) := by decide +kernel
theorem d_Top_head_2 : decode b_Top_head 2 = .ok (.invokevirtual 91, 3) := by decide +kernel
theorem d_Top_head_5 : decode b_Top_head 5 = .ok (.ifCond .ne 5, 3) := by decide +kernel
theorem d_Top_head_8 : decode b_Top_head 8 = .ok (.iconst (-1), 1) := by decide +kernel
theorem d_Top_head_9 : decode b_Top_head 9 = .ok (.ireturn, 1) := by decide +kernel
theorem d_Top_head_10 : decode b_Top_head 10 = .ok (.aload_n 0, 1) := by decide +kernel
theorem d_Top_head_11 : decode b_Top_head 11 = .ok (.getfield 50, 3) := by decide +kernel
theorem d_Top_head_14 : decode b_Top_head 14 = .ok (.invokevirtual 145, 3) := by decide +kernel
theorem d_Top_head_17 : decode b_Top_head 17 = .ok (.aload_n 0, 1) := by decide +kernel
theorem d_Top_head_18 : decode b_Top_head 18 = .ok (.iload_n 1, 1) := by decide +kernel
theorem d_Top_head_19 : decode b_Top_head 19 = .ok (.invokevirtual 149, 3) := by decide +kernel
theorem d_Top_head_22 : decode b_Top_head 22 = .ok (.aload_n 0, 1) := by decide +kernel
theorem d_Top_head_23 : decode b_Top_head 23 = .ok (.getfield 50, 3) := by decide +kernel
theorem d_Top_head_26 : decode b_Top_head 26 = .ok (.invokevirtual 153, 3) := by decide +kernel
theorem d_Top_head_29 : decode b_Top_head 29 = .ok (.ireturn, 1) := by decide +kernel
theorem d_Top_isElement_0 : decode b_Top_isElement 0 = .ok (.aload_n 0, 1) := by decide +kernel
theorem d_Top_isElement_1 : decode b_Top_isElement 1 = .ok (.getfield 54, 3) := by decide +kernel
theorem d_Top_isElement_4 : decode b_Top_isElement 4 = .ok (.ifCond .eq 22, 3) := by decide +kernel
theorem d_Top_isElement_7 : decode b_Top_isElement 7 = .ok (.iload_n 1, 1) := by decide +kernel
theorem d_Top_isElement_8 : decode b_Top_isElement 8 = .ok (.ifCond .lt 18, 3) := by decide +kernel
theorem d_Top_isElement_11 : decode b_Top_isElement 11 = .ok (.iload_n 1, 1) := by decide +kernel
theorem d_Top_isElement_12 : decode b_Top_isElement 12 = .ok (.aload_n 0, 1) := by decide +kernel
theorem d_Top_isElement_13 : decode b_Top_isElement 13 = .ok (.getfield 18, 3) := by decide +kernel
theorem d_Top_isElement_16 : decode b_Top_isElement 16 = .ok (.invokevirtual 43, 3) := by decide +kernel
theorem d_Top_isElement_19 : decode b_Top_isElement 19 = .ok (.if_icmp .ge 7, 3) := by decide +kernel
theorem d_Top_isElement_22 : decode b_Top_isElement 22 = .ok (.iconst 1, 1) := by decide +kernel
theorem d_Top_isElement_23 : decode b_Top_isElement 23 = .ok (.goto 4, 3) := by decide +kernel
theorem d_Top_isElement_26 : decode b_Top_isElement 26 = .ok (.iconst 0, 1) := by decide +kernel
theorem d_Top_isElement_27 : decode b_Top_isElement 27 = .ok (.ireturn, 1) := by decide +kernel
theorem d_Top_isPlace_0 : decode b_Top_isPlace 0 = .ok (.aload_n 0, 1) := by decide +kernel
theorem d_Top_isPlace_1 : decode b_Top_isPlace 1 = .ok (.getfield 54, 3) := by decide +kernel
theorem d_Top_isPlace_4 : decode b_Top_isPlace 4 = .ok (.ifCond .eq 16, 3) := by decide +kernel
theorem d_Top_isPlace_7 : decode b_Top_isPlace 7 = .ok (.iload_n 1, 1) := by decide +kernel
theorem d_Top_isPlace_8 : decode b_Top_isPlace 8 = .ok (.ifCond .lt 12, 3) := by decide +kernel
theorem d_Top_isPlace_11 : decode b_Top_isPlace 11 = .ok (.iload_n 1, 1) := by decide +kernel
theorem d_Top_isPlace_12 : decode b_Top_isPlace 12 = .ok (.iconst 4, 1) := by decide +kernel
theorem d_Top_isPlace_13 : decode b_Top_isPlace 13 = .ok (.if_icmp .ge 7, 3) := by decide +kernel
theorem d_Top_isPlace_16 : decode b_Top_isPlace 16 = .ok (.iconst 1, 1) := by decide +kernel
theorem d_Top_isPlace_17 : decode b_Top_isPlace 17 = .ok (.goto 4, 3) := by decide +kernel
theorem d_Top_isPlace_20 : decode b_Top_isPlace 20 = .ok (.iconst 0, 1) := by decide +kernel
theorem d_Top_isPlace_21 : decode b_Top_isPlace 21 = .ok (.ireturn, 1) := by decide +kernel
theorem d_Top_fillWhole_0 : decode b_Top_fillWhole 0 = .ok (.aload_n 0, 1) := by decide +kernel
theorem d_Top_fillWhole_1 : decode b_Top_fillWhole 1 = .ok (.getfield 31, 3) := by decide +kernel
theorem d_Top_fillWhole_4 : decode b_Top_fillWhole 4 = .ok (.invokevirtual 85, 3) := by decide +kernel
theorem d_Top_fillWhole_7 : decode b_Top_fillWhole 7 = .ok (.iconst 0, 1) := by decide +kernel
theorem d_Top_fillWhole_8 : decode b_Top_fillWhole 8 = .ok (.istore_n 1, 1) := by decide +kernel
theorem d_Top_fillWhole_9 : decode b_Top_fillWhole 9 = .ok (.iload_n 1, 1) := by decide +kernel
theorem d_Top_fillWhole_10 : decode b_Top_fillWhole 10 = .ok (.aload_n 0, 1) := by decide +kernel
theorem d_Top_fillWhole_11 : decode b_Top_fillWhole 11 = .ok (.getfield 18, 3) := by decide +kernel
theorem d_Top_fillWhole_14 : decode b_Top_fillWhole 14 = .ok (.invokevirtual 58, 3) := by decide +kernel
theorem d_Top_fillWhole_17 : decode b_Top_fillWhole 17 = .ok (.if_icmp .ge 24, 3) := by decide +kernel
theorem d_Top_fillWhole_20 : decode b_Top_fillWhole 20 = .ok (.aload_n 0, 1) := by decide +kernel
theorem d_Top_fillWhole_21 : decode b_Top_fillWhole 21 = .ok (.getfield 31, 3) := by decide +kernel
theorem d_Top_fillWhole_24 : decode b_Top_fillWhole 24 = .ok (.aload_n 0, 1) := by decide +kernel
theorem d_Top_fillWhole_25 : decode b_Top_fillWhole 25 = .ok (.getfield 18, 3) := by decide +kernel
theorem d_Top_fillWhole_28 : decode b_Top_fillWhole 28 = .ok (.iload_n 1, 1) := by decide +kernel
theorem d_Top_fillWhole_29 : decode b_Top_fillWhole 29 = .ok (.invokevirtual 65, 3) := by decide +kernel
theorem d_Top_fillWhole_32 : decode b_Top_fillWhole 32 = .ok (.invokevirtual 121, 3) := by decide +kernel
theorem d_Top_fillWhole_35 : decode b_Top_fillWhole 35 = .ok (.iinc 1 1, 3) := by decide +kernel
theorem d_Top_fillWhole_38 : decode b_Top_fillWhole 38 = .ok (.goto (-29), 3) := by decide +kernel
theorem d_Top_fillWhole_41 : decode b_Top_fillWhole 41 = .ok (.return_, 1) := by decide +kernel
theorem d_Top_seriesAmount_0 : decode b_Top_seriesAmount 0 = .ok (.aload_n 0, 1) := by decide +kernel
theorem d_Top_seriesAmount_1 : decode b_Top_seriesAmount 1 = .ok (.getfield 54, 3) := by decide +kernel
theorem d_Top_seriesAmount_4 : decode b_Top_seriesAmount 4 = .ok (.ifCond .eq 7, 3) := by decide +kernel
theorem d_Top_seriesAmount_7 : decode b_Top_seriesAmount 7 = .ok (.iload_n 1, 1) := by decide +kernel
theorem d_Top_seriesAmount_8 : decode b_Top_seriesAmount 8 = .ok (.ifCond .ge 5, 3) := by decide +kernel
theorem d_Top_seriesAmount_11 : decode b_Top_seriesAmount 11 = .ok (.iconst (-1), 1) := by decide +kernel
theorem d_Top_seriesAmount_12 : decode b_Top_seriesAmount 12 = .ok (.ireturn, 1) := by decide +kernel
theorem d_Top_seriesAmount_13 : decode b_Top_seriesAmount 13 = .ok (.aload_n 0, 1) := by decide +kernel
theorem d_Top_seriesAmount_14 : decode b_Top_seriesAmount 14 = .ok (.getfield 35, 3) := by decide +kernel
theorem d_Top_seriesAmount_17 : decode b_Top_seriesAmount 17 = .ok (.aload_n 0, 1) := by decide +kernel
theorem d_Top_seriesAmount_18 : decode b_Top_seriesAmount 18 = .ok (.getfield 31, 3) := by decide +kernel
theorem d_Top_seriesAmount_21 : decode b_Top_seriesAmount 21 = .ok (.invokevirtual 132, 3) := by decide +kernel
theorem d_Top_seriesAmount_24 : decode b_Top_seriesAmount 24 = .ok (.iconst 0, 1) := by decide +kernel
theorem d_Top_seriesAmount_25 : decode b_Top_seriesAmount 25 = .ok (.istore_n 3, 1) := by decide +kernel
theorem d_Top_seriesAmount_26 : decode b_Top_seriesAmount 26 = .ok (.iload_n 3, 1) := by decide +kernel
theorem d_Top_seriesAmount_27 : decode b_Top_seriesAmount 27 = .ok (.iload_n 1, 1) := by decide +kernel
theorem d_Top_seriesAmount_28 : decode b_Top_seriesAmount 28 = .ok (.if_icmp .ge 38, 3) := by decide +kernel
theorem d_Top_seriesAmount_31 : decode b_Top_seriesAmount 31 = .ok (.iload_n 3, 1) := by decide +kernel
theorem d_Top_seriesAmount_32 : decode b_Top_seriesAmount 32 = .ok (.bipush 7, 2) := by decide +kernel
theorem d_Top_seriesAmount_34 : decode b_Top_seriesAmount 34 = .ok (.if_icmp .ge 32, 3) := by decide +kernel
theorem d_Top_seriesAmount_37 : decode b_Top_seriesAmount 37 = .ok (.aload_n 0, 1) := by decide +kernel
theorem d_Top_seriesAmount_38 : decode b_Top_seriesAmount 38 = .ok (.getfield 38, 3) := by decide +kernel
theorem d_Top_seriesAmount_41 : decode b_Top_seriesAmount 41 = .ok (.aload_n 0, 1) := by decide +kernel
theorem d_Top_seriesAmount_42 : decode b_Top_seriesAmount 42 = .ok (.getfield 35, 3) := by decide +kernel
theorem d_Top_seriesAmount_45 : decode b_Top_seriesAmount 45 = .ok (.aload_n 2, 1) := by decide +kernel
theorem d_Top_seriesAmount_46 : decode b_Top_seriesAmount 46 = .ok (.invokevirtual 128, 3) := by decide +kernel
theorem d_Top_seriesAmount_49 : decode b_Top_seriesAmount 49 = .ok (.aload_n 0, 1) := by decide +kernel
theorem d_Top_seriesAmount_50 : decode b_Top_seriesAmount 50 = .ok (.getfield 35, 3) := by decide +kernel
theorem d_Top_seriesAmount_53 : decode b_Top_seriesAmount 53 = .ok (.aload_n 0, 1) := by decide +kernel
theorem d_Top_seriesAmount_54 : decode b_Top_seriesAmount 54 = .ok (.getfield 38, 3) := by decide +kernel
theorem d_Top_seriesAmount_57 : decode b_Top_seriesAmount 57 = .ok (.invokevirtual 132, 3) := by decide +kernel
theorem d_Top_seriesAmount_60 : decode b_Top_seriesAmount 60 = .ok (.iinc 3 1, 3) := by decide +kernel
theorem d_Top_seriesAmount_63 : decode b_Top_seriesAmount 63 = .ok (.goto (-37), 3) := by decide +kernel
theorem d_Top_seriesAmount_66 : decode b_Top_seriesAmount 66 = .ok (.aload_n 0, 1) := by decide +kernel
theorem d_Top_seriesAmount_67 : decode b_Top_seriesAmount 67 = .ok (.getfield 35, 3) := by decide +kernel
theorem d_Top_seriesAmount_70 : decode b_Top_seriesAmount 70 = .ok (.invokevirtual 118, 3) := by decide +kernel
theorem d_Top_seriesAmount_73 : decode b_Top_seriesAmount 73 = .ok (.ireturn, 1) := by decide +kernel
theorem d_Top_addClass_0 : decode b_Top_addClass 0 = .ok (.aload_n 0, 1) := by decide +kernel
theorem d_Top_addClass_1 : decode b_Top_addClass 1 = .ok (.getfield 50, 3) := by decide +kernel
theorem d_Top_addClass_4 : decode b_Top_addClass 4 = .ok (.invokevirtual 152, 3) := by decide +kernel
theorem d_Top_addClass_7 : decode b_Top_addClass 7 = .ok (.istore_n 2, 1) := by decide +kernel
theorem d_Top_addClass_8 : decode b_Top_addClass 8 = .ok (.aload_n 0, 1) := by decide +kernel
theorem d_Top_addClass_9 : decode b_Top_addClass 9 = .ok (.getfield 50, 3) := by decide +kernel
theorem d_Top_addClass_12 : decode b_Top_addClass 12 = .ok (.iload_n 1, 1) := by decide +kernel
theorem d_Top_addClass_13 : decode b_Top_addClass 13 = .ok (.invokevirtual 156, 3) := by decide +kernel
theorem d_Top_addClass_16 : decode b_Top_addClass 16 = .ok (.iload_n 2, 1) := by decide +kernel
theorem d_Top_addClass_17 : decode b_Top_addClass 17 = .ok (.istore_n 3, 1) := by decide +kernel
theorem d_Top_addClass_18 : decode b_Top_addClass 18 = .ok (.iload_n 3, 1) := by decide +kernel
theorem d_Top_addClass_19 : decode b_Top_addClass 19 = .ok (.aload_n 0, 1) := by decide +kernel
theorem d_Top_addClass_20 : decode b_Top_addClass 20 = .ok (.getfield 18, 3) := by decide +kernel
theorem d_Top_addClass_23 : decode b_Top_addClass 23 = .ok (.invokevirtual 43, 3) := by decide +kernel
theorem d_Top_addClass_26 : decode b_Top_addClass 26 = .ok (.if_icmp .ge 72, 3) := by decide +kernel
theorem d_Top_addClass_29 : decode b_Top_addClass 29 = .ok (.iload_n 3, 1) := by decide +kernel
theorem d_Top_addClass_30 : decode b_Top_addClass 30 = .ok (.aload_n 0, 1) := by decide +kernel
theorem d_Top_addClass_31 : decode b_Top_addClass 31 = .ok (.getfield 50, 3) := by decide +kernel
theorem d_Top_addClass_34 : decode b_Top_addClass 34 = .ok (.invokevirtual 152, 3) := by decide +kernel
theorem d_Top_addClass_37 : decode b_Top_addClass 37 = .ok (.if_icmp .ge 61, 3) := by decide +kernel
theorem d_Top_addClass_40 : decode b_Top_addClass 40 = .ok (.iconst 0, 1) := by decide +kernel
theorem d_Top_addClass_41 : decode b_Top_addClass 41 = .ok (.istore 4, 2) := by decide +kernel
theorem d_Top_addClass_43 : decode b_Top_addClass 43 = .ok (.iload 4, 2) := by decide +kernel
theorem d_Top_addClass_45 : decode b_Top_addClass 45 = .ok (.aload_n 0, 1) := by decide +kernel
theorem d_Top_addClass_46 : decode b_Top_addClass 46 = .ok (.getfield 18, 3) := by decide +kernel
theorem d_Top_addClass_49 : decode b_Top_addClass 49 = .ok (.invokevirtual 58, 3) := by decide +kernel
theorem d_Top_addClass_52 : decode b_Top_addClass 52 = .ok (.if_icmp .ge 40, 3) := by decide +kernel
theorem d_Top_addClass_55 : decode b_Top_addClass 55 = .ok (.aload_n 0, 1) := by decide +kernel
theorem d_Top_addClass_56 : decode b_Top_addClass 56 = .ok (.getfield 50, 3) := by decide +kernel
theorem d_Top_addClass_59 : decode b_Top_addClass 59 = .ok (.aload_n 0, 1) := by decide +kernel
theorem d_Top_addClass_60 : decode b_Top_addClass 60 = .ok (.getfield 18, 3) := by decide +kernel
theorem d_Top_addClass_63 : decode b_Top_addClass 63 = .ok (.aload_n 0, 1) := by decide +kernel
theorem d_Top_addClass_64 : decode b_Top_addClass 64 = .ok (.getfield 50, 3) := by decide +kernel
theorem d_Top_addClass_67 : decode b_Top_addClass 67 = .ok (.iload_n 3, 1) := by decide +kernel
theorem d_Top_addClass_68 : decode b_Top_addClass 68 = .ok (.invokevirtual 159, 3) := by decide +kernel
theorem d_Top_addClass_71 : decode b_Top_addClass 71 = .ok (.aload_n 0, 1) := by decide +kernel
theorem d_Top_addClass_72 : decode b_Top_addClass 72 = .ok (.getfield 18, 3) := by decide +kernel
theorem d_Top_addClass_75 : decode b_Top_addClass 75 = .ok (.iload 4, 2) := by decide +kernel
theorem d_Top_addClass_77 : decode b_Top_addClass 77 = .ok (.invokevirtual 65, 3) := by decide +kernel
theorem d_Top_addClass_80 : decode b_Top_addClass 80 = .ok (.invokevirtual 109, 3) := by decide +kernel
theorem d_Top_addClass_83 : decode b_Top_addClass 83 = .ok (.invokevirtual 156, 3) := by decide +kernel
theorem d_Top_addClass_86 : decode b_Top_addClass 86 = .ok (.iinc 4 1, 3) := by decide +kernel
theorem d_Top_addClass_89 : decode b_Top_addClass 89 = .ok (.goto (-46), 3) := by decide +kernel
theorem d_Top_addClass_92 : decode b_Top_addClass 92 = .ok (.iinc 3 1, 3) := by decide +kernel
theorem d_Top_addClass_95 : decode b_Top_addClass 95 = .ok (.goto (-77), 3) := by decide +kernel
theorem d_Top_addClass_98 : decode b_Top_addClass 98 = .ok (.return_, 1) := by decide +kernel
theorem d_Top_primeDigits_0 : decode b_Top_primeDigits 0 = .ok (.bipush 7, 2) := by decide +kernel
theorem d_Top_primeDigits_2 : decode b_Top_primeDigits 2 = .ok (.newarray .int, 2) := by decide +kernel
theorem d_Top_primeDigits_4 : decode b_Top_primeDigits 4 = .ok (.astore_n 1, 1) := by decide +kernel
theorem d_Top_primeDigits_5 : decode b_Top_primeDigits 5 = .ok (.iconst 0, 1) := by decide +kernel
theorem d_Top_primeDigits_6 : decode b_Top_primeDigits 6 = .ok (.istore_n 2, 1) := by decide +kernel
theorem d_Top_primeDigits_7 : decode b_Top_primeDigits 7 = .ok (.iconst 1, 1) := by decide +kernel
theorem d_Top_primeDigits_8 : decode b_Top_primeDigits 8 = .ok (.istore_n 3, 1) := by decide +kernel
theorem d_Top_primeDigits_9 : decode b_Top_primeDigits 9 = .ok (.iconst 0, 1) := by decide +kernel
theorem d_Top_primeDigits_10 : decode b_Top_primeDigits 10 = .ok (.istore 4, 2) := by decide +kernel
theorem d_Top_primeDigits_12 : decode b_Top_primeDigits 12 = .ok (.iload 4, 2) := by decide +kernel
theorem d_Top_primeDigits_14 : decode b_Top_primeDigits 14 = .ok (.bipush 7, 2) := by decide +kernel
theorem d_Top_primeDigits_16 : decode b_Top_primeDigits 16 = .ok (.if_icmp .ge 55, 3) := by decide +kernel
theorem d_Top_primeDigits_19 : decode b_Top_primeDigits 19 = .ok (.iload_n 0, 1) := by decide +kernel
theorem d_Top_primeDigits_20 : decode b_Top_primeDigits 20 = .ok (.iconst 4, 1) := by decide +kernel
theorem d_Top_primeDigits_21 : decode b_Top_primeDigits 21 = .ok (.iload 4, 2) := by decide +kernel
theorem d_Top_primeDigits_23 : decode b_Top_primeDigits 23 = .ok (.imul, 1) := by decide +kernel
theorem d_Top_primeDigits_24 : decode b_Top_primeDigits 24 = .ok (.iushr, 1) := by decide +kernel
theorem d_Top_primeDigits_25 : decode b_Top_primeDigits 25 = .ok (.bipush 15, 2) := by decide +kernel
theorem d_Top_primeDigits_27 : decode b_Top_primeDigits 27 = .ok (.iand, 1) := by decide +kernel
theorem d_Top_primeDigits_28 : decode b_Top_primeDigits 28 = .ok (.istore 5, 2) := by decide +kernel
theorem d_Top_primeDigits_30 : decode b_Top_primeDigits 30 = .ok (.iload 5, 2) := by decide +kernel
theorem d_Top_primeDigits_32 : decode b_Top_primeDigits 32 = .ok (.invokestatic 162, 3) := by decide +kernel
theorem d_Top_primeDigits_35 : decode b_Top_primeDigits 35 = .ok (.ifCond .eq 36, 3) := by decide +kernel
theorem d_Top_primeDigits_38 : decode b_Top_primeDigits 38 = .ok (.iload_n 3, 1) := by decide +kernel
theorem d_Top_primeDigits_39 : decode b_Top_primeDigits 39 = .ok (.iload 5, 2) := by decide +kernel
theorem d_Top_primeDigits_41 : decode b_Top_primeDigits 41 = .ok (.imul, 1) := by decide +kernel
theorem d_Top_primeDigits_42 : decode b_Top_primeDigits 42 = .ok (.sipush 128, 3) := by decide +kernel
theorem d_Top_primeDigits_45 : decode b_Top_primeDigits 45 = .ok (.if_icmp .le 6, 3) := by decide +kernel
theorem d_Top_primeDigits_48 : decode b_Top_primeDigits 48 = .ok (.goto 23, 3) := by decide +kernel
theorem d_Top_primeDigits_51 : decode b_Top_primeDigits 51 = .ok (.aload_n 1, 1) := by decide +kernel
theorem d_Top_primeDigits_52 : decode b_Top_primeDigits 52 = .ok (.iload 4, 2) := by decide +kernel
theorem d_Top_primeDigits_54 : decode b_Top_primeDigits 54 = .ok (.iload 5, 2) := by decide +kernel
theorem d_Top_primeDigits_56 : decode b_Top_primeDigits 56 = .ok (.iastore, 1) := by decide +kernel
theorem d_Top_primeDigits_57 : decode b_Top_primeDigits 57 = .ok (.iload_n 3, 1) := by decide +kernel
theorem d_Top_primeDigits_58 : decode b_Top_primeDigits 58 = .ok (.iload 5, 2) := by decide +kernel
theorem d_Top_primeDigits_60 : decode b_Top_primeDigits 60 = .ok (.imul, 1) := by decide +kernel
theorem d_Top_primeDigits_61 : decode b_Top_primeDigits 61 = .ok (.istore_n 3, 1) := by decide +kernel
theorem d_Top_primeDigits_62 : decode b_Top_primeDigits 62 = .ok (.iinc 2 1, 3) := by decide +kernel
theorem d_Top_primeDigits_65 : decode b_Top_primeDigits 65 = .ok (.iinc 4 1, 3) := by decide +kernel
theorem d_Top_primeDigits_68 : decode b_Top_primeDigits 68 = .ok (.goto (-56), 3) := by decide +kernel
theorem d_Top_primeDigits_71 : decode b_Top_primeDigits 71 = .ok (.aload_n 1, 1) := by decide +kernel
theorem d_Top_primeDigits_72 : decode b_Top_primeDigits 72 = .ok (.iload_n 2, 1) := by decide +kernel
theorem d_Top_primeDigits_73 : decode b_Top_primeDigits 73 = .ok (.invokestatic 165, 3) := by decide +kernel
theorem d_Top_primeDigits_76 : decode b_Top_primeDigits 76 = .ok (.areturn, 1) := by decide +kernel
theorem d_Top_isPrimeDigit_0 : decode b_Top_isPrimeDigit 0 = .ok (.iload_n 0, 1) := by decide +kernel
theorem d_Top_isPrimeDigit_1 : decode b_Top_isPrimeDigit 1 = .ok (.iconst 2, 1) := by decide +kernel
theorem d_Top_isPrimeDigit_2 : decode b_Top_isPrimeDigit 2 = .ok (.if_icmp .eq 31, 3) := by decide +kernel
theorem d_Top_isPrimeDigit_5 : decode b_Top_isPrimeDigit 5 = .ok (.iload_n 0, 1) := by decide +kernel
theorem d_Top_isPrimeDigit_6 : decode b_Top_isPrimeDigit 6 = .ok (.iconst 3, 1) := by decide +kernel
theorem d_Top_isPrimeDigit_7 : decode b_Top_isPrimeDigit 7 = .ok (.if_icmp .eq 26, 3) := by decide +kernel
theorem d_Top_isPrimeDigit_10 : decode b_Top_isPrimeDigit 10 = .ok (.iload_n 0, 1) := by decide +kernel
theorem d_Top_isPrimeDigit_11 : decode b_Top_isPrimeDigit 11 = .ok (.iconst 5, 1) := by decide +kernel
theorem d_Top_isPrimeDigit_12 : decode b_Top_isPrimeDigit 12 = .ok (.if_icmp .eq 21, 3) := by decide +kernel
theorem d_Top_isPrimeDigit_15 : decode b_Top_isPrimeDigit 15 = .ok (.iload_n 0, 1) := by decide +kernel
theorem d_Top_isPrimeDigit_16 : decode b_Top_isPrimeDigit 16 = .ok (.bipush 7, 2) := by decide +kernel
theorem d_Top_isPrimeDigit_18 : decode b_Top_isPrimeDigit 18 = .ok (.if_icmp .eq 15, 3) := by decide +kernel
theorem d_Top_isPrimeDigit_21 : decode b_Top_isPrimeDigit 21 = .ok (.iload_n 0, 1) := by decide +kernel
theorem d_Top_isPrimeDigit_22 : decode b_Top_isPrimeDigit 22 = .ok (.bipush 11, 2) := by decide +kernel
theorem d_Top_isPrimeDigit_24 : decode b_Top_isPrimeDigit 24 = .ok (.if_icmp .eq 9, 3) := by decide +kernel
theorem d_Top_isPrimeDigit_27 : decode b_Top_isPrimeDigit 27 = .ok (.iload_n 0, 1) := by decide +kernel
theorem d_Top_isPrimeDigit_28 : decode b_Top_isPrimeDigit 28 = .ok (.bipush 13, 2) := by decide +kernel
theorem d_Top_isPrimeDigit_30 : decode b_Top_isPrimeDigit 30 = .ok (.if_icmp .ne 7, 3) := by decide +kernel
theorem d_Top_isPrimeDigit_33 : decode b_Top_isPrimeDigit 33 = .ok (.iconst 1, 1) := by decide +kernel
theorem d_Top_isPrimeDigit_34 : decode b_Top_isPrimeDigit 34 = .ok (.goto 4, 3) := by decide +kernel
theorem d_Top_isPrimeDigit_37 : decode b_Top_isPrimeDigit 37 = .ok (.iconst 0, 1) := by decide +kernel
theorem d_Top_isPrimeDigit_38 : decode b_Top_isPrimeDigit 38 = .ok (.ireturn, 1) := by decide +kernel
end
section
/-! The class: flags and elements. By program (wip/whole/gen/top.py). -/
set_option maxHeartbeats 4000000 in
set_option maxRecDepth 20000 in
theorem cm_Top_generators (l : Launch) (z : zz_Z) (σ : hw_M) (hz : ∀ k, zz_k (zz_n z) k → zz_O z k) (S : Nat → Nat → Prop) (hC : cs_ok z σ S) : Met l y_Top_generators (hw_c y_Top_generators b_Top_generators 1 (some .int)) (hw_r 1) (va_Pc [.ref (zz_A z (0, 0))] (zz_B z σ)) (va_Qi (fun r σ' => σ' = σ ∧ r = nI (zz_n z)) (zz_B z) (zz_F z)) 0 0 (zz_F z) := by
  refine hw_meti (post := (fun r σ' => σ' = σ ∧ r = nI (zz_n z))) (by decide) (Nat.le_of_ble_eq_true rfl) ?_
  intro p e s m args below meth c ls Q X hret V hl
  have hl : lv_has ls 1 [(0, .ref (zz_A z (0, 0)))] := hl
  have hB := V.1.2.2
  obtain ⟨hS, hR, hf2, hes, hfx⟩ := id hC
  obtain ⟨hn7, hN, hn, hNe, hw, hsz, hln⟩ := id hS
  refine nw_aload_n X d_Top_generators_0 rfl (lv_at hl 0 rfl) ?_
  refine gf_Top_18 X V (hz (0, 0) rfl) d_Top_generators_1 ?_
  refine hw_calli X V (hz (1, 0) rfl) rfl rfl (cm_Col_letterCount l z σ hz hS) cs_Top_58 (by decide) rfl hl.1 rfl (Nat.le_of_ble_eq_true rfl) (by decide) d_Top_generators_4 (fun r σ' H locs V hr => ?_)
  obtain ⟨hσ, rfl⟩ := hr
  rw [hσ] at V
  clear hσ
  have hB := V.1.2.2
  exact hret _ _ _ _ _ _ d_Top_generators_7 V ⟨rfl, rfl⟩
set_option maxHeartbeats 4000000 in
set_option maxRecDepth 20000 in
theorem cm_Top_size (l : Launch) (z : zz_Z) (σ : hw_M) (hz : ∀ k, zz_k (zz_n z) k → zz_O z k) (S : Nat → Nat → Prop) (hC : cs_ok z σ S) : Met l y_Top_size (hw_c y_Top_size b_Top_size 1 (some .int)) (hw_r 1) (va_Pc [.ref (zz_A z (0, 0))] (zz_B z σ)) (va_Qi (fun r σ' => σ' = σ ∧ r = nI (zz_N z)) (zz_B z) (zz_F z)) 0 0 (zz_F z) := by
  refine hw_meti (post := (fun r σ' => σ' = σ ∧ r = nI (zz_N z))) (by decide) (Nat.le_of_ble_eq_true rfl) ?_
  intro p e s m args below meth c ls Q X hret V hl
  have hl : lv_has ls 1 [(0, .ref (zz_A z (0, 0)))] := hl
  have hB := V.1.2.2
  obtain ⟨hS, hR, hf2, hes, hfx⟩ := id hC
  obtain ⟨hn7, hN, hn, hNe, hw, hsz, hln⟩ := id hS
  refine nw_aload_n X d_Top_size_0 rfl (lv_at hl 0 rfl) ?_
  refine gf_Top_18 X V (hz (0, 0) rfl) d_Top_size_1 ?_
  refine hw_calli X V (hz (1, 0) rfl) rfl rfl (cm_Col_elementCount l z σ (hz (1, 0) rfl)) cs_Top_43 (by decide) rfl hl.1 rfl (Nat.le_of_ble_eq_true rfl) (by decide) d_Top_size_4 (fun r σ' H locs V hr => ?_)
  obtain ⟨hσ, rfl⟩ := hr
  rw [hσ] at V
  clear hσ
  have hB := V.1.2.2
  exact hret _ _ _ _ _ _ d_Top_size_7 V ⟨rfl, by rw [hNe]⟩
set_option maxHeartbeats 4000000 in
set_option maxRecDepth 20000 in
theorem cm_Top_generator (l : Launch) (z : zz_Z) (σ : hw_M) (hz : ∀ k, zz_k (zz_n z) k → zz_O z k) (S : Nat → Nat → Prop) (hC : cs_ok z σ S) (x : Int32) : Met l y_Top_generator (hw_c y_Top_generator b_Top_generator 2 (some .int)) (hw_r 1) (va_Pc [.ref (zz_A z (0, 0)), .int x] (zz_B z σ)) (va_Qi (fun r σ' => σ' = σ ∧ an_o (el_i (zz_n z) x) (σ (3, 0) (el_v x)) r) (zz_B z) (zz_F z)) 0 0 (zz_F z) := by
  refine hw_meti (post := (fun r σ' => σ' = σ ∧ an_o (el_i (zz_n z) x) (σ (3, 0) (el_v x)) r)) (by decide) (Nat.le_of_ble_eq_true rfl) ?_
  intro p e s m args below meth c ls Q X hret V hl
  have hl : lv_has ls 2 [(0, .ref (zz_A z (0, 0))), (1, .int x)] := hl
  have hB := V.1.2.2
  obtain ⟨hS, hR, hf2, hes, hfx⟩ := id hC
  obtain ⟨hn7, hN, hn, hNe, hw, hsz, hln⟩ := id hS
  refine nw_aload_n X d_Top_generator_0 rfl (lv_at hl 0 rfl) ?_
  refine gf_Top_18 X V (hz (0, 0) rfl) d_Top_generator_1 ?_
  refine nw_iload_n X d_Top_generator_4 rfl (lv_at hl 1 rfl) ?_
  refine hw_calli X V (hz (1, 0) rfl) rfl rfl (cm_Col_isLetter l z σ hz hS x) cs_Top_61 (by decide) rfl hl.1 rfl (Nat.le_of_ble_eq_true rfl) (by decide) d_Top_generator_5 (fun r σ' H locs V hr => ?_)
  obtain ⟨b, hb, rfl, hσ, hbp⟩ := hr
  rw [hσ] at V
  clear hσ
  have hB := V.1.2.2
  refine nw_if_eq X (tgt := 22) d_Top_generator_8 (by decide) (by omega) (fun hc => ?_) (fun hc => ?_)
  · skip
    refine nw_iconstv X (-1) d_Top_generator_22 (by decide) ?_
    exact hret _ _ _ _ _ _ d_Top_generator_23 V ⟨rfl, fun h => absurd (hbp.mpr h) (by omega), fun _ => rfl⟩
  · skip
    obtain ⟨j, hj, rfl⟩ := hbp.mp (by omega)
    refine nw_aload_n X d_Top_generator_11 rfl (lv_at hl 0 rfl) ?_
    refine gf_Top_18 X V (hz (0, 0) rfl) d_Top_generator_12 ?_
    refine nw_iload_n X d_Top_generator_15 rfl (lv_at hl 1 rfl) ?_
    refine hw_calli X V (hz (1, 0) rfl) rfl rfl (cm_Col_letter l z σ hz hS j hj) cs_Top_65 (by decide) rfl hl.1 rfl (Nat.le_of_ble_eq_true rfl) (by decide) d_Top_generator_16 (fun r σ' H locs V hr => ?_)
    obtain ⟨hσ, rfl⟩ := hr
    rw [hσ] at V
    clear hσ
    have hB := V.1.2.2
    refine nw_goto X (tgt := 23) d_Top_generator_19 (by decide) ?_
    exact hret _ _ _ _ _ _ d_Top_generator_23 V ⟨rfl, fun _ => by rw [show el_v (nI j) = j from el_nv (by omega) hj], fun h => absurd ⟨j, hj, rfl⟩ h⟩
set_option maxHeartbeats 4000000 in
set_option maxRecDepth 20000 in
theorem cm_Top_isElement (l : Launch) (z : zz_Z) (σ : hw_M) (hz : ∀ k, zz_k (zz_n z) k → zz_O z k) (S : Nat → Nat → Prop) (hC : cs_ok z σ S) (x : Int32) : Met l y_Top_isElement (hw_c y_Top_isElement b_Top_isElement 2 (some .boolean)) (hw_r 1) (va_Pc [.ref (zz_A z (0, 0)), .int x] (zz_B z σ)) (va_Qi (fun r σ' => ∃ b, b < 2 ∧ r = nI b ∧ (fun b σ' => σ' = σ ∧ (b = 1 ↔ σ (0, 0) 6 = 1 ∧ el_i (zz_N z) x)) b σ') (zz_B z) (zz_F z)) 0 0 (zz_F z) := by
  refine hw_metz (post := (fun b σ' => σ' = σ ∧ (b = 1 ↔ σ (0, 0) 6 = 1 ∧ el_i (zz_N z) x))) (by decide) (Nat.le_of_ble_eq_true rfl) ?_
  intro p e s m args below meth c ls Q X hret V hl
  have hl : lv_has ls 2 [(0, .ref (zz_A z (0, 0))), (1, .int x)] := hl
  have hB := V.1.2.2
  obtain ⟨hS, hR, hf2, hes, hfx⟩ := id hC
  obtain ⟨hn7, hN, hn, hNe, hw, hsz, hln⟩ := id hS
  refine nw_aload_n X d_Top_isElement_0 rfl (lv_at hl 0 rfl) ?_
  refine gf_Top_54 X V (hz (0, 0) rfl) d_Top_isElement_1 ?_
  refine nw_if_eq X (tgt := 26) d_Top_isElement_4 (by decide) (by omega) (fun hc => ?_) (fun hc => ?_)
  · skip
    have hno : ¬ (σ (0, 0) 6 = 1 ∧ el_i (zz_N z) x) := fun h => by omega
    refine nw_iconst X 0 d_Top_isElement_26 (by decide) ?_
    exact hret 0 _ _ _ _ _ d_Top_isElement_27 V (by decide) ⟨rfl, fun q => absurd q (by decide), fun q => absurd q hno⟩
  · skip
    have hf1 : σ (0, 0) 6 = 1 := by omega
    refine nw_iload_n X d_Top_isElement_7 rfl (lv_at hl 1 rfl) ?_
    refine lv_if_lt (tgt := 26) X.1.1 X.1.2.1 d_Top_isElement_8 (by decide) (fun hc => ?_) (fun hc => ?_)
    · skip
      have hno : ¬ (σ (0, 0) 6 = 1 ∧ el_i (zz_N z) x) := fun ⟨_, j, hj, e⟩ => by rw [e] at hc; exact nI_pos (by omega) hc
      refine nw_iconst X 0 d_Top_isElement_26 (by decide) ?_
      exact hret 0 _ _ _ _ _ d_Top_isElement_27 V (by decide) ⟨rfl, fun q => absurd q (by decide), fun q => absurd q hno⟩
    · skip
      have h0 := hc
      refine nw_iload_n X d_Top_isElement_11 rfl (lv_at hl 1 rfl) ?_
      refine nw_aload_n X d_Top_isElement_12 rfl (lv_at hl 0 rfl) ?_
      refine gf_Top_18 X V (hz (0, 0) rfl) d_Top_isElement_13 ?_
      refine hw_calli X V (hz (1, 0) rfl) rfl rfl (cm_Col_elementCount l z σ (hz (1, 0) rfl)) cs_Top_43 (by decide) rfl hl.1 rfl (Nat.le_of_ble_eq_true rfl) (by decide) d_Top_isElement_16 (fun r σ' H locs V hr => ?_)
      obtain ⟨hσ, rfl⟩ := hr
      rw [hσ] at V
      clear hσ
      have hB := V.1.2.2
      rw [hNe]
      refine lv_icmp_ge (tgt := 26) X.1.1 X.1.2.1 d_Top_isElement_19 (by decide) (fun hc => ?_) (fun hc => ?_)
      · skip
        have hno : ¬ (σ (0, 0) 6 = 1 ∧ el_i (zz_N z) x) := fun ⟨_, j, hj, e⟩ => by rw [e] at hc; exact nI_ge hj (by omega) hc
        refine nw_iconst X 0 d_Top_isElement_26 (by decide) ?_
        exact hret 0 _ _ _ _ _ d_Top_isElement_27 V (by decide) ⟨rfl, fun q => absurd q (by decide), fun q => absurd q hno⟩
      · skip
        have hyes : el_i (zz_N z) x := by
          rcases pk_ix x (n := zz_N z) (by omega) with h | h | h
          · exact absurd h h0
          · exact absurd h hc
          · exact h
        refine nw_iconst X 1 d_Top_isElement_22 (by decide) ?_
        refine nw_goto X (tgt := 27) d_Top_isElement_23 (by decide) ?_
        exact hret 1 _ _ _ _ _ d_Top_isElement_27 V (by decide) ⟨rfl, fun _ => ⟨hf1, hyes⟩, fun _ => rfl⟩
set_option maxHeartbeats 4000000 in
set_option maxRecDepth 20000 in
theorem cm_Top_isPlace (l : Launch) (z : zz_Z) (σ : hw_M) (hz : ∀ k, zz_k (zz_n z) k → zz_O z k) (S : Nat → Nat → Prop) (hC : cs_ok z σ S) (x : Int32) : Met l y_Top_isPlace (hw_c y_Top_isPlace b_Top_isPlace 2 (some .boolean)) (hw_r 1) (va_Pc [.ref (zz_A z (0, 0)), .int x] (zz_B z σ)) (va_Qi (fun r σ' => ∃ b, b < 2 ∧ r = nI b ∧ (fun b σ' => σ' = σ ∧ (b = 1 ↔ σ (0, 0) 6 = 1 ∧ el_i 4 x)) b σ') (zz_B z) (zz_F z)) 0 0 (zz_F z) := by
  refine hw_metz (post := (fun b σ' => σ' = σ ∧ (b = 1 ↔ σ (0, 0) 6 = 1 ∧ el_i 4 x))) (by decide) (Nat.le_of_ble_eq_true rfl) ?_
  intro p e s m args below meth c ls Q X hret V hl
  have hl : lv_has ls 2 [(0, .ref (zz_A z (0, 0))), (1, .int x)] := hl
  have hB := V.1.2.2
  obtain ⟨hS, hR, hf2, hes, hfx⟩ := id hC
  obtain ⟨hn7, hN, hn, hNe, hw, hsz, hln⟩ := id hS
  refine nw_aload_n X d_Top_isPlace_0 rfl (lv_at hl 0 rfl) ?_
  refine gf_Top_54 X V (hz (0, 0) rfl) d_Top_isPlace_1 ?_
  refine nw_if_eq X (tgt := 20) d_Top_isPlace_4 (by decide) (by omega) (fun hc => ?_) (fun hc => ?_)
  · skip
    have hno : ¬ (σ (0, 0) 6 = 1 ∧ el_i 4 x) := fun h => by omega
    refine nw_iconst X 0 d_Top_isPlace_20 (by decide) ?_
    exact hret 0 _ _ _ _ _ d_Top_isPlace_21 V (by decide) ⟨rfl, fun q => absurd q (by decide), fun q => absurd q hno⟩
  · skip
    have hf1 : σ (0, 0) 6 = 1 := by omega
    refine nw_iload_n X d_Top_isPlace_7 rfl (lv_at hl 1 rfl) ?_
    refine lv_if_lt (tgt := 20) X.1.1 X.1.2.1 d_Top_isPlace_8 (by decide) (fun hc => ?_) (fun hc => ?_)
    · skip
      have hno : ¬ (σ (0, 0) 6 = 1 ∧ el_i 4 x) := fun ⟨_, j, hj, e⟩ => by rw [e] at hc; exact nI_pos (by omega) hc
      refine nw_iconst X 0 d_Top_isPlace_20 (by decide) ?_
      exact hret 0 _ _ _ _ _ d_Top_isPlace_21 V (by decide) ⟨rfl, fun q => absurd q (by decide), fun q => absurd q hno⟩
    · skip
      have h0 := hc
      refine nw_iload_n X d_Top_isPlace_11 rfl (lv_at hl 1 rfl) ?_
      refine nw_iconst X 4 d_Top_isPlace_12 (by decide) ?_
      refine lv_icmp_ge (tgt := 20) X.1.1 X.1.2.1 d_Top_isPlace_13 (by decide) (fun hc => ?_) (fun hc => ?_)
      · skip
        have hno : ¬ (σ (0, 0) 6 = 1 ∧ el_i 4 x) := fun ⟨_, j, hj, e⟩ => by rw [e] at hc; exact nI_ge hj (by decide) hc
        refine nw_iconst X 0 d_Top_isPlace_20 (by decide) ?_
        exact hret 0 _ _ _ _ _ d_Top_isPlace_21 V (by decide) ⟨rfl, fun q => absurd q (by decide), fun q => absurd q hno⟩
      · skip
        have hyes : el_i 4 x := by
          rcases pk_ix x (n := 4) (by decide) with h | h | h
          · exact absurd h h0
          · exact absurd h hc
          · exact h
        refine nw_iconst X 1 d_Top_isPlace_16 (by decide) ?_
        refine nw_goto X (tgt := 21) d_Top_isPlace_17 (by decide) ?_
        exact hret 1 _ _ _ _ _ d_Top_isPlace_21 V (by decide) ⟨rfl, fun _ => ⟨hf1, hyes⟩, fun _ => rfl⟩
set_option maxHeartbeats 4000000 in
set_option maxRecDepth 20000 in
theorem cm_Top_release (l : Launch) (z : zz_Z) (σ : hw_M) (hz : ∀ k, zz_k (zz_n z) k → zz_O z k) (S : Nat → Nat → Prop) (hC : cs_ok z σ S) : Met l y_Top_release (hw_c y_Top_release b_Top_release 1 none) (hw_r 0) (va_Pc [.ref (zz_A z (0, 0))] (zz_B z σ)) (va_Qv (fun σ' => cs_ok z σ' S ∧ σ' = hw_up σ (0, 0) 6 0) (zz_B z) (zz_F z)) 0 0 (zz_F z) := by
  refine hw_metv (post := (fun σ' => cs_ok z σ' S ∧ σ' = hw_up σ (0, 0) 6 0)) (by decide) (Nat.le_of_ble_eq_true rfl) ?_
  intro p e s m args below meth c ls Q X hret V hl
  have hl : lv_has ls 1 [(0, .ref (zz_A z (0, 0)))] := hl
  have hB := V.1.2.2
  obtain ⟨hS, hR, hf2, hes, hfx⟩ := id hC
  obtain ⟨hn7, hN, hn, hNe, hw, hsz, hln⟩ := id hS
  refine nw_aload_n X d_Top_release_0 rfl (lv_at hl 0 rfl) ?_
  refine nw_iconst X 0 d_Top_release_1 (by decide) ?_
  refine pf_Top_54 X V (hz (0, 0) rfl) (by decide) d_Top_release_2 (fun H locs V => ?_)
  exact hret _ _ _ _ _ d_Top_release_5 V ⟨cs_rel hC, rfl⟩
set_option maxHeartbeats 4000000 in
set_option maxRecDepth 20000 in
theorem cm_Top_fixed (l : Launch) (z : zz_Z) (σ : hw_M) (hz : ∀ k, zz_k (zz_n z) k → zz_O z k) (S : Nat → Nat → Prop) (hC : cs_ok z σ S) : Met l y_Top_fixed (hw_c y_Top_fixed b_Top_fixed 1 (some .boolean)) (hw_r 0) (va_Pc [.ref (zz_A z (0, 0))] (zz_B z σ)) (va_Qi (fun r σ' => ∃ b, b < 2 ∧ r = nI b ∧ (fun b σ' => σ' = σ ∧ b = σ (0, 0) 6) b σ') (zz_B z) (zz_F z)) 0 0 (zz_F z) := by
  refine hw_metz (post := (fun b σ' => σ' = σ ∧ b = σ (0, 0) 6)) (by decide) (Nat.le_of_ble_eq_true rfl) ?_
  intro p e s m args below meth c ls Q X hret V hl
  have hl : lv_has ls 1 [(0, .ref (zz_A z (0, 0)))] := hl
  have hB := V.1.2.2
  obtain ⟨hS, hR, hf2, hes, hfx⟩ := id hC
  obtain ⟨hn7, hN, hn, hNe, hw, hsz, hln⟩ := id hS
  refine nw_aload_n X d_Top_fixed_0 rfl (lv_at hl 0 rfl) ?_
  refine gf_Top_54 X V (hz (0, 0) rfl) d_Top_fixed_1 ?_
  exact hret _ _ _ _ _ _ d_Top_fixed_4 V hf2 ⟨rfl, rfl⟩
set_option maxHeartbeats 4000000 in
set_option maxRecDepth 20000 in
theorem cm_Top_product (l : Launch) (z : zz_Z) (σ : hw_M) (hz : ∀ k, zz_k (zz_n z) k → zz_O z k) (S : Nat → Nat → Prop) (hC : cs_ok z σ S) (x y : Int32) : Met l y_Top_product (hw_c y_Top_product b_Top_product 3 (some .int)) (hw_r 2) (va_Pc [.ref (zz_A z (0, 0)), .int x, .int y] (zz_B z σ)) (va_Qi (fun r σ' => σ' = σ ∧ an_o (σ (0, 0) 6 = 1 ∧ el_i (zz_N z) x ∧ el_i (zz_N z) y) (gr_p z σ (el_v x) (el_v y)) r) (zz_B z) (zz_F z)) 0 0 (zz_F z) := by
  refine hw_meti (post := (fun r σ' => σ' = σ ∧ an_o (σ (0, 0) 6 = 1 ∧ el_i (zz_N z) x ∧ el_i (zz_N z) y) (gr_p z σ (el_v x) (el_v y)) r)) (by decide) (Nat.le_of_ble_eq_true rfl) ?_
  intro p e s m args below meth c ls Q X hret V hl
  have hl : lv_has ls 3 [(0, .ref (zz_A z (0, 0))), (1, .int x), (2, .int y)] := hl
  have hB := V.1.2.2
  obtain ⟨hS, hR, hf2, hes, hfx⟩ := id hC
  obtain ⟨hn7, hN, hn, hNe, hw, hsz, hln⟩ := id hS
  refine nw_aload_n X d_Top_product_0 rfl (lv_at hl 0 rfl) ?_
  refine nw_iload_n X d_Top_product_1 rfl (lv_at hl 1 rfl) ?_
  refine hw_calli X V (hz (0, 0) rfl) rfl rfl (cm_Top_isElement l z σ hz S hC x) cs_Top_91 (by decide) rfl hl.1 rfl (Nat.le_of_ble_eq_true rfl) (by decide) d_Top_product_2 (fun r σ' H locs V hr => ?_)
  obtain ⟨b1, hb1, rfl, hσ, hbp1⟩ := hr
  rw [hσ] at V
  clear hσ
  have hB := V.1.2.2
  refine nw_if_eq X (tgt := 28) d_Top_product_5 (by decide) (by omega) (fun hc => ?_) (fun hc => ?_)
  · skip
    have hno : ¬ (σ (0, 0) 6 = 1 ∧ el_i (zz_N z) x ∧ el_i (zz_N z) y) := fun h => by have := hbp1.mpr ⟨h.1, h.2.1⟩; omega
    refine nw_iconstv X (-1) d_Top_product_28 (by decide) ?_
    exact hret _ _ _ _ _ _ d_Top_product_29 V ⟨rfl, fun h => absurd h hno, fun _ => rfl⟩
  · skip
    refine nw_aload_n X d_Top_product_8 rfl (lv_at hl 0 rfl) ?_
    refine nw_iload_n X d_Top_product_9 rfl (lv_at hl 2 rfl) ?_
    refine hw_calli X V (hz (0, 0) rfl) rfl rfl (cm_Top_isElement l z σ hz S hC y) cs_Top_91 (by decide) rfl hl.1 rfl (Nat.le_of_ble_eq_true rfl) (by decide) d_Top_product_10 (fun r σ' H locs V hr => ?_)
    obtain ⟨b2, hb2, rfl, hσ, hbp2⟩ := hr
    rw [hσ] at V
    clear hσ
    have hB := V.1.2.2
    refine nw_if_eq X (tgt := 28) d_Top_product_13 (by decide) (by omega) (fun hc2 => ?_) (fun hc2 => ?_)
    · skip
      have hno : ¬ (σ (0, 0) 6 = 1 ∧ el_i (zz_N z) x ∧ el_i (zz_N z) y) := fun h => by have := hbp2.mpr ⟨h.1, h.2.2⟩; omega
      refine nw_iconstv X (-1) d_Top_product_28 (by decide) ?_
      exact hret _ _ _ _ _ _ d_Top_product_29 V ⟨rfl, fun h => absurd h hno, fun _ => rfl⟩
    · skip
      obtain ⟨hf1, i, hi, rfl⟩ := hbp1.mp (by omega)
      obtain ⟨-, j, hj, rfl⟩ := hbp2.mp (by omega)
      have hL := (hfx hf1).1
      refine nw_aload_n X d_Top_product_16 rfl (lv_at hl 0 rfl) ?_
      refine gf_Top_18 X V (hz (0, 0) rfl) d_Top_product_17 ?_
      refine nw_iload_n X d_Top_product_20 rfl (lv_at hl 1 rfl) ?_
      refine nw_iload_n X d_Top_product_21 rfl (lv_at hl 2 rfl) ?_
      refine hw_calli X V (hz (1, 0) rfl) rfl rfl (cm_Col_multiply l z σ hz hL i j hi hj) cs_Top_94 (by decide) rfl hl.1 rfl (Nat.le_of_ble_eq_true rfl) (by decide) d_Top_product_22 (fun r σ' H locs V hr => ?_)
      obtain ⟨hσ, rfl⟩ := hr
      rw [hσ] at V
      clear hσ
      have hB := V.1.2.2
      refine nw_goto X (tgt := 29) d_Top_product_25 (by decide) ?_
      exact hret _ _ _ _ _ _ d_Top_product_29 V ⟨rfl, fun _ => by rw [show el_v (nI i) = i from el_nv (by omega) hi, show el_v (nI j) = j from el_nv (by omega) hj], fun h => absurd ⟨hf1, ⟨i, hi, rfl⟩, j, hj, rfl⟩ h⟩
set_option maxHeartbeats 4000000 in
set_option maxRecDepth 20000 in
theorem cm_Top_conjugated (l : Launch) (z : zz_Z) (σ : hw_M) (hz : ∀ k, zz_k (zz_n z) k → zz_O z k) (S : Nat → Nat → Prop) (hC : cs_ok z σ S) (x y : Int32) : Met l y_Top_conjugated (hw_c y_Top_conjugated b_Top_conjugated 3 (some .int)) (hw_r 3) (va_Pc [.ref (zz_A z (0, 0)), .int x, .int y] (zz_B z σ)) (va_Qi (fun r σ' => σ' = σ ∧ an_o (σ (0, 0) 6 = 1 ∧ el_i (zz_N z) x ∧ el_i (zz_N z) y) (gp_cj (zz_N z) (gr_p z σ) (el_v x) (el_v y)) r) (zz_B z) (zz_F z)) 0 0 (zz_F z) := by
  refine hw_meti (post := (fun r σ' => σ' = σ ∧ an_o (σ (0, 0) 6 = 1 ∧ el_i (zz_N z) x ∧ el_i (zz_N z) y) (gp_cj (zz_N z) (gr_p z σ) (el_v x) (el_v y)) r)) (by decide) (Nat.le_of_ble_eq_true rfl) ?_
  intro p e s m args below meth c ls Q X hret V hl
  have hl : lv_has ls 3 [(0, .ref (zz_A z (0, 0))), (1, .int x), (2, .int y)] := hl
  have hB := V.1.2.2
  obtain ⟨hS, hR, hf2, hes, hfx⟩ := id hC
  obtain ⟨hn7, hN, hn, hNe, hw, hsz, hln⟩ := id hS
  refine nw_aload_n X d_Top_conjugated_0 rfl (lv_at hl 0 rfl) ?_
  refine nw_iload_n X d_Top_conjugated_1 rfl (lv_at hl 1 rfl) ?_
  refine hw_calli X V (hz (0, 0) rfl) rfl rfl (cm_Top_isElement l z σ hz S hC x) cs_Top_91 (by decide) rfl hl.1 rfl (Nat.le_of_ble_eq_true rfl) (by decide) d_Top_conjugated_2 (fun r σ' H locs V hr => ?_)
  obtain ⟨b1, hb1, rfl, hσ, hbp1⟩ := hr
  rw [hσ] at V
  clear hσ
  have hB := V.1.2.2
  refine nw_if_eq X (tgt := 28) d_Top_conjugated_5 (by decide) (by omega) (fun hc => ?_) (fun hc => ?_)
  · skip
    have hno : ¬ (σ (0, 0) 6 = 1 ∧ el_i (zz_N z) x ∧ el_i (zz_N z) y) := fun h => by have := hbp1.mpr ⟨h.1, h.2.1⟩; omega
    refine nw_iconstv X (-1) d_Top_conjugated_28 (by decide) ?_
    exact hret _ _ _ _ _ _ d_Top_conjugated_29 V ⟨rfl, fun h => absurd h hno, fun _ => rfl⟩
  · skip
    refine nw_aload_n X d_Top_conjugated_8 rfl (lv_at hl 0 rfl) ?_
    refine nw_iload_n X d_Top_conjugated_9 rfl (lv_at hl 2 rfl) ?_
    refine hw_calli X V (hz (0, 0) rfl) rfl rfl (cm_Top_isElement l z σ hz S hC y) cs_Top_91 (by decide) rfl hl.1 rfl (Nat.le_of_ble_eq_true rfl) (by decide) d_Top_conjugated_10 (fun r σ' H locs V hr => ?_)
    obtain ⟨b2, hb2, rfl, hσ, hbp2⟩ := hr
    rw [hσ] at V
    clear hσ
    have hB := V.1.2.2
    refine nw_if_eq X (tgt := 28) d_Top_conjugated_13 (by decide) (by omega) (fun hc2 => ?_) (fun hc2 => ?_)
    · skip
      have hno : ¬ (σ (0, 0) 6 = 1 ∧ el_i (zz_N z) x ∧ el_i (zz_N z) y) := fun h => by have := hbp2.mpr ⟨h.1, h.2.2⟩; omega
      refine nw_iconstv X (-1) d_Top_conjugated_28 (by decide) ?_
      exact hret _ _ _ _ _ _ d_Top_conjugated_29 V ⟨rfl, fun h => absurd h hno, fun _ => rfl⟩
    · skip
      obtain ⟨hf1, i, hi, rfl⟩ := hbp1.mp (by omega)
      obtain ⟨-, j, hj, rfl⟩ := hbp2.mp (by omega)
      have hL := (hfx hf1).1
      refine nw_aload_n X d_Top_conjugated_16 rfl (lv_at hl 0 rfl) ?_
      refine gf_Top_18 X V (hz (0, 0) rfl) d_Top_conjugated_17 ?_
      refine nw_iload_n X d_Top_conjugated_20 rfl (lv_at hl 1 rfl) ?_
      refine nw_iload_n X d_Top_conjugated_21 rfl (lv_at hl 2 rfl) ?_
      refine hw_calli X V (hz (1, 0) rfl) rfl rfl (cm_Col_conjugateOf l z σ hz hL i j hi hj) cs_Top_109 (by decide) rfl hl.1 rfl (Nat.le_of_ble_eq_true rfl) (by decide) d_Top_conjugated_22 (fun r σ' H locs V hr => ?_)
      obtain ⟨hσ, rfl⟩ := hr
      rw [hσ] at V
      clear hσ
      have hB := V.1.2.2
      refine nw_goto X (tgt := 29) d_Top_conjugated_25 (by decide) ?_
      exact hret _ _ _ _ _ _ d_Top_conjugated_29 V ⟨rfl, fun _ => by rw [show el_v (nI i) = i from el_nv (by omega) hi, show el_v (nI j) = j from el_nv (by omega) hj], fun h => absurd ⟨hf1, ⟨i, hi, rfl⟩, j, hj, rfl⟩ h⟩
set_option maxHeartbeats 4000000 in
set_option maxRecDepth 20000 in
theorem cm_Top_commutator (l : Launch) (z : zz_Z) (σ : hw_M) (hz : ∀ k, zz_k (zz_n z) k → zz_O z k) (S : Nat → Nat → Prop) (hC : cs_ok z σ S) (x y : Int32) : Met l y_Top_commutator (hw_c y_Top_commutator b_Top_commutator 3 (some .int)) (hw_r 4) (va_Pc [.ref (zz_A z (0, 0)), .int x, .int y] (zz_B z σ)) (va_Qi (fun r σ' => σ' = σ ∧ an_o (σ (0, 0) 6 = 1 ∧ el_i (zz_N z) x ∧ el_i (zz_N z) y) (gp_cm (zz_N z) (gr_p z σ) (el_v x) (el_v y)) r) (zz_B z) (zz_F z)) 0 0 (zz_F z) := by
  refine hw_meti (post := (fun r σ' => σ' = σ ∧ an_o (σ (0, 0) 6 = 1 ∧ el_i (zz_N z) x ∧ el_i (zz_N z) y) (gp_cm (zz_N z) (gr_p z σ) (el_v x) (el_v y)) r)) (by decide) (Nat.le_of_ble_eq_true rfl) ?_
  intro p e s m args below meth c ls Q X hret V hl
  have hl : lv_has ls 3 [(0, .ref (zz_A z (0, 0))), (1, .int x), (2, .int y)] := hl
  have hB := V.1.2.2
  obtain ⟨hS, hR, hf2, hes, hfx⟩ := id hC
  obtain ⟨hn7, hN, hn, hNe, hw, hsz, hln⟩ := id hS
  refine nw_aload_n X d_Top_commutator_0 rfl (lv_at hl 0 rfl) ?_
  refine nw_iload_n X d_Top_commutator_1 rfl (lv_at hl 1 rfl) ?_
  refine hw_calli X V (hz (0, 0) rfl) rfl rfl (cm_Top_isElement l z σ hz S hC x) cs_Top_91 (by decide) rfl hl.1 rfl (Nat.le_of_ble_eq_true rfl) (by decide) d_Top_commutator_2 (fun r σ' H locs V hr => ?_)
  obtain ⟨b1, hb1, rfl, hσ, hbp1⟩ := hr
  rw [hσ] at V
  clear hσ
  have hB := V.1.2.2
  refine nw_if_eq X (tgt := 28) d_Top_commutator_5 (by decide) (by omega) (fun hc => ?_) (fun hc => ?_)
  · skip
    have hno : ¬ (σ (0, 0) 6 = 1 ∧ el_i (zz_N z) x ∧ el_i (zz_N z) y) := fun h => by have := hbp1.mpr ⟨h.1, h.2.1⟩; omega
    refine nw_iconstv X (-1) d_Top_commutator_28 (by decide) ?_
    exact hret _ _ _ _ _ _ d_Top_commutator_29 V ⟨rfl, fun h => absurd h hno, fun _ => rfl⟩
  · skip
    refine nw_aload_n X d_Top_commutator_8 rfl (lv_at hl 0 rfl) ?_
    refine nw_iload_n X d_Top_commutator_9 rfl (lv_at hl 2 rfl) ?_
    refine hw_calli X V (hz (0, 0) rfl) rfl rfl (cm_Top_isElement l z σ hz S hC y) cs_Top_91 (by decide) rfl hl.1 rfl (Nat.le_of_ble_eq_true rfl) (by decide) d_Top_commutator_10 (fun r σ' H locs V hr => ?_)
    obtain ⟨b2, hb2, rfl, hσ, hbp2⟩ := hr
    rw [hσ] at V
    clear hσ
    have hB := V.1.2.2
    refine nw_if_eq X (tgt := 28) d_Top_commutator_13 (by decide) (by omega) (fun hc2 => ?_) (fun hc2 => ?_)
    · skip
      have hno : ¬ (σ (0, 0) 6 = 1 ∧ el_i (zz_N z) x ∧ el_i (zz_N z) y) := fun h => by have := hbp2.mpr ⟨h.1, h.2.2⟩; omega
      refine nw_iconstv X (-1) d_Top_commutator_28 (by decide) ?_
      exact hret _ _ _ _ _ _ d_Top_commutator_29 V ⟨rfl, fun h => absurd h hno, fun _ => rfl⟩
    · skip
      obtain ⟨hf1, i, hi, rfl⟩ := hbp1.mp (by omega)
      obtain ⟨-, j, hj, rfl⟩ := hbp2.mp (by omega)
      have hL := (hfx hf1).1
      refine nw_aload_n X d_Top_commutator_16 rfl (lv_at hl 0 rfl) ?_
      refine gf_Top_18 X V (hz (0, 0) rfl) d_Top_commutator_17 ?_
      refine nw_iload_n X d_Top_commutator_20 rfl (lv_at hl 1 rfl) ?_
      refine nw_iload_n X d_Top_commutator_21 rfl (lv_at hl 2 rfl) ?_
      refine hw_calli X V (hz (1, 0) rfl) rfl rfl (cm_Col_commutatorOf l z σ hz hL i j hi hj) cs_Top_112 (by decide) rfl hl.1 rfl (Nat.le_of_ble_eq_true rfl) (by decide) d_Top_commutator_22 (fun r σ' H locs V hr => ?_)
      obtain ⟨hσ, rfl⟩ := hr
      rw [hσ] at V
      clear hσ
      have hB := V.1.2.2
      refine nw_goto X (tgt := 29) d_Top_commutator_25 (by decide) ?_
      exact hret _ _ _ _ _ _ d_Top_commutator_29 V ⟨rfl, fun _ => by rw [show el_v (nI i) = i from el_nv (by omega) hi, show el_v (nI j) = j from el_nv (by omega) hj], fun h => absurd ⟨hf1, ⟨i, hi, rfl⟩, j, hj, rfl⟩ h⟩
set_option maxHeartbeats 4000000 in
set_option maxRecDepth 20000 in
theorem cm_Top_order (l : Launch) (z : zz_Z) (σ : hw_M) (hz : ∀ k, zz_k (zz_n z) k → zz_O z k) (S : Nat → Nat → Prop) (hC : cs_ok z σ S) (x : Int32) : Met l y_Top_order (hw_c y_Top_order b_Top_order 2 (some .int)) (hw_r 3) (va_Pc [.ref (zz_A z (0, 0)), .int x] (zz_B z σ)) (va_Qi (fun r σ' => σ' = σ ∧ ((σ (0, 0) 6 = 1 ∧ el_i (zz_N z) x) → ∃ k, r = nI k ∧ gp_od (gr_p z σ) (el_v x) k) ∧ (¬ (σ (0, 0) 6 = 1 ∧ el_i (zz_N z) x) → r = -1)) (zz_B z) (zz_F z)) 0 0 (zz_F z) := by
  refine hw_meti (post := (fun r σ' => σ' = σ ∧ ((σ (0, 0) 6 = 1 ∧ el_i (zz_N z) x) → ∃ k, r = nI k ∧ gp_od (gr_p z σ) (el_v x) k) ∧ (¬ (σ (0, 0) 6 = 1 ∧ el_i (zz_N z) x) → r = -1))) (by decide) (Nat.le_of_ble_eq_true rfl) ?_
  intro p e s m args below meth c ls Q X hret V hl
  have hl : lv_has ls 2 [(0, .ref (zz_A z (0, 0))), (1, .int x)] := hl
  have hB := V.1.2.2
  obtain ⟨hS, hR, hf2, hes, hfx⟩ := id hC
  obtain ⟨hn7, hN, hn, hNe, hw, hsz, hln⟩ := id hS
  refine nw_aload_n X d_Top_order_0 rfl (lv_at hl 0 rfl) ?_
  refine nw_iload_n X d_Top_order_1 rfl (lv_at hl 1 rfl) ?_
  refine hw_calli X V (hz (0, 0) rfl) rfl rfl (cm_Top_isElement l z σ hz S hC x) cs_Top_91 (by decide) rfl hl.1 rfl (Nat.le_of_ble_eq_true rfl) (by decide) d_Top_order_2 (fun r σ' H locs V hr => ?_)
  obtain ⟨b, hb, rfl, hσ, hbp⟩ := hr
  rw [hσ] at V
  clear hσ
  have hB := V.1.2.2
  refine nw_if_eq X (tgt := 19) d_Top_order_5 (by decide) (by omega) (fun hc => ?_) (fun hc => ?_)
  · skip
    refine nw_iconstv X (-1) d_Top_order_19 (by decide) ?_
    exact hret _ _ _ _ _ _ d_Top_order_20 V ⟨rfl, fun h => absurd (hbp.mpr h) (by omega), fun _ => rfl⟩
  · skip
    obtain ⟨hf1, i, hi, rfl⟩ := hbp.mp (by omega)
    have hL := (hfx hf1).1
    refine nw_aload_n X d_Top_order_8 rfl (lv_at hl 0 rfl) ?_
    refine gf_Top_18 X V (hz (0, 0) rfl) d_Top_order_9 ?_
    refine nw_iload_n X d_Top_order_12 rfl (lv_at hl 1 rfl) ?_
    refine hw_calli X V (hz (1, 0) rfl) rfl rfl (cm_Col_orderOf l z σ hz hL i hi) cs_Top_98 (by decide) rfl hl.1 rfl (Nat.le_of_ble_eq_true rfl) (by decide) d_Top_order_13 (fun r σ' H locs V hr => ?_)
    obtain ⟨hσ, k, rfl, hod⟩ := hr
    rw [hσ] at V
    refine nw_goto X (tgt := 20) d_Top_order_16 (by decide) ?_
    exact hret _ _ _ _ _ _ d_Top_order_20 V ⟨rfl, fun _ => ⟨k, rfl, by rw [show el_v (nI i) = i from el_nv (by omega) hi]; exact hod⟩, fun h => absurd ⟨hf1, i, hi, rfl⟩ h⟩
end
section
/-! The class's state behind the calls that change it. -/
section
variable {z : zz_Z} {σ σ1 : hw_M} {S : Nat → Nat → Prop}
theorem cs_ext {S' : Nat → Nat → Prop} (h : cs_ok z σ S) (e : σ (0, 0) 6 = 1 → ∀ s, s < 4 → ∀ v, S s v ↔ S' s v) : cs_ok z σ S' := by
  refine cs_set h cs_q.rf h.2.2.2.1 (fun hf => ?_)
  obtain ⟨hL, hp, hw⟩ := h.2.2.2.2 hf
  refine ⟨fun s hs => ?_, hw⟩
  obtain ⟨q1, b1, h1, h2⟩ := hp s hs
  exact ⟨q1, b1, h1, fun x => (h2 x).trans (e hf s hs x)⟩
/-- not fixed: nothing but relations and sets -/
theorem cs_open {S' : Nat → Nat → Prop} (h1 : st_ok z σ) (h2 : rl_ok z σ) (h3 : σ (0, 0) 6 = 0) (h4 : ∀ j, j < 8 → ∃ q, es_ok z σ j q) : cs_ok z σ S' :=
  ⟨h1, h2, by rw [h3]; decide, h4, fun q => by rw [h3] at q; cases q⟩
theorem cs_pow {j v : Nat} (h : cs_ok z σ S) (hf : σ (0, 0) 6 = 0) (hj : j < zz_n z) (hv : v < σ (3, 0) j) : cs_ok z (hw_up σ (4, 0) j v) S := by
  have e : ∀ k i, k ≠ 4 → hw_up σ (4, 0) j v (k, i) = σ (k, i) := fun k i hk => hw_up_k _ _ _ (hw_ne hk)
  refine cs_open ?_ ⟨fun i hi => ?_, fun i j9 h1 h2 => ?_⟩ (by rw [e 0 0 (by decide)]; exact hf) (fun j9 hj9 => ?_)
  · unfold st_ok
    rw [e 1 0 (by decide), e 2 0 (by decide), e 3 0 (by decide)]
    exact h.1
  · rw [e 3 0 (by decide), hw_up_v]
    by_cases q : i = j
    · rw [if_pos q, q]; exact hv
    · rw [if_neg q]; exact h.2.1.1 i hi
  · rw [e 3 0 (by decide), e 6 i (by decide)]; exact h.2.1.2 i j9 h1 h2
  · obtain ⟨q, hq⟩ := h.2.2.2.1 j9 hj9
    exact ⟨q, es_keep hq (e 13 j9 (by decide)) (e 14 j9 (by decide)) (e 15 j9 (by decide))⟩
theorem cs_cgj {a j v : Nat} (h : cs_ok z σ S) (hf : σ (0, 0) 6 = 0) (hv : v < σ (3, 0) a) : cs_ok z (hw_up σ (6, a) j v) S := by
  have e : ∀ k i, k ≠ 6 → hw_up σ (6, a) j v (k, i) = σ (k, i) := fun k i hk => hw_up_k _ _ _ (hw_ne hk)
  refine cs_open ?_ ⟨fun i hi => ?_, fun i j9 h1 h2 => ?_⟩ (by rw [e 0 0 (by decide)]; exact hf) (fun j9 hj9 => ?_)
  · unfold st_ok
    rw [e 1 0 (by decide), e 2 0 (by decide), e 3 0 (by decide)]
    exact h.1
  · rw [e 3 0 (by decide), e 4 0 (by decide)]; exact h.2.1.1 i hi
  · rw [e 3 0 (by decide)]
    by_cases q : i = a
    · rw [q, hw_up_v]
      by_cases q2 : j9 = j
      · rw [if_pos q2]; exact hv
      · rw [if_neg q2, ← q]; exact h.2.1.2 i j9 h1 h2
    · rw [hw_up_k _ _ _ (hw_ne2 q)]; exact h.2.1.2 i j9 h1 h2
  · obtain ⟨q, hq⟩ := h.2.2.2.1 j9 hj9
    exact ⟨q, es_keep hq (e 13 j9 (by decide)) (e 14 j9 (by decide)) (e 15 j9 (by decide))⟩
theorem pw_eq {fx n j v : Nat} {w : Nat → Nat} (hn : n ≤ 128) (h : sp_pw fx n w (nI j) (nI v)) (hj : j < n) (hv : v < 2147483648) : hw_up σ (4, 0) j v (4, 0) = sp_pw1 fx n w (σ (4, 0)) (nI j) (nI v) := by
  funext i
  have e1 : el_v (nI j) = j := nI_clamp (show j < 2 ^ 31 by omega)
  have e2 : el_v (nI v) = v := nI_clamp hv
  unfold sp_pw1
  rw [hw_up_v, e1, e2]
  by_cases q : i = j
  · rw [if_pos q, cn_t ⟨h, q⟩]
  · rw [if_neg q, cn_f (fun z => q z.2)]
theorem pw_no {fx n : Nat} {w p : Nat → Nat} {x y : Int32} (h : ¬ sp_pw fx n w x y) : p = sp_pw1 fx n w p x y := by
  funext i
  unfold sp_pw1
  rw [cn_f (fun z => h z.1)]
theorem cg_eq {fx n a j v : Nat} {w : Nat → Nat} (hn : n ≤ 128) (h : sp_cg fx n w (nI a) (nI j) (nI v)) (ha : a < n) (hj : j < n) (hv : v < 2147483648) : (fun i => hw_up σ (6, a) j v (6, i)) = sp_cg1 fx n w (fun i => σ (6, i)) (nI a) (nI j) (nI v) := by
  funext i b
  have e1 : el_v (nI j) = j := nI_clamp (show j < 2 ^ 31 by omega)
  have e2 : el_v (nI v) = v := nI_clamp hv
  have e3 : el_v (nI a) = a := nI_clamp (show a < 2 ^ 31 by omega)
  unfold sp_cg1
  rw [e1, e2, e3]
  by_cases q : i = a
  · subst q
    rw [hw_up_v]
    by_cases q2 : b = j
    · rw [if_pos q2, cn_t ⟨h, rfl, q2⟩]
    · rw [if_neg q2, cn_f (fun z => q2 z.2.2)]
  · rw [hw_up_k _ _ _ (hw_ne2 q), cn_f (fun z => q z.2.1)]
theorem cg_no {fx n : Nat} {w : Nat → Nat} {c : Nat → Nat → Nat} {x y u : Int32} (h : ¬ sp_cg fx n w x y u) : c = sp_cg1 fx n w c x y u := by
  funext i b
  unfold sp_cg1
  rw [cn_f (fun z => h z.1)]
/-- all letters in: all -/
theorem sg_full {j : Nat} {q c : List Nat} {σ2 : hw_M} (hL : lo_ok z σ 0) (hG : sg_gp z (gr_p z σ) σ2 j q c) (h : ∀ t, t < zz_n z → σ (3, 0) t ∈ q) : ∀ x, x ∈ q ↔ x < zz_N z := by
  have g := lo_gp hL
  have hsb := gp_gn.sb (X := fun y => y ∈ c) g hG.1.2.2.2.2
  intro x
  refine ⟨hG.1.1.2.1 x, fun hx => ?_⟩
  obtain ⟨⟨-, -, -, -, hw, hsz, -⟩, hk, -⟩ := hL
  rw [hsz] at hx
  have h1 := tw_gn hw hk x hx
  rw [← hsz] at h1
  exact (hG.2.1 x).mpr (gp_gn.le hsb (fun y hy => by obtain ⟨t, ht, rfl⟩ := hy; exact (hG.2.1 _).mp (h t ht)) h1)
theorem sg_join {j a : Nat} {o : Nat → Nat → Nat} {σ2 : hw_M} {q c q' c' : List Nat} {T : Nat → Prop} (hG : sg_gp z o σ j q c) (hT : ∀ x, x ∈ q ↔ T x) (hG' : sg_gp z o σ2 j q' c') (ha : a ∈ q') (hc : c' = c ∨ c' = c ++ [a]) (g : gp_ok (zz_N z) o) : ∀ x, x ∈ q' ↔ sp_join (zz_N z) o T a x := by
  have hsb := gp_gn.sb (X := fun y => y ∈ c') g hG'.1.2.2.2.2
  have hal : a < zz_N z := hG'.1.1.2.1 a ha
  have hX : ∀ u, (T u ∨ u = a) → u < zz_N z := fun u hu => hu.elim (fun h => hG.1.1.2.1 u ((hT u).mpr h)) (fun h => by rw [h]; exact hal)
  have hcc : ∀ b, b ∈ c → b ∈ c' := fun b hb => by rcases hc with e | e <;> rw [e]; exact hb; exact List.mem_append_left _ hb
  intro x
  constructor
  · intro hx
    refine gp_gn.le (gp_gn.sb g hX) (fun y hy => ?_) ((hG'.2.1 x).mp hx)
    have hy : y ∈ c' := hy
    rcases hc with e | e
    · rw [e] at hy; exact gp_gn.in (Or.inl ((hT y).mp (sg_basis hG y hy)))
    · rw [e] at hy
      rcases List.mem_append.mp hy with h | h
      · exact gp_gn.in (Or.inl ((hT y).mp (sg_basis hG y h)))
      · rw [List.mem_singleton] at h; exact gp_gn.in (Or.inr h)
  · intro hx
    refine (hG'.2.1 x).mpr (gp_gn.le hsb (fun y hy => ?_) hx)
    rcases hy with h | h
    · exact (hG'.2.1 y).mp (sg_mono hG hG' hcc y ((hT y).mpr h))
    · rw [h]; exact (hG'.2.1 a).mp ha
theorem sg_spread {j : Nat} {o : Nat → Nat → Nat} {σ2 σ3 : hw_M} {q c q' c' qw bw : List Nat} {T : Nat → Prop} (g : gp_ok (zz_N z) o) (hG : sg_gp z o σ j q c) (hT : ∀ x, x ∈ q ↔ T x) (hG' : sg_gp z o σ2 j q' c') (hW : sg_gp z o σ3 4 qw bw) (hall : ∀ x, x ∈ qw ↔ x < zz_N z)
    (hs : ∀ b, b ∈ c → b ∈ c') (hc : ∀ y b, y ∈ c' → b ∈ bw → gp_cj (zz_N z) o y b ∈ q') (hm : ∀ K : Nat → Prop, gp_sb (zz_N z) o K → (∀ b, b ∈ c → K b) → (∀ k b, K k → b ∈ bw → K (gp_cj (zz_N z) o k b)) → ∀ b, b ∈ c' → K b) : ∀ x, x ∈ q' ↔ sp_spread (zz_N z) o T x := by
  intro x
  rw [hG'.2.1 x, gp_spread g hG.1.2.2.2.2 hG'.1.2.2.2.2 hW.1.2.2.2.2 (fun y hy => (hW.2.1 y).mp ((hall y).mpr hy)) (fun b hb => gp_gn.in (hs b hb)) (fun y b hy hb => (hG'.2.1 _).mp (hc y b hy hb)) hm x]
  refine gp_gn_ext (fun c9 => ⟨fun ⟨a, b, h1, h2, h3⟩ => ⟨a, b, (hT a).mp ((hG.2.1 a).mpr h1), h2, h3⟩, fun ⟨a, b, h1, h2, h3⟩ => ⟨a, b, (hG.2.1 a).mp ((hT a).mpr h1), h2, h3⟩⟩) x
theorem sg_csT {js jt : Nat} {o : Nat → Nat → Nat} {σ2 : hw_M} {qs bs qt bt q' : List Nat} {T U : Nat → Prop} (hs : sg_gp z o σ js qs bs) (ht : sg_gp z o σ2 jt qt bt) (hT : ∀ x, x ∈ qs ↔ T x) (hU : ∀ x, x ∈ qt ↔ U x) (h : ∀ x, x ∈ q' ↔ gp_cs (zz_N z) o (gp_gn (zz_N z) o (fun y => y ∈ bs)) (gp_gn (zz_N z) o (fun y => y ∈ bt)) x) : ∀ x, x ∈ q' ↔ gp_cs (zz_N z) o T U x :=
  fun x => (h x).trans (gp_cs_ext (fun y => (hs.2.1 y).symm.trans (hT y)) (fun y => (ht.2.1 y).symm.trans (hU y)) x)
theorem cs_side {j : Nat} (h : cs_ok z σ S) (hf : σ (0, 0) 6 = 1) (hj : 4 < j) (hfr : sg_fr j σ σ1) (hq : ∃ q, es_ok z σ1 j q) : cs_ok z σ1 S ∧ σ1 (0, 0) 6 = 1 ∧ gr_p z σ1 = gr_p z σ := by
  obtain ⟨hL, hp, qw, bw, hw1, hw2⟩ := h.2.2.2.2 hf
  refine ⟨cs_set h hfr.cq (es_all h.2.2.2.1 hfr hq) (fun _ => ⟨fun s hs => ?_, qw, bw, sg_gpo hw1 hfr (by omega), hw2⟩), by rw [hfr.cq.fx]; exact hf, (hfr.cq.lo hL).2⟩
  obtain ⟨q1, b1, h1, h2⟩ := hp s hs
  exact ⟨q1, b1, sg_gpo h1 hfr (by omega), h2⟩
theorem fx_end {σ2 σ3 : hw_M} {qw bw : List Nat} (hC : cs_ok z σ S) (hf0 : σ (0, 0) 6 = 0) (hk : mo_k z σ (zz_n z)) (f1 : ∀ u : hw_P, u.1 ≠ 8 → u.1 ≠ 10 → σ1 u = σ u) (hL1 : lo_ok z σ1 0)
    (hL2 : lo_ok z σ2 0) (hfl : σ2 (0, 0) 6 = 1) (hfr : ∀ u : hw_P, u.1 ≠ 0 → (u.1 < 12 ∨ 16 < u.1) → σ2 u = σ1 u) (hes : ∀ j, j < 8 → ∃ q, es_ok z σ2 j q) (hz : ∀ s, s < 4 → sg_ok z σ2 s [0] [])
    (hG : sg_gp z (gr_p z σ2) σ3 4 qw bw) (hall : ∀ x, x ∈ qw ↔ x < zz_N z) (f3 : sg_fr 4 σ2 σ3) (hfl3 : σ3 (0, 0) 6 = 1) :
    σ3 (0, 0) 6 = cn_n (σ (0, 0) 6 = 1 ∨ mo_k z σ (zz_n z)) 1 0 ∧ cs_ok z σ3 (fun s v => (σ (0, 0) 6 = 1 ∧ S s v) ∨ (σ (0, 0) 6 ≠ 1 ∧ v = 0)) ∧ σ3 (0, 0) 6 = σ3 (0, 0) 6 ∧ (∀ u : hw_P, u.1 < 8 → u.1 ≠ 0 → σ3 u = σ u) ∧ ∀ u : hw_P, 16 < u.1 → σ3 u = σ u := by
  have hne : ¬ σ (0, 0) 6 = 1 := fun q => by rw [hf0] at q; cases q
  have hL3 := f3.cq.lo hL2
  have g := lo_gp hL2
  have hR1 := rl_keep hC.2.1 f1
  refine ⟨by rw [cn_t (Or.inr hk)]; exact hfl3, ⟨hL3.1.1, ?_, by rw [hfl3]; decide, es_all hes f3 ⟨qw, hG.1.1⟩, fun _ => ⟨hL3.1, fun s hs => ?_, ?_⟩⟩, rfl, fun u h1 h2 => ?_, fun u h1 => ?_⟩
  · have e3 : σ3 (3, 0) = σ1 (3, 0) := (f3.cq (3, 0) (Or.inl (by decide))).trans (hfr (3, 0) (by decide) (Or.inl (by decide)))
    have e4 : σ3 (4, 0) = σ1 (4, 0) := (f3.cq (4, 0) (Or.inl (by decide))).trans (hfr (4, 0) (by decide) (Or.inl (by decide)))
    have e6 : ∀ i, σ3 (6, i) = σ1 (6, i) := fun i => (f3.cq (6, i) (Or.inl (by show (6 : Nat) < 12; decide))).trans (hfr (6, i) (by show (6 : Nat) ≠ 0; decide) (Or.inl (by show (6 : Nat) < 12; decide)))
    exact ⟨fun i hi => by rw [e3, e4]; exact hR1.1 i hi, fun i j h1 h2 => by rw [e3, e6]; exact hR1.2 i j h1 h2⟩
  · rw [hL3.2]
    exact ⟨[0], [], sg_gp0 g (sg_oth (hz s hs) f3 (by omega)), fun x => ⟨fun hx => Or.inr ⟨hne, List.mem_singleton.mp hx⟩, fun hx => hx.elim (fun q => absurd q.1 hne) (fun q => List.mem_singleton.mpr q.2)⟩⟩
  · rw [hL3.2]
    exact ⟨qw, bw, hG, hall⟩
  · exact ((f3.cq u (Or.inl (by omega))).trans (hfr u h2 (Or.inl (by omega)))).trans (f1 u (by omega) (by omega))
  · exact ((f3.cq u (Or.inr h1)).trans (hfr u (by omega) (Or.inr h1))).trans (f1 u (by omega) (by omega))
end
end
section
/-! The class: relations, places. By program (wip/whole/gen/top2.py). -/
set_option maxHeartbeats 4000000 in
set_option maxRecDepth 20000 in
theorem cm_Top_power (l : Launch) (z : zz_Z) (σ : hw_M) (hz : ∀ k, zz_k (zz_n z) k → zz_O z k) (S : Nat → Nat → Prop) (hC : cs_ok z σ S) (x y : Int32) : Met l y_Top_power (hw_c y_Top_power b_Top_power 3 (some .boolean)) (hw_r 2) (va_Pc [.ref (zz_A z (0, 0)), .int x, .int y] (zz_B z σ)) (va_Qi (fun r σ' => ∃ b, b < 2 ∧ r = nI b ∧ (fun b σ' => cs_ok z σ' S ∧ b = cn_n (sp_pw (σ (0, 0) 6) (zz_n z) (σ (3, 0)) x y) 1 0 ∧ σ' (4, 0) = sp_pw1 (σ (0, 0) 6) (zz_n z) (σ (3, 0)) (σ (4, 0)) x y ∧ (∀ u : hw_P, u ≠ (4, 0) → σ' u = σ u)) b σ') (zz_B z) (zz_F z)) 0 0 (zz_F z) := by
  refine hw_metz (post := (fun b σ' => cs_ok z σ' S ∧ b = cn_n (sp_pw (σ (0, 0) 6) (zz_n z) (σ (3, 0)) x y) 1 0 ∧ σ' (4, 0) = sp_pw1 (σ (0, 0) 6) (zz_n z) (σ (3, 0)) (σ (4, 0)) x y ∧ (∀ u : hw_P, u ≠ (4, 0) → σ' u = σ u))) (by decide) (Nat.le_of_ble_eq_true rfl) ?_
  intro p e s m args below meth c ls Q X hret V hl
  have hl : lv_has ls 3 [(0, .ref (zz_A z (0, 0))), (1, .int x), (2, .int y)] := hl
  have hB := V.1.2.2
  obtain ⟨hS, hR, hf2, hes, hfx⟩ := id hC
  obtain ⟨hn7, hN, hn, hNe, hw, hsz, hln⟩ := id hS
  refine nw_aload_n X d_Top_power_0 rfl (lv_at hl 0 rfl) ?_
  refine gf_Top_54 X V (hz (0, 0) rfl) d_Top_power_1 ?_
  refine nw_if_ne X (tgt := 19) d_Top_power_4 (by decide) (by omega) (fun hc => ?_) (fun hc => ?_)
  · skip
    have hno : ¬ sp_pw (σ (0, 0) 6) (zz_n z) (σ (3, 0)) x y := fun h => h.1 (by omega)
    refine nw_iconst X 0 d_Top_power_19 (by decide) ?_
    exact hret 0 _ _ _ _ _ d_Top_power_20 V (by decide) ⟨hC, (cn_f hno).symm, pw_no hno, fun _ _ => rfl⟩
  · skip
    have hf0 := hc
    refine nw_aload_n X d_Top_power_7 rfl (lv_at hl 0 rfl) ?_
    refine gf_Top_18 X V (hz (0, 0) rfl) d_Top_power_8 ?_
    refine nw_iload_n X d_Top_power_11 rfl (lv_at hl 1 rfl) ?_
    refine nw_iload_n X d_Top_power_12 rfl (lv_at hl 2 rfl) ?_
    refine hw_calli X V (hz (1, 0) rfl) rfl rfl (cm_Col_isWordBehind l z σ hz hS x y) cs_Top_69 (by decide) rfl hl.1 rfl (Nat.le_of_ble_eq_true rfl) (by decide) d_Top_power_13 (fun r σ' H locs V hr => ?_)
    obtain ⟨b1, hb1, rfl, hσ, hbp1⟩ := hr
    rw [hσ] at V
    clear hσ
    have hB := V.1.2.2
    refine nw_if_ne X (tgt := 21) d_Top_power_16 (by decide) (by omega) (fun hc1 => ?_) (fun hc1 => ?_)
    · skip
      obtain ⟨j, v, hj, rfl, hv, rfl⟩ := hbp1.mp (by omega)
      have hv2 : v < 2147483648 := by have := hB (3, 0) j; omega
      have hy : sp_pw (σ (0, 0) 6) (zz_n z) (σ (3, 0)) (nI j) (nI v) := ⟨by omega, j, v, hj, rfl, hv, rfl⟩
      refine nw_aload_n X d_Top_power_21 rfl (lv_at hl 0 rfl) ?_
      refine gf_Top_18 X V (hz (0, 0) rfl) d_Top_power_22 ?_
      refine nw_iload_n X d_Top_power_25 rfl (lv_at hl 1 rfl) ?_
      refine nw_iload_n X d_Top_power_26 rfl (lv_at hl 2 rfl) ?_
      refine hw_callv X V (hz (1, 0) rfl) rfl rfl (cm_Col_setPower l z σ hz hS j v hj hv2) cs_Top_73 (by decide) rfl hl.1 rfl (Nat.le_of_ble_eq_true rfl) (by decide) d_Top_power_27 (fun σ' H locs V hr => ?_)
      subst hr
      refine nw_iconst X 1 d_Top_power_30 (by decide) ?_
      exact hret 1 _ _ _ _ _ d_Top_power_31 V (by decide) ⟨cs_pow hC hf0 hj hv, (cn_t hy).symm, pw_eq (by omega) hy hj hv2, fun u hu => hw_up_k _ _ _ hu⟩
    · skip
      have hno : ¬ sp_pw (σ (0, 0) 6) (zz_n z) (σ (3, 0)) x y := fun h => by have := hbp1.mpr h.2; omega
      refine nw_iconst X 0 d_Top_power_19 (by decide) ?_
      exact hret 0 _ _ _ _ _ d_Top_power_20 V (by decide) ⟨hC, (cn_f hno).symm, pw_no hno, fun _ _ => rfl⟩
set_option maxHeartbeats 4000000 in
set_option maxRecDepth 20000 in
theorem cm_Top_conjugate (l : Launch) (z : zz_Z) (σ : hw_M) (hz : ∀ k, zz_k (zz_n z) k → zz_O z k) (S : Nat → Nat → Prop) (hC : cs_ok z σ S) (x y t : Int32) : Met l y_Top_conjugate (hw_c y_Top_conjugate b_Top_conjugate 4 (some .boolean)) (hw_r 2) (va_Pc [.ref (zz_A z (0, 0)), .int x, .int y, .int t] (zz_B z σ)) (va_Qi (fun r σ' => ∃ b, b < 2 ∧ r = nI b ∧ (fun b σ' => cs_ok z σ' S ∧ b = cn_n (sp_cg (σ (0, 0) 6) (zz_n z) (σ (3, 0)) x y t) 1 0 ∧ (fun i => σ' (6, i)) = sp_cg1 (σ (0, 0) 6) (zz_n z) (σ (3, 0)) (fun i => σ (6, i)) x y t ∧ ∀ u : hw_P, u.1 ≠ 6 → σ' u = σ u) b σ') (zz_B z) (zz_F z)) 0 0 (zz_F z) := by
  refine hw_metz (post := (fun b σ' => cs_ok z σ' S ∧ b = cn_n (sp_cg (σ (0, 0) 6) (zz_n z) (σ (3, 0)) x y t) 1 0 ∧ (fun i => σ' (6, i)) = sp_cg1 (σ (0, 0) 6) (zz_n z) (σ (3, 0)) (fun i => σ (6, i)) x y t ∧ ∀ u : hw_P, u.1 ≠ 6 → σ' u = σ u)) (by decide) (Nat.le_of_ble_eq_true rfl) ?_
  intro p e s m args below meth c ls Q X hret V hl
  have hl : lv_has ls 4 [(0, .ref (zz_A z (0, 0))), (1, .int x), (2, .int y), (3, .int t)] := hl
  have hB := V.1.2.2
  obtain ⟨hS, hR, hf2, hes, hfx⟩ := id hC
  obtain ⟨hn7, hN, hn, hNe, hw, hsz, hln⟩ := id hS
  refine nw_aload_n X d_Top_conjugate_0 rfl (lv_at hl 0 rfl) ?_
  refine gf_Top_54 X V (hz (0, 0) rfl) d_Top_conjugate_1 ?_
  refine nw_if_ne X (tgt := 35) d_Top_conjugate_4 (by decide) (by omega) (fun hc => ?_) (fun hc => ?_)
  · skip
    have hno : ¬ sp_cg (σ (0, 0) 6) (zz_n z) (σ (3, 0)) x y t := fun h => h.1 (by omega)
    refine nw_iconst X 0 d_Top_conjugate_35 (by decide) ?_
    exact hret 0 _ _ _ _ _ d_Top_conjugate_36 V (by decide) ⟨hC, (cn_f hno).symm, cg_no hno, fun _ _ => rfl⟩
  · skip
    have hf0 := hc
    refine nw_aload_n X d_Top_conjugate_7 rfl (lv_at hl 0 rfl) ?_
    refine gf_Top_18 X V (hz (0, 0) rfl) d_Top_conjugate_8 ?_
    refine nw_iload_n X d_Top_conjugate_11 rfl (lv_at hl 2 rfl) ?_
    refine hw_calli X V (hz (1, 0) rfl) rfl rfl (cm_Col_isLetter l z σ hz hS y) cs_Top_61 (by decide) rfl hl.1 rfl (Nat.le_of_ble_eq_true rfl) (by decide) d_Top_conjugate_12 (fun r σ' H locs V hr => ?_)
    obtain ⟨b1, hb1, rfl, hσ, hbp1⟩ := hr
    rw [hσ] at V
    clear hσ
    have hB := V.1.2.2
    refine nw_if_eq X (tgt := 35) d_Top_conjugate_15 (by decide) (by omega) (fun hc1 => ?_) (fun hc1 => ?_)
    · skip
      have hno : ¬ sp_cg (σ (0, 0) 6) (zz_n z) (σ (3, 0)) x y t := fun ⟨_, i, j, v, h1, h2, h3, h4, h5⟩ => by have := hbp1.mpr ⟨j, h2, h4⟩; omega
      refine nw_iconst X 0 d_Top_conjugate_35 (by decide) ?_
      exact hret 0 _ _ _ _ _ d_Top_conjugate_36 V (by decide) ⟨hC, (cn_f hno).symm, cg_no hno, fun _ _ => rfl⟩
    · skip
      obtain ⟨j, hj, rfl⟩ := hbp1.mp (by omega)
      have hu : ∀ i, i < zz_n z → nI j = nI i → j = i := fun i hi q => (nI_eq (by omega) (by omega)).mp q
      refine nw_iload_n X d_Top_conjugate_18 rfl (lv_at hl 1 rfl) ?_
      refine nw_iload_n X d_Top_conjugate_19 rfl (lv_at hl 2 rfl) ?_
      refine lv_icmp_ge (tgt := 35) X.1.1 X.1.2.1 d_Top_conjugate_20 (by decide) (fun hc2 => ?_) (fun hc2 => ?_)
      · skip
        have hno : ¬ sp_cg (σ (0, 0) 6) (zz_n z) (σ (3, 0)) x (nI j) t := fun ⟨_, i, j9, v, h1, h2, h3, h4, h5⟩ => by
          have e := hu j9 h2 h4
          subst e
          rw [h3] at hc2
          exact nI_ge h1 (by omega) hc2
        refine nw_iconst X 0 d_Top_conjugate_35 (by decide) ?_
        exact hret 0 _ _ _ _ _ d_Top_conjugate_36 V (by decide) ⟨hC, (cn_f hno).symm, cg_no hno, fun _ _ => rfl⟩
      · skip
        refine nw_aload_n X d_Top_conjugate_23 rfl (lv_at hl 0 rfl) ?_
        refine gf_Top_18 X V (hz (0, 0) rfl) d_Top_conjugate_24 ?_
        refine nw_iload_n X d_Top_conjugate_27 rfl (lv_at hl 1 rfl) ?_
        refine nw_iload_n X d_Top_conjugate_28 rfl (lv_at hl 3 rfl) ?_
        refine hw_calli X V (hz (1, 0) rfl) rfl rfl (cm_Col_isWordBehind l z σ hz hS x t) cs_Top_69 (by decide) rfl hl.1 rfl (Nat.le_of_ble_eq_true rfl) (by decide) d_Top_conjugate_29 (fun r σ' H locs V hr => ?_)
        obtain ⟨b3, hb3, rfl, hσ, hbp3⟩ := hr
        rw [hσ] at V
        clear hσ
        have hB := V.1.2.2
        refine nw_if_ne X (tgt := 37) d_Top_conjugate_32 (by decide) (by omega) (fun hc3 => ?_) (fun hc3 => ?_)
        · skip
          obtain ⟨i, v, hi, rfl, hv, rfl⟩ := hbp3.mp (by omega)
          have hv2 : v < 2147483648 := by have := hB (3, 0) i; omega
          have hij : i < j := Nat.lt_of_not_le fun q => hc2 (nI_le q (by omega))
          have hy : sp_cg (σ (0, 0) 6) (zz_n z) (σ (3, 0)) (nI i) (nI j) (nI v) := ⟨by omega, i, j, v, hij, hj, rfl, rfl, hv, rfl⟩
          refine nw_aload_n X d_Top_conjugate_37 rfl (lv_at hl 0 rfl) ?_
          refine gf_Top_18 X V (hz (0, 0) rfl) d_Top_conjugate_38 ?_
          refine nw_iload_n X d_Top_conjugate_41 rfl (lv_at hl 1 rfl) ?_
          refine nw_iload_n X d_Top_conjugate_42 rfl (lv_at hl 2 rfl) ?_
          refine nw_iload_n X d_Top_conjugate_43 rfl (lv_at hl 3 rfl) ?_
          refine hw_callv X V (hz (1, 0) rfl) rfl rfl (cm_Col_setConjugate l z σ hz hS i j v hi hj hv2) cs_Top_77 (by decide) rfl hl.1 rfl (Nat.le_of_ble_eq_true rfl) (by decide) d_Top_conjugate_44 (fun σ' H locs V hr => ?_)
          subst hr
          refine nw_iconst X 1 d_Top_conjugate_47 (by decide) ?_
          exact hret 1 _ _ _ _ _ d_Top_conjugate_48 V (by decide) ⟨cs_cgj hC hf0 hv, (cn_t hy).symm, cg_eq (by omega) hy hi hj hv2, fun u hu => hw_up_k _ _ _ (fun e => hu (by rw [e]))⟩
        · skip
          have hno : ¬ sp_cg (σ (0, 0) 6) (zz_n z) (σ (3, 0)) x (nI j) t := fun ⟨_, i, j9, v, h1, h2, h3, h4, h5, h6⟩ => by have := hbp3.mpr ⟨i, v, by omega, h3, h5, h6⟩; omega
          refine nw_iconst X 0 d_Top_conjugate_35 (by decide) ?_
          exact hret 0 _ _ _ _ _ d_Top_conjugate_36 V (by decide) ⟨hC, (cn_f hno).symm, cg_no hno, fun _ _ => rfl⟩
set_option maxHeartbeats 4000000 in
set_option maxRecDepth 20000 in
theorem cm_Top_fillWhole (l : Launch) (z : zz_Z) (σ : hw_M) (hz : ∀ k, zz_k (zz_n z) k → zz_O z k) (hL : lo_ok z σ 0) (q : List Nat) (hE : es_ok z σ 4 q) : Met l y_Top_fillWhole (hw_c y_Top_fillWhole b_Top_fillWhole 2 none) (hw_r 3) (va_Pc [.ref (zz_A z (0, 0))] (zz_B z σ)) (va_Qv (fun σ' => ∃ q' c', sg_gp z (gr_p z σ) σ' 4 q' c' ∧ (∀ x, x ∈ q' ↔ x < zz_N z) ∧ sg_fr 4 σ σ') (zz_B z) (zz_F z)) 0 0 (zz_F z) := by
  refine hw_metv (post := (fun σ' => ∃ q' c', sg_gp z (gr_p z σ) σ' 4 q' c' ∧ (∀ x, x ∈ q' ↔ x < zz_N z) ∧ sg_fr 4 σ σ')) (by decide) (Nat.le_of_ble_eq_true rfl) ?_
  intro p e s m args below meth c ls Q X hret V hl
  have hl : lv_has ls 2 [(0, .ref (zz_A z (0, 0)))] := hl
  have hB := V.1.2.2
  obtain ⟨⟨hn7, hN, hn, hNe, hw, hsz, hln⟩, hk, ht⟩ := id hL
  have g := lo_gp hL
  refine nw_aload_n X d_Top_fillWhole_0 rfl (lv_at hl 0 rfl) ?_
  refine gf_Top_31 X V (hz (0, 0) rfl) d_Top_fillWhole_1 ?_
  refine hw_callv X V (hz (12, 4) (show 4 < 7 by first | assumption | omega)) rfl rfl (cm_Sub_reset l z σ hz 4 (by decide) hN q hE g.pos) cs_Top_85 (by decide) rfl hl.1 rfl (Nat.le_of_ble_eq_true rfl) (by decide) d_Top_fillWhole_4 (fun σ0 H locs V hr => ?_)
  obtain ⟨e0, f0⟩ := hr
  refine nw_iconst X 0 d_Top_fillWhole_7 (by decide) ?_
  refine nw_istore_n X (lv' := [(1, _), (0, _)]) d_Top_fillWhole_8 rfl hl (by decide) rfl (fun ls hl => ?_)
  have LP9 : ∀ (d i : Nat) (q1 c1 : List Nat) (σ1 : hw_M) (H : Heap) (locs : List Loc) (ls : Array Slot), zz_n z - i < d → (i ≤ zz_n z) → (sg_fr 4 σ σ1) → (sg_gp z (gr_p z σ) σ1 4 q1 c1) → (∀ t, t < i → σ (3, 0) t ∈ q1) → zz_V z σ1 s.heap H locs →  lv_has ls 2 [(0, .ref (zz_A z (0, 0))), (1, .int (nI i))] →  W p l e (hw_r 3) s m args below meth c H locs 0 0 Q (F0 m 9 ls []) := by
    intro d
    induction d with
    | zero => intro i q1 c1 σ1 H locs ls hd; exact absurd hd (Nat.not_lt_zero _)
    | succ d IH9 =>
      intro i q1 c1 σ1 H locs ls hd hin hfr hG1 hall V hl
      have hB := V.1.2.2
      have hLo := sg_lo hL hfr
      have e3 : σ1 (3, 0) = σ (3, 0) := hfr (3, 0) (Or.inr (Or.inl (by decide)))
      refine nw_iload_n X d_Top_fillWhole_9 rfl (lv_at hl 1 rfl) ?_
      refine nw_aload_n X d_Top_fillWhole_10 rfl (lv_at hl 0 rfl) ?_
      refine gf_Top_18 X V (hz (0, 0) rfl) d_Top_fillWhole_11 ?_
      refine hw_calli X V (hz (1, 0) rfl) rfl rfl (cm_Col_letterCount l z σ1 hz hLo.1.1) cs_Top_58 (by decide) rfl hl.1 rfl (Nat.le_of_ble_eq_true rfl) (by decide) d_Top_fillWhole_14 (fun r σ' H locs V hr => ?_)
      obtain ⟨hσ, rfl⟩ := hr
      rw [hσ] at V
      clear hσ
      have hB := V.1.2.2
      refine nw_icmp_ge X (tgt := 41) d_Top_fillWhole_17 (by decide) (by first | assumption | omega) (by first | assumption | omega) (fun hi => ?_) (fun hi => ?_)
      · skip
        exact hret _ _ _ _ _ d_Top_fillWhole_41 V ⟨q1, c1, hG1, sg_full hL hG1 (fun t ht => hall t (by omega)), hfr⟩
      · skip
        refine nw_aload_n X d_Top_fillWhole_20 rfl (lv_at hl 0 rfl) ?_
        refine gf_Top_31 X V (hz (0, 0) rfl) d_Top_fillWhole_21 ?_
        refine nw_aload_n X d_Top_fillWhole_24 rfl (lv_at hl 0 rfl) ?_
        refine gf_Top_18 X V (hz (0, 0) rfl) d_Top_fillWhole_25 ?_
        refine nw_iload_n X d_Top_fillWhole_28 rfl (lv_at hl 1 rfl) ?_
        refine hw_calli X V (hz (1, 0) rfl) rfl rfl (cm_Col_letter l z σ1 hz hLo.1.1 i hi) cs_Top_65 (by decide) rfl hl.1 rfl (Nat.le_of_ble_eq_true rfl) (by decide) d_Top_fillWhole_29 (fun r σ' H locs V hr => ?_)
        obtain ⟨hσ, rfl⟩ := hr
        rw [hσ] at V
        clear hσ
        have hB := V.1.2.2
        rw [e3]
        refine hw_callv X V (hz (12, 4) (show 4 < 7 by first | assumption | omega)) rfl rfl (cm_Sub_include l z σ1 hz 4 (by decide) hLo.1 q1 c1 (by rw [hLo.2]; exact hG1) _ (by rw [hsz]; exact hw.ltN hi)) cs_Top_121 (by decide) rfl hl.1 rfl (Nat.le_of_ble_eq_true rfl) (by decide) d_Top_fillWhole_32 (fun σ2 H locs V hr => ?_)
        obtain ⟨q2, c2, hG2, hin2, hc2, hf2⟩ := hr
        rw [hLo.2] at hG2
        have hB := V.1.2.2
        have hc12 : ∀ b, b ∈ c1 → b ∈ c2 := fun b hb => by rcases hc2 with e | e <;> rw [e]; exact hb; exact List.mem_append_left _ hb
        have hm := sg_mono hG1 hG2 hc12
        refine nw_iinc X (lv' := [(1, _), (0, _)]) (k := 1) 1 d_Top_fillWhole_35 hl rfl (by decide) (by decide) rfl (fun ls hl => ?_)
        refine nw_goto X (tgt := 9) d_Top_fillWhole_38 (by decide) ?_
        exact IH9 (i + 1) q2 c2 _ _ _ _ (by omega) hi (hfr.tr hf2) hG2 (fun t ht => by by_cases e : t = i; rw [e]; exact hin2; exact hm _ (hall t (by omega))) V (lv_sub hl [1, 0] rfl)
  exact LP9 (zz_n z + 1) 0 [0] [] _ _ _ _ (by omega) (Nat.zero_le _) f0 (sg_gp0 g e0) (fun t ht => absurd ht (Nat.not_lt_zero _)) V (lv_sub hl [1, 0] rfl)
set_option maxHeartbeats 4000000 in
set_option maxRecDepth 20000 in
theorem cm_Top_fix (l : Launch) (z : zz_Z) (σ : hw_M) (hz : ∀ k, zz_k (zz_n z) k → zz_O z k) (S : Nat → Nat → Prop) (hC : cs_ok z σ S) : Met l y_Top_fix (hw_c y_Top_fix b_Top_fix 2 (some .boolean)) (hw_r 4) (va_Pc [.ref (zz_A z (0, 0))] (zz_B z σ)) (va_Qi (fun r σ' => ∃ b, b < 2 ∧ r = nI b ∧ (fun b σ' => b = cn_n (σ (0, 0) 6 = 1 ∨ mo_k z σ (zz_n z)) 1 0 ∧ cs_ok z σ' (fun s v => (σ (0, 0) 6 = 1 ∧ S s v) ∨ (σ (0, 0) 6 ≠ 1 ∧ v = 0)) ∧ σ' (0, 0) 6 = b ∧ (∀ u : hw_P, u.1 < 8 → u.1 ≠ 0 → σ' u = σ u) ∧ ∀ u : hw_P, 16 < u.1 → σ' u = σ u) b σ') (zz_B z) (zz_F z)) 0 0 (zz_F z) := by
  refine hw_metz (post := (fun b σ' => b = cn_n (σ (0, 0) 6 = 1 ∨ mo_k z σ (zz_n z)) 1 0 ∧ cs_ok z σ' (fun s v => (σ (0, 0) 6 = 1 ∧ S s v) ∨ (σ (0, 0) 6 ≠ 1 ∧ v = 0)) ∧ σ' (0, 0) 6 = b ∧ (∀ u : hw_P, u.1 < 8 → u.1 ≠ 0 → σ' u = σ u) ∧ ∀ u : hw_P, 16 < u.1 → σ' u = σ u)) (by decide) (Nat.le_of_ble_eq_true rfl) ?_
  intro p e s m args below meth c ls Q X hret V hl
  have hl : lv_has ls 2 [(0, .ref (zz_A z (0, 0)))] := hl
  have hB := V.1.2.2
  obtain ⟨hS, hR, hf2, hes, hfx⟩ := id hC
  obtain ⟨hn7, hN, hn, hNe, hw, hsz, hln⟩ := id hS
  refine nw_aload_n X d_Top_fix_0 rfl (lv_at hl 0 rfl) ?_
  refine gf_Top_54 X V (hz (0, 0) rfl) d_Top_fix_1 ?_
  refine nw_if_ne X (tgt := 48) d_Top_fix_4 (by decide) (by omega) (fun hc => ?_) (fun hc => ?_)
  · skip
    have hf1 : σ (0, 0) 6 = 1 := by omega
    have hcc : σ (0, 0) 6 = cn_n (σ (0, 0) 6 = 1 ∨ mo_k z σ (zz_n z)) 1 0 := by rw [cn_t (Or.inl hf1)]; exact hf1
    refine nw_aload_n X d_Top_fix_48 rfl (lv_at hl 0 rfl) ?_
    refine gf_Top_54 X V (hz (0, 0) rfl) d_Top_fix_49 ?_
    exact hret _ _ _ _ _ _ d_Top_fix_52 V hf2 ⟨hcc, cs_ext hC (fun _ s _ v => ⟨fun h => Or.inl ⟨hf1, h⟩, fun h => h.elim (fun q => q.2) (fun q => absurd hf1 q.1)⟩), rfl, fun _ _ _ => rfl, fun _ _ => rfl⟩
  · skip
    have hf0 := hc
    refine nw_aload_n X d_Top_fix_7 rfl (lv_at hl 0 rfl) ?_
    refine gf_Top_18 X V (hz (0, 0) rfl) d_Top_fix_8 ?_
    refine hw_calli X V (hz (1, 0) rfl) rfl rfl (cm_Col_build l z σ hz hS hR) cs_Top_81 (by decide) rfl hl.1 rfl (Nat.le_of_ble_eq_true rfl) (by decide) d_Top_fix_11 (fun r σ1 H locs V hr => ?_)
    obtain ⟨b1, hb1, rfl, f1, hk1, hl1⟩ := hr
    have hB := V.1.2.2
    have hS1 := bl_st f1 hS
    have hR1 := rl_keep hR f1
    have e0 : σ1 (0, 0) = σ (0, 0) := f1 (0, 0) (by decide) (by decide)
    have hes1 : ∀ j, j < 8 → ∃ q, es_ok z σ1 j q := fun j hj => by
      obtain ⟨q, hq⟩ := hes j hj
      exact ⟨q, es_keep hq (f1 (13, j) (by show (13 : Nat) ≠ 8; decide) (by show (13 : Nat) ≠ 10; decide)) (f1 (14, j) (by show (14 : Nat) ≠ 8; decide) (by show (14 : Nat) ≠ 10; decide)) (f1 (15, j) (by show (15 : Nat) ≠ 8; decide) (by show (15 : Nat) ≠ 10; decide))⟩
    refine nw_if_eq X (tgt := 48) d_Top_fix_14 (by decide) (by omega) (fun hc1 => ?_) (fun hc1 => ?_)
    · skip
      have hno : ¬ (σ (0, 0) 6 = 1 ∨ mo_k z σ (zz_n z)) := fun h => h.elim (fun q => by omega) (fun q => by have := hk1.mpr q; omega)
      have hz9 : σ1 (0, 0) 6 = 0 := by rw [e0]; exact hf0
      refine nw_aload_n X d_Top_fix_48 rfl (lv_at hl 0 rfl) ?_
      refine gf_Top_54 X V (hz (0, 0) rfl) d_Top_fix_49 ?_
      exact hret _ _ _ _ _ _ d_Top_fix_52 V (by omega) ⟨by rw [cn_f hno]; exact hz9, cs_open hS1 hR1 hz9 hes1, rfl, fun u h1 h2 => f1 u (fun e => by omega) (fun e => by omega), fun u hu => f1 u (fun e => by omega) (fun e => by omega)⟩
    · skip
      have hb11 : b1 = 1 := by omega
      have hL1 := hl1 hb11
      have g1 := lo_gp hL1
      refine nw_aload_n X d_Top_fix_17 rfl (lv_at hl 0 rfl) ?_
      refine nw_iconst X 1 d_Top_fix_18 (by decide) ?_
      refine pf_Top_54 X V (hz (0, 0) rfl) (by decide) d_Top_fix_19 (fun H locs V => ?_)
      have hB := V.1.2.2
      refine nw_iconst X 0 d_Top_fix_22 (by decide) ?_
      refine nw_istore_n X (lv' := [(1, _), (0, _)]) d_Top_fix_23 rfl hl (by decide) rfl (fun ls hl => ?_)
      have LP24 : ∀ (d k : Nat) (σ2 : hw_M) (H : Heap) (locs : List Loc) (ls : Array Slot), 4 - k < d → (k ≤ 4) → (σ2 (0, 0) 6 = 1) → (∀ u : hw_P, u.1 ≠ 0 → (u.1 < 12 ∨ 16 < u.1) → σ2 u = σ1 u) → (∀ j, j < 8 → ∃ q, es_ok z σ2 j q) → (∀ s, s < k → sg_ok z σ2 s [0] []) → zz_V z σ2 s.heap H locs →  lv_has ls 2 [(0, .ref (zz_A z (0, 0))), (1, .int (nI k))] →  W p l e (hw_r 4) s m args below meth c H locs 0 0 Q (F0 m 24 ls []) := by
        intro d
        induction d with
        | zero => intro k σ2 H locs ls hd; exact absurd hd (Nat.not_lt_zero _)
        | succ d IH24 =>
          intro k σ2 H locs ls hd hk4 hfl hfr hes2 hz2 V hl
          have hB := V.1.2.2
          refine nw_iload_n X d_Top_fix_24 rfl (lv_at hl 1 rfl) ?_
          refine nw_iconst X 4 d_Top_fix_25 (by decide) ?_
          refine nw_icmp_ge X (tgt := 44) d_Top_fix_26 (by decide) (by omega) (by decide) (fun hc4 => ?_) (fun hc4 => ?_)
          · skip
            have hL2 := (lo_keep hL1 (σ1 := σ2) (fun u h0 h1 _ _ => hfr u (by omega) (Or.inl h1))).1
            obtain ⟨q4, hq4⟩ := hes2 4 (by decide)
            refine nw_aload_n X d_Top_fix_44 rfl (lv_at hl 0 rfl) ?_
            refine hw_callv X V (hz (0, 0) rfl) rfl rfl (cm_Top_fillWhole l z σ2 hz hL2 q4 hq4) cs_Top_88 (by decide) rfl hl.1 rfl (Nat.le_of_ble_eq_true rfl) (by decide) d_Top_fix_45 (fun σ3 H locs V hr => ?_)
            obtain ⟨qw, bw, hGw, hall, f3⟩ := hr
            have hB := V.1.2.2
            have hfl3 : σ3 (0, 0) 6 = 1 := by rw [f3 (0, 0) (Or.inr (Or.inl (by decide)))]; exact hfl
            refine nw_aload_n X d_Top_fix_48 rfl (lv_at hl 0 rfl) ?_
            refine gf_Top_54 X V (hz (0, 0) rfl) d_Top_fix_49 ?_
            exact hret _ _ _ _ _ _ d_Top_fix_52 V (by omega) (fx_end hC hf0 (hk1.mp hb11) f1 hL1 hL2 hfl hfr hes2 (fun s hs => hz2 s (by omega)) hGw hall f3 hfl3)
          · skip
            obtain ⟨q9, hq9⟩ := hes2 k (by omega)
            refine nw_aload_n X d_Top_fix_29 rfl (lv_at hl 0 rfl) ?_
            refine gf_Top_24 X V (hz (0, 0) rfl) d_Top_fix_30 ?_
            refine nw_iload_n X d_Top_fix_33 rfl (lv_at hl 1 rfl) ?_
            refine hw_aald X V (hz (11, 0) rfl) 3 rfl rfl rfl hc4 (by decide) rfl d_Top_fix_34 ?_
            refine hw_callv X V (hz (12, k) (show k < 7 by first | assumption | omega)) rfl rfl (cm_Sub_reset l z σ2 hz k (by omega) hN q9 hq9 g1.pos) cs_Top_85 (by decide) rfl hl.1 rfl (Nat.le_of_ble_eq_true rfl) (by decide) d_Top_fix_35 (fun σ3 H locs V hr => ?_)
            obtain ⟨e3, f3⟩ := hr
            refine nw_iinc X (lv' := [(1, _), (0, _)]) (k := 1) 1 d_Top_fix_38 hl rfl (by decide) (by decide) rfl (fun ls hl => ?_)
            refine nw_goto X (tgt := 24) d_Top_fix_41 (by decide) ?_
            exact IH24 (k + 1) _ _ _ _ (by omega) hc4 (by rw [f3 (0, 0) (Or.inr (Or.inl (by decide)))]; exact hfl) (fun u h1 h2 => (f3 u (Or.inr h2)).trans (hfr u h1 h2)) (es_all hes2 f3 ⟨_, e3.1⟩) (fun s hs => by by_cases e : s = k; rw [e]; exact e3; exact sg_oth (hz2 s (by omega)) f3 e) V (lv_sub hl [1, 0] rfl)
      exact LP24 (4 + 1) 0 _ _ _ _ (by omega) (Nat.zero_le _) (hw_up_s _ _ _ _) (fun u h1 _ => hw_up_k _ _ _ (fun e => h1 (by rw [e]))) (fun j hj => by
        obtain ⟨q, hq⟩ := hes1 j hj
        exact ⟨q, es_keep hq (hw_up_k _ _ _ (hw_ne (by decide))) (hw_up_k _ _ _ (hw_ne (by decide))) (hw_up_k _ _ _ (hw_ne (by decide)))⟩) (fun s hs => absurd hs (Nat.not_lt_zero _)) V (lv_sub hl [1, 0] rfl)
set_option maxHeartbeats 4000000 in
set_option maxRecDepth 20000 in
theorem cm_Top_count (l : Launch) (z : zz_Z) (σ : hw_M) (hz : ∀ k, zz_k (zz_n z) k → zz_O z k) (S : Nat → Nat → Prop) (hC : cs_ok z σ S) (x : Int32) : Met l y_Top_count (hw_c y_Top_count b_Top_count 2 (some .int)) (hw_r 2) (va_Pc [.ref (zz_A z (0, 0)), .int x] (zz_B z σ)) (va_Qi (fun r σ' => σ' = σ ∧ an_o (σ (0, 0) 6 = 1 ∧ el_i 4 x) (gp_cd (zz_N z) (S (el_v x))) r) (zz_B z) (zz_F z)) 0 0 (zz_F z) := by
  refine hw_meti (post := (fun r σ' => σ' = σ ∧ an_o (σ (0, 0) 6 = 1 ∧ el_i 4 x) (gp_cd (zz_N z) (S (el_v x))) r)) (by decide) (Nat.le_of_ble_eq_true rfl) ?_
  intro p e s m args below meth c ls Q X hret V hl
  have hl : lv_has ls 2 [(0, .ref (zz_A z (0, 0))), (1, .int x)] := hl
  have hB := V.1.2.2
  obtain ⟨hS, hR, hf2, hes, hfx⟩ := id hC
  obtain ⟨hn7, hN, hn, hNe, hw, hsz, hln⟩ := id hS
  refine nw_aload_n X d_Top_count_0 rfl (lv_at hl 0 rfl) ?_
  refine nw_iload_n X d_Top_count_1 rfl (lv_at hl 1 rfl) ?_
  refine hw_calli X V (hz (0, 0) rfl) rfl rfl (cm_Top_isPlace l z σ hz S hC x) cs_Top_115 (by decide) rfl hl.1 rfl (Nat.le_of_ble_eq_true rfl) (by decide) d_Top_count_2 (fun r σ' H locs V hr => ?_)
  obtain ⟨b1, hb1, rfl, hσ, hbp1⟩ := hr
  rw [hσ] at V
  clear hσ
  have hB := V.1.2.2
  refine nw_if_eq X (tgt := 20) d_Top_count_5 (by decide) (by omega) (fun hc => ?_) (fun hc => ?_)
  · skip
    refine nw_iconstv X (-1) d_Top_count_20 (by decide) ?_
    exact hret _ _ _ _ _ _ d_Top_count_21 V ⟨rfl, fun h => absurd (hbp1.mpr h) (by omega), fun _ => rfl⟩
  · skip
    obtain ⟨hf1, s9, hs, rfl⟩ := hbp1.mp (by omega)
    obtain ⟨hL, hpl, qw, bw, hGw, hwl⟩ := hfx hf1
    have g := lo_gp hL
    obtain ⟨q, b9, hG, hT⟩ := hpl s9 hs
    have ev : el_v (nI s9) = s9 := el_nv (by omega) hs
    refine nw_aload_n X d_Top_count_8 rfl (lv_at hl 0 rfl) ?_
    refine gf_Top_24 X V (hz (0, 0) rfl) d_Top_count_9 ?_
    refine nw_iload_n X d_Top_count_12 rfl (lv_at hl 1 rfl) ?_
    refine hw_aald X V (hz (11, 0) rfl) 3 rfl rfl rfl hs (by decide) rfl d_Top_count_13 ?_
    refine hw_calli X V (hz (12, s9) (show s9 < 7 by first | assumption | omega)) rfl rfl (cm_Sub_amount l z σ hz s9 (by omega) hN q hG.1.1) cs_Top_118 (by decide) rfl hl.1 rfl (Nat.le_of_ble_eq_true rfl) (by decide) d_Top_count_14 (fun r σ' H locs V hr => ?_)
    obtain ⟨hσ, rfl⟩ := hr
    rw [hσ] at V
    clear hσ
    have hB := V.1.2.2
    refine nw_goto X (tgt := 21) d_Top_count_17 (by decide) ?_
    exact hret _ _ _ _ _ _ d_Top_count_21 V ⟨rfl, fun _ => by rw [ev, cs_cnt hG hT], fun h => absurd ⟨hf1, s9, hs, rfl⟩ h⟩
set_option maxHeartbeats 4000000 in
set_option maxRecDepth 20000 in
theorem cm_Top_has (l : Launch) (z : zz_Z) (σ : hw_M) (hz : ∀ k, zz_k (zz_n z) k → zz_O z k) (S : Nat → Nat → Prop) (hC : cs_ok z σ S) (x y : Int32) : Met l y_Top_has (hw_c y_Top_has b_Top_has 3 (some .boolean)) (hw_r 2) (va_Pc [.ref (zz_A z (0, 0)), .int x, .int y] (zz_B z σ)) (va_Qi (fun r σ' => ∃ b, b < 2 ∧ r = nI b ∧ (fun b σ' => σ' = σ ∧ b = cn_n ((σ (0, 0) 6 = 1 ∧ el_i 4 x ∧ el_i (zz_N z) y) ∧ S (el_v x) (el_v y)) 1 0) b σ') (zz_B z) (zz_F z)) 0 0 (zz_F z) := by
  refine hw_metz (post := (fun b σ' => σ' = σ ∧ b = cn_n ((σ (0, 0) 6 = 1 ∧ el_i 4 x ∧ el_i (zz_N z) y) ∧ S (el_v x) (el_v y)) 1 0)) (by decide) (Nat.le_of_ble_eq_true rfl) ?_
  intro p e s m args below meth c ls Q X hret V hl
  have hl : lv_has ls 3 [(0, .ref (zz_A z (0, 0))), (1, .int x), (2, .int y)] := hl
  have hB := V.1.2.2
  obtain ⟨hS, hR, hf2, hes, hfx⟩ := id hC
  obtain ⟨hn7, hN, hn, hNe, hw, hsz, hln⟩ := id hS
  refine nw_aload_n X d_Top_has_0 rfl (lv_at hl 0 rfl) ?_
  refine nw_iload_n X d_Top_has_1 rfl (lv_at hl 1 rfl) ?_
  refine hw_calli X V (hz (0, 0) rfl) rfl rfl (cm_Top_isPlace l z σ hz S hC x) cs_Top_115 (by decide) rfl hl.1 rfl (Nat.le_of_ble_eq_true rfl) (by decide) d_Top_has_2 (fun r σ' H locs V hr => ?_)
  obtain ⟨b1, hb1, rfl, hσ, hbp1⟩ := hr
  rw [hσ] at V
  clear hσ
  have hB := V.1.2.2
  refine nw_if_eq X (tgt := 33) d_Top_has_5 (by decide) (by omega) (fun hc1 => ?_) (fun hc1 => ?_)
  · skip
    have hno : ¬ (σ (0, 0) 6 = 1 ∧ el_i 4 x ∧ el_i (zz_N z) y) := fun h => by have := hbp1.mpr ⟨h.1, h.2.1⟩; omega
    have hno2 : ¬ ((σ (0, 0) 6 = 1 ∧ el_i 4 x ∧ el_i (zz_N z) y) ∧ S (el_v x) (el_v y)) := fun h => hno h.1
    refine nw_iconst X 0 d_Top_has_33 (by decide) ?_
    exact hret 0 _ _ _ _ _ d_Top_has_34 V (by decide) ⟨rfl, (cn_f hno2).symm⟩
  · skip
    refine nw_aload_n X d_Top_has_8 rfl (lv_at hl 0 rfl) ?_
    refine nw_iload_n X d_Top_has_9 rfl (lv_at hl 2 rfl) ?_
    refine hw_calli X V (hz (0, 0) rfl) rfl rfl (cm_Top_isElement l z σ hz S hC y) cs_Top_91 (by decide) rfl hl.1 rfl (Nat.le_of_ble_eq_true rfl) (by decide) d_Top_has_10 (fun r σ' H locs V hr => ?_)
    obtain ⟨b2, hb2, rfl, hσ, hbp2⟩ := hr
    rw [hσ] at V
    clear hσ
    have hB := V.1.2.2
    refine nw_if_eq X (tgt := 33) d_Top_has_13 (by decide) (by omega) (fun hc2 => ?_) (fun hc2 => ?_)
    · skip
      have hno : ¬ (σ (0, 0) 6 = 1 ∧ el_i 4 x ∧ el_i (zz_N z) y) := fun h => by have := hbp2.mpr ⟨h.1, h.2.2⟩; omega
      have hno2 : ¬ ((σ (0, 0) 6 = 1 ∧ el_i 4 x ∧ el_i (zz_N z) y) ∧ S (el_v x) (el_v y)) := fun h => hno h.1
      refine nw_iconst X 0 d_Top_has_33 (by decide) ?_
      exact hret 0 _ _ _ _ _ d_Top_has_34 V (by decide) ⟨rfl, (cn_f hno2).symm⟩
    · skip
      obtain ⟨hf1, s9, hs, rfl⟩ := hbp1.mp (by omega)
      obtain ⟨hL, hpl, qw, bw, hGw, hwl⟩ := hfx hf1
      have g := lo_gp hL
      obtain ⟨q, b9, hG, hT⟩ := hpl s9 hs
      have ev : el_v (nI s9) = s9 := el_nv (by omega) hs
      obtain ⟨-, a, ha, rfl⟩ := hbp2.mp (by omega)
      have ev2 : el_v (nI a) = a := el_nv (by omega) ha
      refine nw_aload_n X d_Top_has_16 rfl (lv_at hl 0 rfl) ?_
      refine gf_Top_24 X V (hz (0, 0) rfl) d_Top_has_17 ?_
      refine nw_iload_n X d_Top_has_20 rfl (lv_at hl 1 rfl) ?_
      refine hw_aald X V (hz (11, 0) rfl) 3 rfl rfl rfl hs (by decide) rfl d_Top_has_21 ?_
      refine nw_iload_n X d_Top_has_22 rfl (lv_at hl 2 rfl) ?_
      refine hw_calli X V (hz (12, s9) (show s9 < 7 by first | assumption | omega)) rfl rfl (cm_Sub_holds l z σ hz s9 (by omega) hN q hG.1.1 a ha) cs_Top_135 (by decide) rfl hl.1 rfl (Nat.le_of_ble_eq_true rfl) (by decide) d_Top_has_23 (fun r σ' H locs V hr => ?_)
      obtain ⟨b3, hb3, rfl, hσ, hbp3⟩ := hr
      rw [hσ] at V
      clear hσ
      have hB := V.1.2.2
      refine nw_if_eq X (tgt := 33) d_Top_has_26 (by decide) (by omega) (fun hc3 => ?_) (fun hc3 => ?_)
      · skip
        have hno2 : ¬ ((σ (0, 0) 6 = 1 ∧ el_i 4 (nI s9) ∧ el_i (zz_N z) (nI a)) ∧ S (el_v (nI s9)) (el_v (nI a))) := fun h => by
          have h2 := h.2
          rw [ev, ev2] at h2
          rw [if_pos ((hT a).mpr h2)] at hbp3
          omega
        refine nw_iconst X 0 d_Top_has_33 (by decide) ?_
        exact hret 0 _ _ _ _ _ d_Top_has_34 V (by decide) ⟨rfl, (cn_f hno2).symm⟩
      · skip
        have hin : a ∈ q := Classical.byContradiction fun h => hc3 (by rw [hbp3, if_neg h])
        refine nw_iconst X 1 d_Top_has_29 (by decide) ?_
        refine nw_goto X (tgt := 34) d_Top_has_30 (by decide) ?_
        exact hret 1 _ _ _ _ _ d_Top_has_34 V (by decide) ⟨rfl, (cn_t ⟨⟨hf1, ⟨s9, hs, rfl⟩, a, ha, rfl⟩, by rw [ev, ev2]; exact (hT a).mp hin⟩).symm⟩
set_option maxHeartbeats 4000000 in
set_option maxRecDepth 20000 in
theorem cm_Top_clear (l : Launch) (z : zz_Z) (σ : hw_M) (hz : ∀ k, zz_k (zz_n z) k → zz_O z k) (S : Nat → Nat → Prop) (hC : cs_ok z σ S) (x : Int32) : Met l y_Top_clear (hw_c y_Top_clear b_Top_clear 2 (some .int)) (hw_r 2) (va_Pc [.ref (zz_A z (0, 0)), .int x] (zz_B z σ)) (va_Qi (fun r σ' => cs_ok z σ' (sa_t (σ (0, 0) 6 = 1 ∧ el_i 4 x) (el_v x) (fun v => v = 0) S) ∧ cs_q σ σ' ∧ an_o (σ (0, 0) 6 = 1 ∧ el_i 4 x) 1 r) (zz_B z) (zz_F z)) 0 0 (zz_F z) := by
  refine hw_meti (post := (fun r σ' => cs_ok z σ' (sa_t (σ (0, 0) 6 = 1 ∧ el_i 4 x) (el_v x) (fun v => v = 0) S) ∧ cs_q σ σ' ∧ an_o (σ (0, 0) 6 = 1 ∧ el_i 4 x) 1 r)) (by decide) (Nat.le_of_ble_eq_true rfl) ?_
  intro p e s m args below meth c ls Q X hret V hl
  have hl : lv_has ls 2 [(0, .ref (zz_A z (0, 0))), (1, .int x)] := hl
  have hB := V.1.2.2
  obtain ⟨hS, hR, hf2, hes, hfx⟩ := id hC
  obtain ⟨hn7, hN, hn, hNe, hw, hsz, hln⟩ := id hS
  refine nw_aload_n X d_Top_clear_0 rfl (lv_at hl 0 rfl) ?_
  refine nw_iload_n X d_Top_clear_1 rfl (lv_at hl 1 rfl) ?_
  refine hw_calli X V (hz (0, 0) rfl) rfl rfl (cm_Top_isPlace l z σ hz S hC x) cs_Top_115 (by decide) rfl hl.1 rfl (Nat.le_of_ble_eq_true rfl) (by decide) d_Top_clear_2 (fun r σ' H locs V hr => ?_)
  obtain ⟨b1, hb1, rfl, hσ, hbp1⟩ := hr
  rw [hσ] at V
  clear hσ
  have hB := V.1.2.2
  refine nw_if_ne X (tgt := 10) d_Top_clear_5 (by decide) (by omega) (fun hc => ?_) (fun hc => ?_)
  · skip
    obtain ⟨hf1, s9, hs, rfl⟩ := hbp1.mp (by omega)
    obtain ⟨hL, hpl, qw, bw, hGw, hwl⟩ := hfx hf1
    have g := lo_gp hL
    obtain ⟨q, b9, hG, hT⟩ := hpl s9 hs
    have ev : el_v (nI s9) = s9 := el_nv (by omega) hs
    refine nw_aload_n X d_Top_clear_10 rfl (lv_at hl 0 rfl) ?_
    refine gf_Top_24 X V (hz (0, 0) rfl) d_Top_clear_11 ?_
    refine nw_iload_n X d_Top_clear_14 rfl (lv_at hl 1 rfl) ?_
    refine hw_aald X V (hz (11, 0) rfl) 3 rfl rfl rfl hs (by decide) rfl d_Top_clear_15 ?_
    refine hw_callv X V (hz (12, s9) (show s9 < 7 by first | assumption | omega)) rfl rfl (cm_Sub_reset l z σ hz s9 (by omega) hN q hG.1.1 g.pos) cs_Top_85 (by decide) rfl hl.1 rfl (Nat.le_of_ble_eq_true rfl) (by decide) d_Top_clear_16 (fun σ1 H locs V hr => ?_)
    obtain ⟨e1, f1⟩ := hr
    have hB := V.1.2.2
    refine nw_aload_n X d_Top_clear_19 rfl (lv_at hl 0 rfl) ?_
    refine gf_Top_24 X V (hz (0, 0) rfl) d_Top_clear_20 ?_
    refine nw_iload_n X d_Top_clear_23 rfl (lv_at hl 1 rfl) ?_
    refine hw_aald X V (hz (11, 0) rfl) 3 rfl rfl rfl hs (by decide) rfl d_Top_clear_24 ?_
    refine hw_calli X V (hz (12, s9) (show s9 < 7 by first | assumption | omega)) rfl rfl (cm_Sub_amount l z σ1 hz s9 (by omega) hN [0] e1.1) cs_Top_118 (by decide) rfl hl.1 rfl (Nat.le_of_ble_eq_true rfl) (by decide) d_Top_clear_25 (fun r σ' H locs V hr => ?_)
    obtain ⟨hσ, rfl⟩ := hr
    rw [hσ] at V
    clear hσ
    have hB := V.1.2.2
    exact hret _ _ _ _ _ _ d_Top_clear_28 V ⟨by rw [ev]; exact cs_put hC hf1 hs f1 ⟨hf1, s9, hs, rfl⟩ (sg_gp0 g e1) (fun x => List.mem_singleton), f1.cq, fun _ => rfl, fun h => absurd ⟨hf1, s9, hs, rfl⟩ h⟩
  · skip
    have hno : ¬ (σ (0, 0) 6 = 1 ∧ el_i 4 x) := fun h => by have := hbp1.mpr h; omega
    refine nw_iconstv X (-1) d_Top_clear_8 (by decide) ?_
    exact hret _ _ _ _ _ _ d_Top_clear_9 V ⟨cs_no hC hno, cs_q.rf, fun h => absurd h hno, fun _ => rfl⟩
set_option maxHeartbeats 4000000 in
set_option maxRecDepth 20000 in
theorem cm_Top_join (l : Launch) (z : zz_Z) (σ : hw_M) (hz : ∀ k, zz_k (zz_n z) k → zz_O z k) (S : Nat → Nat → Prop) (hC : cs_ok z σ S) (x y : Int32) : Met l y_Top_join (hw_c y_Top_join b_Top_join 3 (some .int)) (hw_r 3) (va_Pc [.ref (zz_A z (0, 0)), .int x, .int y] (zz_B z σ)) (va_Qi (fun r σ' => cs_ok z σ' (sa_t (σ (0, 0) 6 = 1 ∧ el_i 4 x ∧ el_i (zz_N z) y) (el_v x) (sp_join (zz_N z) (gr_p z σ) (S (el_v x)) (el_v y)) S) ∧ cs_q σ σ' ∧ an_o (σ (0, 0) 6 = 1 ∧ el_i 4 x ∧ el_i (zz_N z) y) (gp_cd (zz_N z) (sp_join (zz_N z) (gr_p z σ) (S (el_v x)) (el_v y))) r) (zz_B z) (zz_F z)) 0 0 (zz_F z) := by
  refine hw_meti (post := (fun r σ' => cs_ok z σ' (sa_t (σ (0, 0) 6 = 1 ∧ el_i 4 x ∧ el_i (zz_N z) y) (el_v x) (sp_join (zz_N z) (gr_p z σ) (S (el_v x)) (el_v y)) S) ∧ cs_q σ σ' ∧ an_o (σ (0, 0) 6 = 1 ∧ el_i 4 x ∧ el_i (zz_N z) y) (gp_cd (zz_N z) (sp_join (zz_N z) (gr_p z σ) (S (el_v x)) (el_v y))) r)) (by decide) (Nat.le_of_ble_eq_true rfl) ?_
  intro p e s m args below meth c ls Q X hret V hl
  have hl : lv_has ls 3 [(0, .ref (zz_A z (0, 0))), (1, .int x), (2, .int y)] := hl
  have hB := V.1.2.2
  obtain ⟨hS, hR, hf2, hes, hfx⟩ := id hC
  obtain ⟨hn7, hN, hn, hNe, hw, hsz, hln⟩ := id hS
  refine nw_aload_n X d_Top_join_0 rfl (lv_at hl 0 rfl) ?_
  refine nw_iload_n X d_Top_join_1 rfl (lv_at hl 1 rfl) ?_
  refine hw_calli X V (hz (0, 0) rfl) rfl rfl (cm_Top_isPlace l z σ hz S hC x) cs_Top_115 (by decide) rfl hl.1 rfl (Nat.le_of_ble_eq_true rfl) (by decide) d_Top_join_2 (fun r σ' H locs V hr => ?_)
  obtain ⟨b1, hb1, rfl, hσ, hbp1⟩ := hr
  rw [hσ] at V
  clear hσ
  have hB := V.1.2.2
  refine nw_if_eq X (tgt := 16) d_Top_join_5 (by decide) (by omega) (fun hc1 => ?_) (fun hc1 => ?_)
  · skip
    have hno : ¬ (σ (0, 0) 6 = 1 ∧ el_i 4 x ∧ el_i (zz_N z) y) := fun h => by have := hbp1.mpr ⟨h.1, h.2.1⟩; omega
    refine nw_iconstv X (-1) d_Top_join_16 (by decide) ?_
    exact hret _ _ _ _ _ _ d_Top_join_17 V ⟨cs_no hC hno, cs_q.rf, fun h => absurd h hno, fun _ => rfl⟩
  · skip
    refine nw_aload_n X d_Top_join_8 rfl (lv_at hl 0 rfl) ?_
    refine nw_iload_n X d_Top_join_9 rfl (lv_at hl 2 rfl) ?_
    refine hw_calli X V (hz (0, 0) rfl) rfl rfl (cm_Top_isElement l z σ hz S hC y) cs_Top_91 (by decide) rfl hl.1 rfl (Nat.le_of_ble_eq_true rfl) (by decide) d_Top_join_10 (fun r σ' H locs V hr => ?_)
    obtain ⟨b2, hb2, rfl, hσ, hbp2⟩ := hr
    rw [hσ] at V
    clear hσ
    have hB := V.1.2.2
    refine nw_if_ne X (tgt := 18) d_Top_join_13 (by decide) (by omega) (fun hc2 => ?_) (fun hc2 => ?_)
    · skip
      obtain ⟨hf1, s9, hs, rfl⟩ := hbp1.mp (by omega)
      obtain ⟨hL, hpl, qw, bw, hGw, hwl⟩ := hfx hf1
      have g := lo_gp hL
      obtain ⟨q, b9, hG, hT⟩ := hpl s9 hs
      have ev : el_v (nI s9) = s9 := el_nv (by omega) hs
      obtain ⟨-, a, ha, rfl⟩ := hbp2.mp (by omega)
      have ev2 : el_v (nI a) = a := el_nv (by omega) ha
      refine nw_aload_n X d_Top_join_18 rfl (lv_at hl 0 rfl) ?_
      refine gf_Top_24 X V (hz (0, 0) rfl) d_Top_join_19 ?_
      refine nw_iload_n X d_Top_join_22 rfl (lv_at hl 1 rfl) ?_
      refine hw_aald X V (hz (11, 0) rfl) 3 rfl rfl rfl hs (by decide) rfl d_Top_join_23 ?_
      refine nw_iload_n X d_Top_join_24 rfl (lv_at hl 2 rfl) ?_
      refine hw_callv X V (hz (12, s9) (show s9 < 7 by first | assumption | omega)) rfl rfl (cm_Sub_include l z σ hz s9 (by omega) hL q b9 hG a ha) cs_Top_121 (by decide) rfl hl.1 rfl (Nat.le_of_ble_eq_true rfl) (by decide) d_Top_join_25 (fun σ1 H locs V hr => ?_)
      obtain ⟨q2, c2, hG2, hin2, hc9, f1⟩ := hr
      have hB := V.1.2.2
      have hJ := sg_join hG hT hG2 hin2 hc9 g
      refine nw_aload_n X d_Top_join_28 rfl (lv_at hl 0 rfl) ?_
      refine gf_Top_24 X V (hz (0, 0) rfl) d_Top_join_29 ?_
      refine nw_iload_n X d_Top_join_32 rfl (lv_at hl 1 rfl) ?_
      refine hw_aald X V (hz (11, 0) rfl) 3 rfl rfl rfl hs (by decide) rfl d_Top_join_33 ?_
      refine hw_calli X V (hz (12, s9) (show s9 < 7 by first | assumption | omega)) rfl rfl (cm_Sub_amount l z σ1 hz s9 (by omega) hN q2 hG2.1.1) cs_Top_118 (by decide) rfl hl.1 rfl (Nat.le_of_ble_eq_true rfl) (by decide) d_Top_join_34 (fun r σ' H locs V hr => ?_)
      obtain ⟨hσ, rfl⟩ := hr
      rw [hσ] at V
      clear hσ
      have hB := V.1.2.2
      exact hret _ _ _ _ _ _ d_Top_join_37 V (by
        rw [ev, ev2]
        exact ⟨cs_put hC hf1 hs f1 ⟨hf1, ⟨s9, hs, rfl⟩, a, ha, rfl⟩ hG2 hJ, f1.cq, fun _ => by rw [cs_cnt hG2 hJ], fun h => absurd ⟨hf1, ⟨s9, hs, rfl⟩, a, ha, rfl⟩ h⟩)
    · skip
      have hno : ¬ (σ (0, 0) 6 = 1 ∧ el_i 4 x ∧ el_i (zz_N z) y) := fun h => by have := hbp2.mpr ⟨h.1, h.2.2⟩; omega
      refine nw_iconstv X (-1) d_Top_join_16 (by decide) ?_
      exact hret _ _ _ _ _ _ d_Top_join_17 V ⟨cs_no hC hno, cs_q.rf, fun h => absurd h hno, fun _ => rfl⟩
set_option maxHeartbeats 4000000 in
set_option maxRecDepth 20000 in
theorem cm_Top_spread (l : Launch) (z : zz_Z) (σ : hw_M) (hz : ∀ k, zz_k (zz_n z) k → zz_O z k) (S : Nat → Nat → Prop) (hC : cs_ok z σ S) (x : Int32) : Met l y_Top_spread (hw_c y_Top_spread b_Top_spread 2 (some .int)) (hw_r 5) (va_Pc [.ref (zz_A z (0, 0)), .int x] (zz_B z σ)) (va_Qi (fun r σ' => cs_ok z σ' (sa_t (σ (0, 0) 6 = 1 ∧ el_i 4 x) (el_v x) (sp_spread (zz_N z) (gr_p z σ) (S (el_v x))) S) ∧ cs_q σ σ' ∧ an_o (σ (0, 0) 6 = 1 ∧ el_i 4 x) (gp_cd (zz_N z) (sp_spread (zz_N z) (gr_p z σ) (S (el_v x)))) r) (zz_B z) (zz_F z)) 0 0 (zz_F z) := by
  refine hw_meti (post := (fun r σ' => cs_ok z σ' (sa_t (σ (0, 0) 6 = 1 ∧ el_i 4 x) (el_v x) (sp_spread (zz_N z) (gr_p z σ) (S (el_v x))) S) ∧ cs_q σ σ' ∧ an_o (σ (0, 0) 6 = 1 ∧ el_i 4 x) (gp_cd (zz_N z) (sp_spread (zz_N z) (gr_p z σ) (S (el_v x)))) r)) (by decide) (Nat.le_of_ble_eq_true rfl) ?_
  intro p e s m args below meth c ls Q X hret V hl
  have hl : lv_has ls 2 [(0, .ref (zz_A z (0, 0))), (1, .int x)] := hl
  have hB := V.1.2.2
  obtain ⟨hS, hR, hf2, hes, hfx⟩ := id hC
  obtain ⟨hn7, hN, hn, hNe, hw, hsz, hln⟩ := id hS
  refine nw_aload_n X d_Top_spread_0 rfl (lv_at hl 0 rfl) ?_
  refine nw_iload_n X d_Top_spread_1 rfl (lv_at hl 1 rfl) ?_
  refine hw_calli X V (hz (0, 0) rfl) rfl rfl (cm_Top_isPlace l z σ hz S hC x) cs_Top_115 (by decide) rfl hl.1 rfl (Nat.le_of_ble_eq_true rfl) (by decide) d_Top_spread_2 (fun r σ' H locs V hr => ?_)
  obtain ⟨b1, hb1, rfl, hσ, hbp1⟩ := hr
  rw [hσ] at V
  clear hσ
  have hB := V.1.2.2
  refine nw_if_ne X (tgt := 10) d_Top_spread_5 (by decide) (by omega) (fun hc => ?_) (fun hc => ?_)
  · skip
    obtain ⟨hf1, s9, hs, rfl⟩ := hbp1.mp (by omega)
    obtain ⟨hL, hpl, qw, bw, hGw, hwl⟩ := hfx hf1
    have g := lo_gp hL
    obtain ⟨q, b9, hG, hT⟩ := hpl s9 hs
    have ev : el_v (nI s9) = s9 := el_nv (by omega) hs
    refine nw_aload_n X d_Top_spread_10 rfl (lv_at hl 0 rfl) ?_
    refine gf_Top_24 X V (hz (0, 0) rfl) d_Top_spread_11 ?_
    refine nw_iload_n X d_Top_spread_14 rfl (lv_at hl 1 rfl) ?_
    refine hw_aald X V (hz (11, 0) rfl) 3 rfl rfl rfl hs (by decide) rfl d_Top_spread_15 ?_
    refine nw_aload_n X d_Top_spread_16 rfl (lv_at hl 0 rfl) ?_
    refine gf_Top_31 X V (hz (0, 0) rfl) d_Top_spread_17 ?_
    refine hw_callv X V (hz (12, s9) (show s9 < 7 by first | assumption | omega)) rfl rfl (cm_Sub_includeAllConjugates l z σ hz s9 (by omega) hL q b9 hG 4 (by decide) (by omega) qw bw hGw.1) cs_Top_124 (by decide) rfl hl.1 rfl (Nat.le_of_ble_eq_true rfl) (by decide) d_Top_spread_20 (fun σ1 H locs V hr => ?_)
    obtain ⟨q2, c2, hG2, h91, h92, h93, f1⟩ := hr
    have hB := V.1.2.2
    have hJ := sg_spread g hG hT hG2 hGw hwl h91 h92 h93
    refine nw_aload_n X d_Top_spread_23 rfl (lv_at hl 0 rfl) ?_
    refine gf_Top_24 X V (hz (0, 0) rfl) d_Top_spread_24 ?_
    refine nw_iload_n X d_Top_spread_27 rfl (lv_at hl 1 rfl) ?_
    refine hw_aald X V (hz (11, 0) rfl) 3 rfl rfl rfl hs (by decide) rfl d_Top_spread_28 ?_
    refine hw_calli X V (hz (12, s9) (show s9 < 7 by first | assumption | omega)) rfl rfl (cm_Sub_amount l z σ1 hz s9 (by omega) hN q2 hG2.1.1) cs_Top_118 (by decide) rfl hl.1 rfl (Nat.le_of_ble_eq_true rfl) (by decide) d_Top_spread_29 (fun r σ' H locs V hr => ?_)
    obtain ⟨hσ, rfl⟩ := hr
    rw [hσ] at V
    clear hσ
    have hB := V.1.2.2
    exact hret _ _ _ _ _ _ d_Top_spread_32 V (by
      rw [ev]
      exact ⟨cs_put hC hf1 hs f1 ⟨hf1, s9, hs, rfl⟩ hG2 hJ, f1.cq, fun _ => by rw [cs_cnt hG2 hJ], fun h => absurd ⟨hf1, s9, hs, rfl⟩ h⟩)
  · skip
    have hno : ¬ (σ (0, 0) 6 = 1 ∧ el_i 4 x) := fun h => by have := hbp1.mpr h; omega
    refine nw_iconstv X (-1) d_Top_spread_8 (by decide) ?_
    exact hret _ _ _ _ _ _ d_Top_spread_9 V ⟨cs_no hC hno, cs_q.rf, fun h => absurd h hno, fun _ => rfl⟩
set_option maxHeartbeats 4000000 in
set_option maxRecDepth 20000 in
theorem cm_Top_commute (l : Launch) (z : zz_Z) (σ : hw_M) (hz : ∀ k, zz_k (zz_n z) k → zz_O z k) (S : Nat → Nat → Prop) (hC : cs_ok z σ S) (x y t : Int32) : Met l y_Top_commute (hw_c y_Top_commute b_Top_commute 4 (some .int)) (hw_r 5) (va_Pc [.ref (zz_A z (0, 0)), .int x, .int y, .int t] (zz_B z σ)) (va_Qi (fun r σ' => cs_ok z σ' (sa_t (σ (0, 0) 6 = 1 ∧ el_i 4 x ∧ el_i 4 y ∧ el_i 4 t) (el_v t) (gp_cs (zz_N z) (gr_p z σ) (S (el_v x)) (S (el_v y))) S) ∧ cs_q σ σ' ∧ an_o (σ (0, 0) 6 = 1 ∧ el_i 4 x ∧ el_i 4 y ∧ el_i 4 t) (gp_cd (zz_N z) (gp_cs (zz_N z) (gr_p z σ) (S (el_v x)) (S (el_v y)))) r) (zz_B z) (zz_F z)) 0 0 (zz_F z) := by
  refine hw_meti (post := (fun r σ' => cs_ok z σ' (sa_t (σ (0, 0) 6 = 1 ∧ el_i 4 x ∧ el_i 4 y ∧ el_i 4 t) (el_v t) (gp_cs (zz_N z) (gr_p z σ) (S (el_v x)) (S (el_v y))) S) ∧ cs_q σ σ' ∧ an_o (σ (0, 0) 6 = 1 ∧ el_i 4 x ∧ el_i 4 y ∧ el_i 4 t) (gp_cd (zz_N z) (gp_cs (zz_N z) (gr_p z σ) (S (el_v x)) (S (el_v y)))) r)) (by decide) (Nat.le_of_ble_eq_true rfl) ?_
  intro p e s m args below meth c ls Q X hret V hl
  have hl : lv_has ls 4 [(0, .ref (zz_A z (0, 0))), (1, .int x), (2, .int y), (3, .int t)] := hl
  have hB := V.1.2.2
  obtain ⟨hS, hR, hf2, hes, hfx⟩ := id hC
  obtain ⟨hn7, hN, hn, hNe, hw, hsz, hln⟩ := id hS
  refine nw_aload_n X d_Top_commute_0 rfl (lv_at hl 0 rfl) ?_
  refine nw_iload_n X d_Top_commute_1 rfl (lv_at hl 1 rfl) ?_
  refine hw_calli X V (hz (0, 0) rfl) rfl rfl (cm_Top_isPlace l z σ hz S hC x) cs_Top_115 (by decide) rfl hl.1 rfl (Nat.le_of_ble_eq_true rfl) (by decide) d_Top_commute_2 (fun r σ' H locs V hr => ?_)
  obtain ⟨b1, hb1, rfl, hσ, hbp1⟩ := hr
  rw [hσ] at V
  clear hσ
  have hB := V.1.2.2
  refine nw_if_eq X (tgt := 24) d_Top_commute_5 (by decide) (by omega) (fun hc1 => ?_) (fun hc1 => ?_)
  · skip
    have hno : ¬ (σ (0, 0) 6 = 1 ∧ el_i 4 x ∧ el_i 4 y ∧ el_i 4 t) := fun h => by have := hbp1.mpr ⟨h.1, h.2.1⟩; omega
    refine nw_iconstv X (-1) d_Top_commute_24 (by decide) ?_
    exact hret _ _ _ _ _ _ d_Top_commute_25 V ⟨cs_no hC hno, cs_q.rf, fun h => absurd h hno, fun _ => rfl⟩
  · skip
    refine nw_aload_n X d_Top_commute_8 rfl (lv_at hl 0 rfl) ?_
    refine nw_iload_n X d_Top_commute_9 rfl (lv_at hl 2 rfl) ?_
    refine hw_calli X V (hz (0, 0) rfl) rfl rfl (cm_Top_isPlace l z σ hz S hC y) cs_Top_115 (by decide) rfl hl.1 rfl (Nat.le_of_ble_eq_true rfl) (by decide) d_Top_commute_10 (fun r σ' H locs V hr => ?_)
    obtain ⟨b2, hb2, rfl, hσ, hbp2⟩ := hr
    rw [hσ] at V
    clear hσ
    have hB := V.1.2.2
    refine nw_if_eq X (tgt := 24) d_Top_commute_13 (by decide) (by omega) (fun hc2 => ?_) (fun hc2 => ?_)
    · skip
      have hno : ¬ (σ (0, 0) 6 = 1 ∧ el_i 4 x ∧ el_i 4 y ∧ el_i 4 t) := fun h => by have := hbp2.mpr ⟨h.1, h.2.2.1⟩; omega
      refine nw_iconstv X (-1) d_Top_commute_24 (by decide) ?_
      exact hret _ _ _ _ _ _ d_Top_commute_25 V ⟨cs_no hC hno, cs_q.rf, fun h => absurd h hno, fun _ => rfl⟩
    · skip
      refine nw_aload_n X d_Top_commute_16 rfl (lv_at hl 0 rfl) ?_
      refine nw_iload_n X d_Top_commute_17 rfl (lv_at hl 3 rfl) ?_
      refine hw_calli X V (hz (0, 0) rfl) rfl rfl (cm_Top_isPlace l z σ hz S hC t) cs_Top_115 (by decide) rfl hl.1 rfl (Nat.le_of_ble_eq_true rfl) (by decide) d_Top_commute_18 (fun r σ' H locs V hr => ?_)
      obtain ⟨b3, hb3, rfl, hσ, hbp3⟩ := hr
      rw [hσ] at V
      clear hσ
      have hB := V.1.2.2
      refine nw_if_ne X (tgt := 26) d_Top_commute_21 (by decide) (by omega) (fun hc3 => ?_) (fun hc3 => ?_)
      · skip
        obtain ⟨hf1, s9, hs, rfl⟩ := hbp1.mp (by omega)
        obtain ⟨-, t9, ht9, rfl⟩ := hbp2.mp (by omega)
        obtain ⟨-, u9, hu9, rfl⟩ := hbp3.mp (by omega)
        obtain ⟨hL, hpl, qw, bw, hGw, hwl⟩ := hfx hf1
        have g := lo_gp hL
        obtain ⟨q, b9, hG, hT⟩ := hpl s9 hs
        obtain ⟨qt, bt, hGt, hTt⟩ := hpl t9 ht9
        obtain ⟨qu, bu, hGu, hTu⟩ := hpl u9 hu9
        obtain ⟨q6, hq6⟩ := hes 6 (by decide)
        have ev : el_v (nI s9) = s9 := el_nv (by omega) hs
        have ev2 : el_v (nI t9) = t9 := el_nv (by omega) ht9
        have ev3 : el_v (nI u9) = u9 := el_nv (by omega) hu9
        refine nw_aload_n X d_Top_commute_26 rfl (lv_at hl 0 rfl) ?_
        refine gf_Top_38 X V (hz (0, 0) rfl) d_Top_commute_27 ?_
        refine nw_aload_n X d_Top_commute_30 rfl (lv_at hl 0 rfl) ?_
        refine gf_Top_24 X V (hz (0, 0) rfl) d_Top_commute_31 ?_
        refine nw_iload_n X d_Top_commute_34 rfl (lv_at hl 1 rfl) ?_
        refine hw_aald X V (hz (11, 0) rfl) 3 rfl rfl rfl hs (by decide) rfl d_Top_commute_35 ?_
        refine nw_aload_n X d_Top_commute_36 rfl (lv_at hl 0 rfl) ?_
        refine gf_Top_24 X V (hz (0, 0) rfl) d_Top_commute_37 ?_
        refine nw_iload_n X d_Top_commute_40 rfl (lv_at hl 2 rfl) ?_
        refine hw_aald X V (hz (11, 0) rfl) 3 rfl rfl rfl ht9 (by decide) rfl d_Top_commute_41 ?_
        refine hw_callv X V (hz (12, 6) (show 6 < 7 by first | assumption | omega)) rfl rfl (cm_Sub_becomeCommutators l z σ hz 6 (by decide) hL q6 hq6 s9 (by omega) (by omega) q b9 hG.1 t9 (by omega) (by omega) qt bt hGt.1) cs_Top_128 (by decide) rfl hl.1 rfl (Nat.le_of_ble_eq_true rfl) (by decide) d_Top_commute_42 (fun σ1 H locs V hr => ?_)
        obtain ⟨q2, c2, hG2, hx2, f1⟩ := hr
        have hB := V.1.2.2
        have hJ := sg_csT hG hGt hT hTt hx2
        refine nw_aload_n X d_Top_commute_45 rfl (lv_at hl 0 rfl) ?_
        refine gf_Top_24 X V (hz (0, 0) rfl) d_Top_commute_46 ?_
        refine nw_iload_n X d_Top_commute_49 rfl (lv_at hl 3 rfl) ?_
        refine hw_aald X V (hz (11, 0) rfl) 3 rfl rfl rfl hu9 (by decide) rfl d_Top_commute_50 ?_
        refine nw_aload_n X d_Top_commute_51 rfl (lv_at hl 0 rfl) ?_
        refine gf_Top_38 X V (hz (0, 0) rfl) d_Top_commute_52 ?_
        refine hw_callv X V (hz (12, u9) (show u9 < 7 by first | assumption | omega)) rfl rfl (cm_Sub_becomeCopy l z σ1 hz u9 (by omega) hN qu (sg_oth hGu.1 f1 (by omega)).1 6 (by decide) (by omega) q2 c2 hG2.1) cs_Top_132 (by decide) rfl hl.1 rfl (Nat.le_of_ble_eq_true rfl) (by decide) d_Top_commute_55 (fun σ2 H locs V hr => ?_)
        obtain ⟨hG3, f2⟩ := hr
        have hB := V.1.2.2
        have hG3 : sg_gp z (gr_p z σ) σ2 u9 q2 c2 := ⟨hG3, hG2.2⟩
        refine nw_aload_n X d_Top_commute_58 rfl (lv_at hl 0 rfl) ?_
        refine gf_Top_24 X V (hz (0, 0) rfl) d_Top_commute_59 ?_
        refine nw_iload_n X d_Top_commute_62 rfl (lv_at hl 3 rfl) ?_
        refine hw_aald X V (hz (11, 0) rfl) 3 rfl rfl rfl hu9 (by decide) rfl d_Top_commute_63 ?_
        refine hw_calli X V (hz (12, u9) (show u9 < 7 by first | assumption | omega)) rfl rfl (cm_Sub_amount l z σ2 hz u9 (by omega) hN q2 hG3.1.1) cs_Top_118 (by decide) rfl hl.1 rfl (Nat.le_of_ble_eq_true rfl) (by decide) d_Top_commute_64 (fun r σ' H locs V hr => ?_)
        obtain ⟨hσ, rfl⟩ := hr
        rw [hσ] at V
        clear hσ
        have hB := V.1.2.2
        exact hret _ _ _ _ _ _ d_Top_commute_67 V (by
          rw [ev, ev2, ev3]
          have h6 := cs_side hC hf1 (by decide) f1 ⟨q2, hG2.1.1⟩
          have h7 := cs_put h6.1 h6.2.1 hu9 f2 (P := σ (0, 0) 6 = 1 ∧ el_i 4 (nI s9) ∧ el_i 4 (nI t9) ∧ el_i 4 (nI u9)) ⟨hf1, ⟨s9, hs, rfl⟩, ⟨t9, ht9, rfl⟩, u9, hu9, rfl⟩ (by rw [h6.2.2]; exact hG3) hJ
          exact ⟨h7, f1.cq.tr f2.cq, fun _ => by rw [cs_cnt hG3 hJ], fun h => absurd ⟨hf1, ⟨s9, hs, rfl⟩, ⟨t9, ht9, rfl⟩, u9, hu9, rfl⟩ h⟩)
      · skip
        have hno : ¬ (σ (0, 0) 6 = 1 ∧ el_i 4 x ∧ el_i 4 y ∧ el_i 4 t) := fun h => by have := hbp3.mpr ⟨h.1, h.2.2.2⟩; omega
        refine nw_iconstv X (-1) d_Top_commute_24 (by decide) ?_
        exact hret _ _ _ _ _ _ d_Top_commute_25 V ⟨cs_no hC hno, cs_q.rf, fun h => absurd h hno, fun _ => rfl⟩
end
section
/-! Series, centre and classes of the class's object. -/
def fr_56 (σ σ1 : hw_M) : Prop := ∀ u : hw_P, (u.2 ≠ 5 ∧ u.2 ≠ 6) ∨ u.1 < 12 ∨ 16 < u.1 → σ1 u = σ u
theorem fr_56.of5 {σ σ1 : hw_M} (h : sg_fr 5 σ σ1) : fr_56 σ σ1 := fun u hu => h u (hu.elim (fun q => Or.inl q.1) Or.inr)
theorem fr_56.of6 {σ σ1 : hw_M} (h : sg_fr 6 σ σ1) : fr_56 σ σ1 := fun u hu => h u (hu.elim (fun q => Or.inl q.2) Or.inr)
theorem fr_56.tr {σ σ1 σ2 : hw_M} (h : fr_56 σ σ1) (h2 : fr_56 σ1 σ2) : fr_56 σ σ2 := fun u hu => (h2 u hu).trans (h u hu)
theorem fr_56.cq {σ σ1 : hw_M} (h : fr_56 σ σ1) : cs_q σ σ1 := fun u hu => h u (Or.inr hu)
section
variable {z : zz_Z} {σ σ1 : hw_M} {S : Nat → Nat → Prop}
theorem fr_56.es {j : Nat} {q : List Nat} (h : fr_56 σ σ1) (hj : j ≠ 5 ∧ j ≠ 6) (hq : es_ok z σ j q) : es_ok z σ1 j q :=
  es_keep hq (h (13, j) (Or.inl hj)) (h (14, j) (Or.inl hj)) (h (15, j) (Or.inl hj))
theorem fr_56.gp {o : Nat → Nat → Nat} {j : Nat} {q c : List Nat} (h : fr_56 σ σ1) (hj : j ≠ 5 ∧ j ≠ 6) (hq : sg_gp z o σ j q c) : sg_gp z o σ1 j q c := by
  refine ⟨⟨h.es hj hq.1.1, ?_, hq.1.2.2.1, ?_, hq.1.2.2.2.2⟩, hq.2⟩
  · rw [h (12, j) (Or.inl hj)]; exact hq.1.2.1
  · rw [h (16, j) (Or.inl hj)]; exact hq.1.2.2.2.1
theorem cs_56 (h : cs_ok z σ S) (hf : σ (0, 0) 6 = 1) (hfr : fr_56 σ σ1) (h5 : ∃ q, es_ok z σ1 5 q) (h6 : ∃ q, es_ok z σ1 6 q) : cs_ok z σ1 S := by
  obtain ⟨hL, hp, qw, bw, hw1, hw2⟩ := h.2.2.2.2 hf
  refine cs_set h hfr.cq (fun j hj => ?_) (fun _ => ⟨fun s hs => ?_, qw, bw, hfr.gp (by omega) hw1, hw2⟩)
  · by_cases e5 : j = 5
    · rw [e5]; exact h5
    · by_cases e6 : j = 6
      · rw [e6]; exact h6
      · obtain ⟨q, hq⟩ := h.2.2.2.1 j hj
        exact ⟨q, hfr.es ⟨e5, e6⟩ hq⟩
  · obtain ⟨q1, b1, h1, h2⟩ := hp s hs
    exact ⟨q1, b1, hfr.gp (by omega) h1, h2⟩
/-- the set of kindred alone changes -/
theorem cs_7 (h : cs_ok z σ S) (hf : σ (0, 0) 6 = 1) (hfr : es_fr 7 σ σ1) (h7 : ∃ q, es_ok z σ1 7 q) : cs_ok z σ1 S ∧ cs_q σ σ1 := by
  have h9 := cs_side h hf (j := 7) (by decide) hfr.sg h7
  exact ⟨h9.1, hfr.cq⟩
/-- letters generate -/
theorem gr_gen (hL : lo_ok z σ 0) : ∀ x, x < zz_N z → gp_gn (zz_N z) (gr_p z σ) (fun y => ∃ t, t < zz_n z ∧ y = σ (3, 0) t) x := by
  obtain ⟨⟨-, -, -, -, hw, hsz, -⟩, hk, -⟩ := hL
  intro x hx
  rw [hsz] at hx ⊢
  exact tw_gn hw hk x hx
theorem gr_let (hL : lo_ok z σ 0) : ∀ y, (∃ t, t < zz_n z ∧ y = σ (3, 0) t) → y < zz_N z := by
  obtain ⟨⟨-, -, -, -, hw, hsz, -⟩, hk, -⟩ := hL
  rintro y ⟨t, ht, rfl⟩
  rw [hsz]; exact hw.ltN ht
/-- the row bears conjugation by the letters -/
def kn_ok (z : zz_Z) (σ : hw_M) (q : List Nat) : Prop := ∀ x t, x ∈ q → t < zz_n z → gp_cj (zz_N z) (gr_p z σ) x (σ (3, 0) t) ∈ q
theorem kn_all {q : List Nat} (hL : lo_ok z σ 0) (hq : ∀ x, x ∈ q → x < zz_N z) (h : kn_ok z σ q) : ∀ x s, x ∈ q → s < zz_N z → gp_cj (zz_N z) (gr_p z σ) x s ∈ q :=
  gp_orbit (lo_gp hL) (gr_let hL) (gr_gen hL) hq (fun x s hx hs => by obtain ⟨t, ht, rfl⟩ := hs; exact h x t hx ht)
theorem kn_end {q q1 : List Nat} {a : Nat} (hL : lo_ok z σ 0) (ha : a < zz_N z) (hq : ∀ x, x ∈ q1 → x < zz_N z) (hin : ∀ x, x ∈ q → x ∈ q1) (ha1 : a ∈ q1) (hx : ∀ x, x ∈ q1 → x ∈ q ∨ sp_kin (zz_N z) (gr_p z σ) a x) (hk : kn_ok z σ q1) : ∀ x, x ∈ q1 ↔ x ∈ q ∨ sp_kin (zz_N z) (gr_p z σ) a x :=
  fun x => ⟨hx x, fun h => h.elim (hin x) (fun ⟨b, hb, e⟩ => by rw [e]; exact kn_all hL hq hk a b ha1 hb)⟩
theorem kn_step {a x t : Nat} (g : gp_ok (zz_N z) (gr_p z σ)) (ha : a < zz_N z) (ht : t < zz_N z) (h : sp_kin (zz_N z) (gr_p z σ) a x) : sp_kin (zz_N z) (gr_p z σ) a (gp_cj (zz_N z) (gr_p z σ) x t) := by
  obtain ⟨b, hb, rfl⟩ := h
  exact ⟨gr_p z σ b t, g.lt hb ht, (g.cjc ha hb ht).symm⟩
theorem kn_self {a : Nat} (g : gp_ok (zz_N z) (gr_p z σ)) (ha : a < zz_N z) : sp_kin (zz_N z) (gr_p z σ) a a := ⟨0, g.pos, (g.cj0 ha).symm⟩
theorem kn_sym {a x : Nat} (g : gp_ok (zz_N z) (gr_p z σ)) (ha : a < zz_N z) (h : sp_kin (zz_N z) (gr_p z σ) a x) : sp_kin (zz_N z) (gr_p z σ) x a := by
  obtain ⟨b, hb, rfl⟩ := h
  exact ⟨gp_iv (zz_N z) (gr_p z σ) b, g.ivl hb, (g.cji ha hb).symm⟩
end
section
variable {z : zz_Z} {σ σ1 : hw_M}
theorem kn_mv {q : List Nat} (e : gr_p z σ1 = gr_p z σ) (e3 : σ1 (3, 0) = σ (3, 0)) (h : kn_ok z σ q) : kn_ok z σ1 q := by
  intro x t hx ht
  rw [e, e3]
  exact h x t hx ht
theorem kn_tr {a b x : Nat} (g : gp_ok (zz_N z) (gr_p z σ)) (ha : a < zz_N z) (h : sp_kin (zz_N z) (gr_p z σ) a b) (h2 : sp_kin (zz_N z) (gr_p z σ) b x) : sp_kin (zz_N z) (gr_p z σ) a x := by
  obtain ⟨t, ht, rfl⟩ := h2
  exact kn_step g ha ht h
theorem kn_lt {a x : Nat} (g : gp_ok (zz_N z) (gr_p z σ)) (ha : a < zz_N z) (h : sp_kin (zz_N z) (gr_p z σ) a x) : x < zz_N z := by
  obtain ⟨t, ht, rfl⟩ := h
  exact g.cjl ha ht
theorem kn_nl {a : Nat} (g : gp_ok (zz_N z) (gr_p z σ)) (ha : a < zz_N z) (h : ∃ b, b < a ∧ sp_kin (zz_N z) (gr_p z σ) b a) : ¬ sp_least (zz_N z) (gr_p z σ) a := by
  obtain ⟨b, hb, h1⟩ := h
  obtain ⟨t, ht, e⟩ := kn_sym g (by omega) h1
  intro h2
  have := h2 t ht
  omega
theorem kn_l {a : Nat} (g : gp_ok (zz_N z) (gr_p z σ)) (ha : a < zz_N z) (h : ¬ ∃ b, b < a ∧ sp_kin (zz_N z) (gr_p z σ) b a) : sp_least (zz_N z) (gr_p z σ) a := by
  intro b hb
  apply Nat.le_of_not_lt
  intro q
  exact h ⟨_, q, kn_sym g ha ⟨b, hb, rfl⟩⟩
theorem kn_same {a : Nat} {q : List Nat} (g : gp_ok (zz_N z) (gr_p z σ)) (ha : a < zz_N z) (hin : a ∈ q) (hx : ∀ x, x ∈ q ↔ ∃ b, b < a ∧ sp_kin (zz_N z) (gr_p z σ) b x) : ∀ x, x ∈ q ↔ ∃ b, b < a + 1 ∧ sp_kin (zz_N z) (gr_p z σ) b x := by
  intro x
  refine (hx x).trans ⟨fun ⟨b, h1, h2⟩ => ⟨b, by omega, h2⟩, fun ⟨b, h1, h2⟩ => ?_⟩
  by_cases e : b = a
  · rw [e] at h2
    obtain ⟨b', h3, h4⟩ := (hx a).mp hin
    exact ⟨b', h3, kn_tr g (by omega) h4 h2⟩
  · exact ⟨b, by omega, h2⟩
end
end
section
/-! The class: series, centre, classes. By program (wip/whole/gen/top3.py). -/
set_option maxHeartbeats 4000000 in
set_option maxRecDepth 20000 in
theorem cm_Top_seriesAmount5 (l : Launch) (z : zz_Z) (σ : hw_M) (hz : ∀ k, zz_k (zz_n z) k → zz_O z k) (S : Nat → Nat → Prop) (hC : cs_ok z σ S) (x : Int32) : Met l y_Top_seriesAmount (hw_c y_Top_seriesAmount b_Top_seriesAmount 4 (some .int)) (hw_r 5) (va_Pc [.ref (zz_A z (0, 0)), .int x, .ref (zz_A z (12, 5))] (zz_B z σ)) (va_Qi (fun r σ' => cs_ok z σ' S ∧ cs_q σ σ' ∧ an_o (σ (0, 0) 6 = 1 ∧ ¬ x < 0) (gp_cd (zz_N z) (sp_ser (zz_N z) (gr_p z σ) false (min (el_v x) 7))) r) (zz_B z) (zz_F z)) 0 0 (zz_F z) := by
  refine hw_meti (post := (fun r σ' => cs_ok z σ' S ∧ cs_q σ σ' ∧ an_o (σ (0, 0) 6 = 1 ∧ ¬ x < 0) (gp_cd (zz_N z) (sp_ser (zz_N z) (gr_p z σ) false (min (el_v x) 7))) r)) (by decide) (Nat.le_of_ble_eq_true rfl) ?_
  intro p e s m args below meth c ls Q X hret V hl
  have hl : lv_has ls 4 [(0, .ref (zz_A z (0, 0))), (1, .int x), (2, .ref (zz_A z (12, 5)))] := hl
  have hB := V.1.2.2
  obtain ⟨hS, hR, hf2, hes, hfx⟩ := id hC
  obtain ⟨hn7, hN, hn, hNe, hw, hsz, hln⟩ := id hS
  refine nw_aload_n X d_Top_seriesAmount_0 rfl (lv_at hl 0 rfl) ?_
  refine gf_Top_54 X V (hz (0, 0) rfl) d_Top_seriesAmount_1 ?_
  refine nw_if_eq X (tgt := 11) d_Top_seriesAmount_4 (by decide) (by omega) (fun hc => ?_) (fun hc => ?_)
  · skip
    have hno : ¬ (σ (0, 0) 6 = 1 ∧ ¬ x < 0) := fun h => by omega
    refine nw_iconstv X (-1) d_Top_seriesAmount_11 (by decide) ?_
    exact hret _ _ _ _ _ _ d_Top_seriesAmount_12 V ⟨hC, cs_q.rf, fun h => absurd h hno, fun _ => rfl⟩
  · skip
    have hf1 : σ (0, 0) 6 = 1 := by omega
    obtain ⟨hL, hpl, qw, bw, hGw, hwl⟩ := hfx hf1
    have g := lo_gp hL
    refine nw_iload_n X d_Top_seriesAmount_7 rfl (lv_at hl 1 rfl) ?_
    refine lv_if_ge (tgt := 13) X.1.1 X.1.2.1 d_Top_seriesAmount_8 (by decide) (fun h0 => ?_) (fun h0 => ?_)
    · skip
      have hx0 : ¬ x < 0 := Int32.not_lt.mpr h0
      obtain ⟨k, hk9, rfl⟩ := nI_of hx0
      obtain ⟨q5, hq5⟩ := hes 5 (by decide)
      obtain ⟨q60, hq60⟩ := hes 6 (by decide)
      refine nw_aload_n X d_Top_seriesAmount_13 rfl (lv_at hl 0 rfl) ?_
      refine gf_Top_35 X V (hz (0, 0) rfl) d_Top_seriesAmount_14 ?_
      refine nw_aload_n X d_Top_seriesAmount_17 rfl (lv_at hl 0 rfl) ?_
      refine gf_Top_31 X V (hz (0, 0) rfl) d_Top_seriesAmount_18 ?_
      refine hw_callv X V (hz (12, 5) (show 5 < 7 by first | assumption | omega)) rfl rfl (cm_Sub_becomeCopy l z σ hz 5 (by decide) hN q5 hq5 4 (by decide) (by decide) qw bw hGw.1) cs_Top_132 (by decide) rfl hl.1 rfl (Nat.le_of_ble_eq_true rfl) (by decide) d_Top_seriesAmount_21 (fun σ0 H locs V hr => ?_)
      obtain ⟨e0, f0⟩ := hr
      have hB := V.1.2.2
      have hG50 : sg_gp z (gr_p z σ) σ0 5 qw bw := ⟨e0, hGw.2⟩
      refine nw_iconst X 0 d_Top_seriesAmount_24 (by decide) ?_
      refine nw_istore_n X (lv' := [(3, _), (0, _), (1, _), (2, _)]) d_Top_seriesAmount_25 rfl hl (by decide) rfl (fun ls hl => ?_)
      have LP26 : ∀ (d t : Nat) (q1 c1 q6 : List Nat) (σ1 : hw_M) (H : Heap) (locs : List Loc) (ls : Array Slot), 7 - t < d → (t ≤ 7) → (t ≤ k) → (fr_56 σ σ1) → (sg_gp z (gr_p z σ) σ1 5 q1 c1) → (∀ x, x ∈ q1 ↔ sp_ser (zz_N z) (gr_p z σ) false t x) → (es_ok z σ1 6 q6) → zz_V z σ1 s.heap H locs →  lv_has ls 4 [(0, .ref (zz_A z (0, 0))), (1, .int (nI k)), (2, .ref (zz_A z (12, 5))), (3, .int (nI t))] →  W p l e (hw_r 5) s m args below meth c H locs 0 0 Q (F0 m 26 ls []) := by
        intro d
        induction d with
        | zero => intro t q1 c1 q6 σ1 H locs ls hd; exact absurd hd (Nat.not_lt_zero _)
        | succ d IH26 =>
          intro t q1 c1 q6 σ1 H locs ls hd ht7 htk hfr hG5 hT5 hq6 V hl
          have hB := V.1.2.2
          have hLo := hfr.cq.lo hL
          refine nw_iload_n X d_Top_seriesAmount_26 rfl (lv_at hl 3 rfl) ?_
          refine nw_iload_n X d_Top_seriesAmount_27 rfl (lv_at hl 1 rfl) ?_
          refine nw_icmp_ge X (tgt := 66) d_Top_seriesAmount_28 (by decide) (by omega) hk9 (fun hck => ?_) (fun hck => ?_)
          · skip
            refine nw_aload_n X d_Top_seriesAmount_66 rfl (lv_at hl 0 rfl) ?_
            refine gf_Top_35 X V (hz (0, 0) rfl) d_Top_seriesAmount_67 ?_
            refine hw_calli X V (hz (12, 5) (show 5 < 7 by first | assumption | omega)) rfl rfl (cm_Sub_amount l z σ1 hz 5 (by decide) hN q1 hG5.1.1) cs_Top_118 (by decide) rfl hl.1 rfl (Nat.le_of_ble_eq_true rfl) (by decide) d_Top_seriesAmount_70 (fun r σ' H locs V hr => ?_)
            obtain ⟨hσ, rfl⟩ := hr
            rw [hσ] at V
            clear hσ
            have hB := V.1.2.2
            exact hret _ _ _ _ _ _ d_Top_seriesAmount_73 V ⟨cs_56 hC hf1 hfr ⟨q1, hG5.1.1⟩ ⟨q6, hq6⟩, hfr.cq, fun _ => by rw [show el_v (nI k) = k from nI_clamp hk9, show min k 7 = t by omega, cs_cnt hG5 hT5], fun h => absurd ⟨hf1, hx0⟩ h⟩
          · skip
            refine nw_iload_n X d_Top_seriesAmount_31 rfl (lv_at hl 3 rfl) ?_
            refine nw_bipush X 7 d_Top_seriesAmount_32 (by decide) ?_
            refine nw_icmp_ge X (tgt := 66) d_Top_seriesAmount_34 (by decide) (by omega) (by decide) (fun hc7 => ?_) (fun hc7 => ?_)
            · skip
              refine nw_aload_n X d_Top_seriesAmount_66 rfl (lv_at hl 0 rfl) ?_
              refine gf_Top_35 X V (hz (0, 0) rfl) d_Top_seriesAmount_67 ?_
              refine hw_calli X V (hz (12, 5) (show 5 < 7 by first | assumption | omega)) rfl rfl (cm_Sub_amount l z σ1 hz 5 (by decide) hN q1 hG5.1.1) cs_Top_118 (by decide) rfl hl.1 rfl (Nat.le_of_ble_eq_true rfl) (by decide) d_Top_seriesAmount_70 (fun r σ' H locs V hr => ?_)
              obtain ⟨hσ, rfl⟩ := hr
              rw [hσ] at V
              clear hσ
              have hB := V.1.2.2
              exact hret _ _ _ _ _ _ d_Top_seriesAmount_73 V ⟨cs_56 hC hf1 hfr ⟨q1, hG5.1.1⟩ ⟨q6, hq6⟩, hfr.cq, fun _ => by rw [show el_v (nI k) = k from nI_clamp hk9, show min k 7 = t by omega, cs_cnt hG5 hT5], fun h => absurd ⟨hf1, hx0⟩ h⟩
            · skip
              refine nw_aload_n X d_Top_seriesAmount_37 rfl (lv_at hl 0 rfl) ?_
              refine gf_Top_38 X V (hz (0, 0) rfl) d_Top_seriesAmount_38 ?_
              refine nw_aload_n X d_Top_seriesAmount_41 rfl (lv_at hl 0 rfl) ?_
              refine gf_Top_35 X V (hz (0, 0) rfl) d_Top_seriesAmount_42 ?_
              refine nw_aload_n X d_Top_seriesAmount_45 rfl (lv_at hl 2 rfl) ?_
              refine hw_callv X V (hz (12, 6) (show 6 < 7 by first | assumption | omega)) rfl rfl (cm_Sub_becomeCommutators l z σ1 hz 6 (by decide) hLo.1 q6 hq6 5 (by decide) (by decide) q1 c1 hG5.1 5 (by decide) (by decide) q1 c1 hG5.1) cs_Top_128 (by decide) rfl hl.1 rfl (Nat.le_of_ble_eq_true rfl) (by decide) d_Top_seriesAmount_46 (fun σ2 H locs V hr => ?_)
              obtain ⟨q2, c2, hG2, hx2, f1⟩ := hr
              rw [hLo.2] at hG2 hx2
              have hB := V.1.2.2
              have hJ : ∀ x, x ∈ q2 ↔ sp_ser (zz_N z) (gr_p z σ) false (t + 1) x := sg_csT hG5 hG5 hT5 hT5 hx2
              refine nw_aload_n X d_Top_seriesAmount_49 rfl (lv_at hl 0 rfl) ?_
              refine gf_Top_35 X V (hz (0, 0) rfl) d_Top_seriesAmount_50 ?_
              refine nw_aload_n X d_Top_seriesAmount_53 rfl (lv_at hl 0 rfl) ?_
              refine gf_Top_38 X V (hz (0, 0) rfl) d_Top_seriesAmount_54 ?_
              refine hw_callv X V (hz (12, 5) (show 5 < 7 by first | assumption | omega)) rfl rfl (cm_Sub_becomeCopy l z σ2 hz 5 (by decide) hN q1 (sg_oth hG5.1 f1 (by decide)).1 6 (by decide) (by decide) q2 c2 hG2.1) cs_Top_132 (by decide) rfl hl.1 rfl (Nat.le_of_ble_eq_true rfl) (by decide) d_Top_seriesAmount_57 (fun σ3 H locs V hr => ?_)
              obtain ⟨e3, f2⟩ := hr
              have hB := V.1.2.2
              have hG3 : sg_gp z (gr_p z σ) σ3 5 q2 c2 := ⟨e3, hG2.2⟩
              refine nw_iinc X (lv' := [(3, _), (0, _), (1, _), (2, _)]) (k := 3) 1 d_Top_seriesAmount_60 hl rfl (by decide) (by decide) rfl (fun ls hl => ?_)
              refine nw_goto X (tgt := 26) d_Top_seriesAmount_63 (by decide) ?_
              exact IH26 (t + 1) q2 c2 q2 _ _ _ _ (by omega) hc7 hck ((hfr.tr (fr_56.of6 f1)).tr (fr_56.of5 f2)) hG3 hJ (es_oth hG2.1.1 f2 (by decide)) V (lv_sub hl [1, 2, 3, 0] rfl)
      exact LP26 (7 + 1) 0 qw bw q60 _ _ _ _ (by omega) (Nat.zero_le _) (Nat.zero_le _) (fr_56.of5 f0) hG50 hwl (es_oth hq60 f0 (by decide)) V (lv_sub hl [1, 2, 3, 0] rfl)
    · skip
      have hno : ¬ (σ (0, 0) 6 = 1 ∧ ¬ x < 0) := fun h => h.2 (Int32.not_le.mp h0)
      refine nw_iconstv X (-1) d_Top_seriesAmount_11 (by decide) ?_
      exact hret _ _ _ _ _ _ d_Top_seriesAmount_12 V ⟨hC, cs_q.rf, fun h => absurd h hno, fun _ => rfl⟩
set_option maxHeartbeats 4000000 in
set_option maxRecDepth 20000 in
theorem cm_Top_seriesAmount4 (l : Launch) (z : zz_Z) (σ : hw_M) (hz : ∀ k, zz_k (zz_n z) k → zz_O z k) (S : Nat → Nat → Prop) (hC : cs_ok z σ S) (x : Int32) : Met l y_Top_seriesAmount (hw_c y_Top_seriesAmount b_Top_seriesAmount 4 (some .int)) (hw_r 5) (va_Pc [.ref (zz_A z (0, 0)), .int x, .ref (zz_A z (12, 4))] (zz_B z σ)) (va_Qi (fun r σ' => cs_ok z σ' S ∧ cs_q σ σ' ∧ an_o (σ (0, 0) 6 = 1 ∧ ¬ x < 0) (gp_cd (zz_N z) (sp_ser (zz_N z) (gr_p z σ) true (min (el_v x) 7))) r) (zz_B z) (zz_F z)) 0 0 (zz_F z) := by
  refine hw_meti (post := (fun r σ' => cs_ok z σ' S ∧ cs_q σ σ' ∧ an_o (σ (0, 0) 6 = 1 ∧ ¬ x < 0) (gp_cd (zz_N z) (sp_ser (zz_N z) (gr_p z σ) true (min (el_v x) 7))) r)) (by decide) (Nat.le_of_ble_eq_true rfl) ?_
  intro p e s m args below meth c ls Q X hret V hl
  have hl : lv_has ls 4 [(0, .ref (zz_A z (0, 0))), (1, .int x), (2, .ref (zz_A z (12, 4)))] := hl
  have hB := V.1.2.2
  obtain ⟨hS, hR, hf2, hes, hfx⟩ := id hC
  obtain ⟨hn7, hN, hn, hNe, hw, hsz, hln⟩ := id hS
  refine nw_aload_n X d_Top_seriesAmount_0 rfl (lv_at hl 0 rfl) ?_
  refine gf_Top_54 X V (hz (0, 0) rfl) d_Top_seriesAmount_1 ?_
  refine nw_if_eq X (tgt := 11) d_Top_seriesAmount_4 (by decide) (by omega) (fun hc => ?_) (fun hc => ?_)
  · skip
    have hno : ¬ (σ (0, 0) 6 = 1 ∧ ¬ x < 0) := fun h => by omega
    refine nw_iconstv X (-1) d_Top_seriesAmount_11 (by decide) ?_
    exact hret _ _ _ _ _ _ d_Top_seriesAmount_12 V ⟨hC, cs_q.rf, fun h => absurd h hno, fun _ => rfl⟩
  · skip
    have hf1 : σ (0, 0) 6 = 1 := by omega
    obtain ⟨hL, hpl, qw, bw, hGw, hwl⟩ := hfx hf1
    have g := lo_gp hL
    refine nw_iload_n X d_Top_seriesAmount_7 rfl (lv_at hl 1 rfl) ?_
    refine lv_if_ge (tgt := 13) X.1.1 X.1.2.1 d_Top_seriesAmount_8 (by decide) (fun h0 => ?_) (fun h0 => ?_)
    · skip
      have hx0 : ¬ x < 0 := Int32.not_lt.mpr h0
      obtain ⟨k, hk9, rfl⟩ := nI_of hx0
      obtain ⟨q5, hq5⟩ := hes 5 (by decide)
      obtain ⟨q60, hq60⟩ := hes 6 (by decide)
      refine nw_aload_n X d_Top_seriesAmount_13 rfl (lv_at hl 0 rfl) ?_
      refine gf_Top_35 X V (hz (0, 0) rfl) d_Top_seriesAmount_14 ?_
      refine nw_aload_n X d_Top_seriesAmount_17 rfl (lv_at hl 0 rfl) ?_
      refine gf_Top_31 X V (hz (0, 0) rfl) d_Top_seriesAmount_18 ?_
      refine hw_callv X V (hz (12, 5) (show 5 < 7 by first | assumption | omega)) rfl rfl (cm_Sub_becomeCopy l z σ hz 5 (by decide) hN q5 hq5 4 (by decide) (by decide) qw bw hGw.1) cs_Top_132 (by decide) rfl hl.1 rfl (Nat.le_of_ble_eq_true rfl) (by decide) d_Top_seriesAmount_21 (fun σ0 H locs V hr => ?_)
      obtain ⟨e0, f0⟩ := hr
      have hB := V.1.2.2
      have hG50 : sg_gp z (gr_p z σ) σ0 5 qw bw := ⟨e0, hGw.2⟩
      refine nw_iconst X 0 d_Top_seriesAmount_24 (by decide) ?_
      refine nw_istore_n X (lv' := [(3, _), (0, _), (1, _), (2, _)]) d_Top_seriesAmount_25 rfl hl (by decide) rfl (fun ls hl => ?_)
      have LP26 : ∀ (d t : Nat) (q1 c1 q6 : List Nat) (σ1 : hw_M) (H : Heap) (locs : List Loc) (ls : Array Slot), 7 - t < d → (t ≤ 7) → (t ≤ k) → (fr_56 σ σ1) → (sg_gp z (gr_p z σ) σ1 5 q1 c1) → (∀ x, x ∈ q1 ↔ sp_ser (zz_N z) (gr_p z σ) true t x) → (es_ok z σ1 6 q6) → zz_V z σ1 s.heap H locs →  lv_has ls 4 [(0, .ref (zz_A z (0, 0))), (1, .int (nI k)), (2, .ref (zz_A z (12, 4))), (3, .int (nI t))] →  W p l e (hw_r 5) s m args below meth c H locs 0 0 Q (F0 m 26 ls []) := by
        intro d
        induction d with
        | zero => intro t q1 c1 q6 σ1 H locs ls hd; exact absurd hd (Nat.not_lt_zero _)
        | succ d IH26 =>
          intro t q1 c1 q6 σ1 H locs ls hd ht7 htk hfr hG5 hT5 hq6 V hl
          have hB := V.1.2.2
          have hLo := hfr.cq.lo hL
          refine nw_iload_n X d_Top_seriesAmount_26 rfl (lv_at hl 3 rfl) ?_
          refine nw_iload_n X d_Top_seriesAmount_27 rfl (lv_at hl 1 rfl) ?_
          refine nw_icmp_ge X (tgt := 66) d_Top_seriesAmount_28 (by decide) (by omega) hk9 (fun hck => ?_) (fun hck => ?_)
          · skip
            refine nw_aload_n X d_Top_seriesAmount_66 rfl (lv_at hl 0 rfl) ?_
            refine gf_Top_35 X V (hz (0, 0) rfl) d_Top_seriesAmount_67 ?_
            refine hw_calli X V (hz (12, 5) (show 5 < 7 by first | assumption | omega)) rfl rfl (cm_Sub_amount l z σ1 hz 5 (by decide) hN q1 hG5.1.1) cs_Top_118 (by decide) rfl hl.1 rfl (Nat.le_of_ble_eq_true rfl) (by decide) d_Top_seriesAmount_70 (fun r σ' H locs V hr => ?_)
            obtain ⟨hσ, rfl⟩ := hr
            rw [hσ] at V
            clear hσ
            have hB := V.1.2.2
            exact hret _ _ _ _ _ _ d_Top_seriesAmount_73 V ⟨cs_56 hC hf1 hfr ⟨q1, hG5.1.1⟩ ⟨q6, hq6⟩, hfr.cq, fun _ => by rw [show el_v (nI k) = k from nI_clamp hk9, show min k 7 = t by omega, cs_cnt hG5 hT5], fun h => absurd ⟨hf1, hx0⟩ h⟩
          · skip
            refine nw_iload_n X d_Top_seriesAmount_31 rfl (lv_at hl 3 rfl) ?_
            refine nw_bipush X 7 d_Top_seriesAmount_32 (by decide) ?_
            refine nw_icmp_ge X (tgt := 66) d_Top_seriesAmount_34 (by decide) (by omega) (by decide) (fun hc7 => ?_) (fun hc7 => ?_)
            · skip
              refine nw_aload_n X d_Top_seriesAmount_66 rfl (lv_at hl 0 rfl) ?_
              refine gf_Top_35 X V (hz (0, 0) rfl) d_Top_seriesAmount_67 ?_
              refine hw_calli X V (hz (12, 5) (show 5 < 7 by first | assumption | omega)) rfl rfl (cm_Sub_amount l z σ1 hz 5 (by decide) hN q1 hG5.1.1) cs_Top_118 (by decide) rfl hl.1 rfl (Nat.le_of_ble_eq_true rfl) (by decide) d_Top_seriesAmount_70 (fun r σ' H locs V hr => ?_)
              obtain ⟨hσ, rfl⟩ := hr
              rw [hσ] at V
              clear hσ
              have hB := V.1.2.2
              exact hret _ _ _ _ _ _ d_Top_seriesAmount_73 V ⟨cs_56 hC hf1 hfr ⟨q1, hG5.1.1⟩ ⟨q6, hq6⟩, hfr.cq, fun _ => by rw [show el_v (nI k) = k from nI_clamp hk9, show min k 7 = t by omega, cs_cnt hG5 hT5], fun h => absurd ⟨hf1, hx0⟩ h⟩
            · skip
              refine nw_aload_n X d_Top_seriesAmount_37 rfl (lv_at hl 0 rfl) ?_
              refine gf_Top_38 X V (hz (0, 0) rfl) d_Top_seriesAmount_38 ?_
              refine nw_aload_n X d_Top_seriesAmount_41 rfl (lv_at hl 0 rfl) ?_
              refine gf_Top_35 X V (hz (0, 0) rfl) d_Top_seriesAmount_42 ?_
              refine nw_aload_n X d_Top_seriesAmount_45 rfl (lv_at hl 2 rfl) ?_
              refine hw_callv X V (hz (12, 6) (show 6 < 7 by first | assumption | omega)) rfl rfl (cm_Sub_becomeCommutators l z σ1 hz 6 (by decide) hLo.1 q6 hq6 5 (by decide) (by decide) q1 c1 hG5.1 4 (by decide) (by decide) qw bw (hfr.gp (by omega) hGw).1) cs_Top_128 (by decide) rfl hl.1 rfl (Nat.le_of_ble_eq_true rfl) (by decide) d_Top_seriesAmount_46 (fun σ2 H locs V hr => ?_)
              obtain ⟨q2, c2, hG2, hx2, f1⟩ := hr
              rw [hLo.2] at hG2 hx2
              have hB := V.1.2.2
              have hJ : ∀ x, x ∈ q2 ↔ sp_ser (zz_N z) (gr_p z σ) true (t + 1) x := sg_csT hG5 (hfr.gp (by omega) hGw) hT5 hwl hx2
              refine nw_aload_n X d_Top_seriesAmount_49 rfl (lv_at hl 0 rfl) ?_
              refine gf_Top_35 X V (hz (0, 0) rfl) d_Top_seriesAmount_50 ?_
              refine nw_aload_n X d_Top_seriesAmount_53 rfl (lv_at hl 0 rfl) ?_
              refine gf_Top_38 X V (hz (0, 0) rfl) d_Top_seriesAmount_54 ?_
              refine hw_callv X V (hz (12, 5) (show 5 < 7 by first | assumption | omega)) rfl rfl (cm_Sub_becomeCopy l z σ2 hz 5 (by decide) hN q1 (sg_oth hG5.1 f1 (by decide)).1 6 (by decide) (by decide) q2 c2 hG2.1) cs_Top_132 (by decide) rfl hl.1 rfl (Nat.le_of_ble_eq_true rfl) (by decide) d_Top_seriesAmount_57 (fun σ3 H locs V hr => ?_)
              obtain ⟨e3, f2⟩ := hr
              have hB := V.1.2.2
              have hG3 : sg_gp z (gr_p z σ) σ3 5 q2 c2 := ⟨e3, hG2.2⟩
              refine nw_iinc X (lv' := [(3, _), (0, _), (1, _), (2, _)]) (k := 3) 1 d_Top_seriesAmount_60 hl rfl (by decide) (by decide) rfl (fun ls hl => ?_)
              refine nw_goto X (tgt := 26) d_Top_seriesAmount_63 (by decide) ?_
              exact IH26 (t + 1) q2 c2 q2 _ _ _ _ (by omega) hc7 hck ((hfr.tr (fr_56.of6 f1)).tr (fr_56.of5 f2)) hG3 hJ (es_oth hG2.1.1 f2 (by decide)) V (lv_sub hl [1, 2, 3, 0] rfl)
      exact LP26 (7 + 1) 0 qw bw q60 _ _ _ _ (by omega) (Nat.zero_le _) (Nat.zero_le _) (fr_56.of5 f0) hG50 hwl (es_oth hq60 f0 (by decide)) V (lv_sub hl [1, 2, 3, 0] rfl)
    · skip
      have hno : ¬ (σ (0, 0) 6 = 1 ∧ ¬ x < 0) := fun h => h.2 (Int32.not_le.mp h0)
      refine nw_iconstv X (-1) d_Top_seriesAmount_11 (by decide) ?_
      exact hret _ _ _ _ _ _ d_Top_seriesAmount_12 V ⟨hC, cs_q.rf, fun h => absurd h hno, fun _ => rfl⟩
set_option maxHeartbeats 4000000 in
set_option maxRecDepth 20000 in
theorem cm_Top_derived (l : Launch) (z : zz_Z) (σ : hw_M) (hz : ∀ k, zz_k (zz_n z) k → zz_O z k) (S : Nat → Nat → Prop) (hC : cs_ok z σ S) (x : Int32) : Met l y_Top_derived (hw_c y_Top_derived b_Top_derived 2 (some .int)) (hw_r 6) (va_Pc [.ref (zz_A z (0, 0)), .int x] (zz_B z σ)) (va_Qi (fun r σ' => cs_ok z σ' S ∧ cs_q σ σ' ∧ an_o (σ (0, 0) 6 = 1 ∧ ¬ x < 0) (gp_cd (zz_N z) (sp_ser (zz_N z) (gr_p z σ) false (min (el_v x) 7))) r) (zz_B z) (zz_F z)) 0 0 (zz_F z) := by
  refine hw_meti (post := (fun r σ' => cs_ok z σ' S ∧ cs_q σ σ' ∧ an_o (σ (0, 0) 6 = 1 ∧ ¬ x < 0) (gp_cd (zz_N z) (sp_ser (zz_N z) (gr_p z σ) false (min (el_v x) 7))) r)) (by decide) (Nat.le_of_ble_eq_true rfl) ?_
  intro p e s m args below meth c ls Q X hret V hl
  have hl : lv_has ls 2 [(0, .ref (zz_A z (0, 0))), (1, .int x)] := hl
  have hB := V.1.2.2
  obtain ⟨hS, hR, hf2, hes, hfx⟩ := id hC
  obtain ⟨hn7, hN, hn, hNe, hw, hsz, hln⟩ := id hS
  refine nw_aload_n X d_Top_derived_0 rfl (lv_at hl 0 rfl) ?_
  refine nw_iload_n X d_Top_derived_1 rfl (lv_at hl 1 rfl) ?_
  refine nw_aload_n X d_Top_derived_2 rfl (lv_at hl 0 rfl) ?_
  refine gf_Top_35 X V (hz (0, 0) rfl) d_Top_derived_3 ?_
  refine hw_calli X V (hz (0, 0) rfl) rfl rfl (cm_Top_seriesAmount5 l z σ hz S hC x) cs_Top_138 (by decide) rfl hl.1 rfl (Nat.le_of_ble_eq_true rfl) (by decide) d_Top_derived_6 (fun r σ' H locs V hr => ?_)
  exact hret _ _ _ _ _ _ d_Top_derived_9 V hr
set_option maxHeartbeats 4000000 in
set_option maxRecDepth 20000 in
theorem cm_Top_lower (l : Launch) (z : zz_Z) (σ : hw_M) (hz : ∀ k, zz_k (zz_n z) k → zz_O z k) (S : Nat → Nat → Prop) (hC : cs_ok z σ S) (x : Int32) : Met l y_Top_lower (hw_c y_Top_lower b_Top_lower 2 (some .int)) (hw_r 6) (va_Pc [.ref (zz_A z (0, 0)), .int x] (zz_B z σ)) (va_Qi (fun r σ' => cs_ok z σ' S ∧ cs_q σ σ' ∧ an_o (σ (0, 0) 6 = 1 ∧ ¬ x < 0) (gp_cd (zz_N z) (sp_ser (zz_N z) (gr_p z σ) true (min (el_v x) 7))) r) (zz_B z) (zz_F z)) 0 0 (zz_F z) := by
  refine hw_meti (post := (fun r σ' => cs_ok z σ' S ∧ cs_q σ σ' ∧ an_o (σ (0, 0) 6 = 1 ∧ ¬ x < 0) (gp_cd (zz_N z) (sp_ser (zz_N z) (gr_p z σ) true (min (el_v x) 7))) r)) (by decide) (Nat.le_of_ble_eq_true rfl) ?_
  intro p e s m args below meth c ls Q X hret V hl
  have hl : lv_has ls 2 [(0, .ref (zz_A z (0, 0))), (1, .int x)] := hl
  have hB := V.1.2.2
  obtain ⟨hS, hR, hf2, hes, hfx⟩ := id hC
  obtain ⟨hn7, hN, hn, hNe, hw, hsz, hln⟩ := id hS
  refine nw_aload_n X d_Top_lower_0 rfl (lv_at hl 0 rfl) ?_
  refine nw_iload_n X d_Top_lower_1 rfl (lv_at hl 1 rfl) ?_
  refine nw_aload_n X d_Top_lower_2 rfl (lv_at hl 0 rfl) ?_
  refine gf_Top_31 X V (hz (0, 0) rfl) d_Top_lower_3 ?_
  refine hw_calli X V (hz (0, 0) rfl) rfl rfl (cm_Top_seriesAmount4 l z σ hz S hC x) cs_Top_138 (by decide) rfl hl.1 rfl (Nat.le_of_ble_eq_true rfl) (by decide) d_Top_lower_6 (fun r σ' H locs V hr => ?_)
  exact hret _ _ _ _ _ _ d_Top_lower_9 V hr
set_option maxHeartbeats 4000000 in
set_option maxRecDepth 20000 in
theorem cm_Top_centre (l : Launch) (z : zz_Z) (σ : hw_M) (hz : ∀ k, zz_k (zz_n z) k → zz_O z k) (S : Nat → Nat → Prop) (hC : cs_ok z σ S) : Met l y_Top_centre (hw_c y_Top_centre b_Top_centre 3 (some .int)) (hw_r 3) (va_Pc [.ref (zz_A z (0, 0))] (zz_B z σ)) (va_Qi (fun r σ' => σ' = σ ∧ an_o (σ (0, 0) 6 = 1) (gp_cd (zz_N z) (sp_central (zz_N z) (gr_p z σ))) r) (zz_B z) (zz_F z)) 0 0 (zz_F z) := by
  refine hw_meti (post := (fun r σ' => σ' = σ ∧ an_o (σ (0, 0) 6 = 1) (gp_cd (zz_N z) (sp_central (zz_N z) (gr_p z σ))) r)) (by decide) (Nat.le_of_ble_eq_true rfl) ?_
  intro p e s m args below meth c ls Q X hret V hl
  have hl : lv_has ls 3 [(0, .ref (zz_A z (0, 0)))] := hl
  have hB := V.1.2.2
  obtain ⟨hS, hR, hf2, hes, hfx⟩ := id hC
  obtain ⟨hn7, hN, hn, hNe, hw, hsz, hln⟩ := id hS
  refine nw_aload_n X d_Top_centre_0 rfl (lv_at hl 0 rfl) ?_
  refine gf_Top_54 X V (hz (0, 0) rfl) d_Top_centre_1 ?_
  refine nw_if_ne X (tgt := 9) d_Top_centre_4 (by decide) (by omega) (fun hc0 => ?_) (fun hc0 => ?_)
  · skip
    have hf1 : σ (0, 0) 6 = 1 := by omega
    obtain ⟨hL, hpl, qw, bw, hGw, hwl⟩ := hfx hf1
    have g := lo_gp hL
    refine nw_iconst X 0 d_Top_centre_9 (by decide) ?_
    refine nw_istore_n X (lv' := [(1, _), (0, _)]) d_Top_centre_10 rfl hl (by decide) rfl (fun ls hl => ?_)
    refine nw_iconst X 0 d_Top_centre_11 (by decide) ?_
    refine nw_istore_n X (lv' := [(2, _), (1, _), (0, _)]) d_Top_centre_12 rfl hl (by decide) rfl (fun ls hl => ?_)
    have LP13 : ∀ (d a n9 : Nat) (H : Heap) (locs : List Loc) (ls : Array Slot), zz_N z - a < d → (a ≤ zz_N z) → (n9 = gp_cd a (sp_central (zz_N z) (gr_p z σ))) → zz_V z σ s.heap H locs →  lv_has ls 3 [(0, .ref (zz_A z (0, 0))), (1, .int (nI n9)), (2, .int (nI a))] →  W p l e (hw_r 3) s m args below meth c H locs 0 0 Q (F0 m 13 ls []) := by
      intro d
      induction d with
      | zero => intro a n9 H locs ls hd; exact absurd hd (Nat.not_lt_zero _)
      | succ d IH13 =>
        intro a n9 H locs ls hd haN hcnt V hl
        have hB := V.1.2.2
        refine nw_iload_n X d_Top_centre_13 rfl (lv_at hl 2 rfl) ?_
        refine nw_aload_n X d_Top_centre_14 rfl (lv_at hl 0 rfl) ?_
        refine gf_Top_18 X V (hz (0, 0) rfl) d_Top_centre_15 ?_
        refine hw_calli X V (hz (1, 0) rfl) rfl rfl (cm_Col_elementCount l z σ (hz (1, 0) rfl)) cs_Top_43 (by decide) rfl hl.1 rfl (Nat.le_of_ble_eq_true rfl) (by decide) d_Top_centre_18 (fun r σ' H locs V hr => ?_)
        obtain ⟨hσ, rfl⟩ := hr
        rw [hσ] at V
        clear hσ
        have hB := V.1.2.2
        rw [hNe]
        refine nw_icmp_ge X (tgt := 44) d_Top_centre_21 (by decide) (by first | assumption | omega) (by first | assumption | omega) (fun ha => ?_) (fun ha => ?_)
        · skip
          refine nw_iload_n X d_Top_centre_44 rfl (lv_at hl 1 rfl) ?_
          exact hret _ _ _ _ _ _ d_Top_centre_45 V ⟨rfl, fun _ => by rw [hcnt, show a = zz_N z by omega], fun h => absurd hf1 h⟩
        · skip
          refine nw_aload_n X d_Top_centre_24 rfl (lv_at hl 0 rfl) ?_
          refine gf_Top_18 X V (hz (0, 0) rfl) d_Top_centre_25 ?_
          refine nw_iload_n X d_Top_centre_28 rfl (lv_at hl 2 rfl) ?_
          refine hw_calli X V (hz (1, 0) rfl) rfl rfl (cm_Col_isCentral l z σ hz hL a ha) cs_Top_142 (by decide) rfl hl.1 rfl (Nat.le_of_ble_eq_true rfl) (by decide) d_Top_centre_29 (fun r σ' H locs V hr => ?_)
          obtain ⟨b1, hb1, rfl, hσ, hbp1⟩ := hr
          rw [hσ] at V
          clear hσ
          have hB := V.1.2.2
          have hce : b1 = 1 ↔ sp_central (zz_N z) (gr_p z σ) a := hbp1.trans ⟨fun h => gp_central g (gr_let hL) (gr_gen hL) ha (fun s hs => by obtain ⟨t, ht, rfl⟩ := hs; exact h t ht), fun h i hi => h _ (gr_let hL _ ⟨i, hi, rfl⟩)⟩
          refine nw_if_eq X (tgt := 38) d_Top_centre_32 (by decide) (by omega) (fun hcb => ?_) (fun hcb => ?_)
          · skip
            have hcnt2 : n9 = gp_cd (a + 1) (sp_central (zz_N z) (gr_p z σ)) := by rw [(gp_cd_succ a).2 (fun h => by have := hce.mpr h; omega)]; exact hcnt
            refine nw_iinc X (lv' := [(2, _), (0, _), (1, _)]) (k := 2) 1 d_Top_centre_38 hl rfl (by decide) (by decide) rfl (fun ls hl => ?_)
            refine nw_goto X (tgt := 13) d_Top_centre_41 (by decide) ?_
            exact IH13 (a + 1) _ _ _ _ (by omega) ha hcnt2 V (lv_sub hl [1, 2, 0] rfl)
          · skip
            have hcnt2 : n9 + 1 = gp_cd (a + 1) (sp_central (zz_N z) (gr_p z σ)) := by rw [(gp_cd_succ a).1 (hce.mp (by omega)), hcnt]
            refine nw_iinc X (lv' := [(1, _), (0, _), (2, _)]) (k := 1) 1 d_Top_centre_35 hl rfl (by decide) (by decide) rfl (fun ls hl => ?_)
            refine nw_iinc X (lv' := [(2, _), (1, _), (0, _)]) (k := 2) 1 d_Top_centre_38 hl rfl (by decide) (by decide) rfl (fun ls hl => ?_)
            refine nw_goto X (tgt := 13) d_Top_centre_41 (by decide) ?_
            exact IH13 (a + 1) _ _ _ _ (by omega) ha hcnt2 V (lv_sub hl [2, 1, 0] rfl)
    exact LP13 (zz_N z + 1) 0 0 _ _ _ (by omega) (Nat.zero_le _) rfl V (lv_sub hl [2, 1, 0] rfl)
  · skip
    refine nw_iconstv X (-1) d_Top_centre_7 (by decide) ?_
    exact hret _ _ _ _ _ _ d_Top_centre_8 V ⟨rfl, fun h => by omega, fun _ => rfl⟩
set_option maxHeartbeats 4000000 in
set_option maxRecDepth 20000 in
theorem cm_Top_addClass (l : Launch) (z : zz_Z) (σ : hw_M) (hz : ∀ k, zz_k (zz_n z) k → zz_O z k) (hL : lo_ok z σ 0) (q : List Nat) (hE : es_ok z σ 7 q) (hk0 : kn_ok z σ q) (a : Nat) (ha : a < zz_N z) : Met l y_Top_addClass (hw_c y_Top_addClass b_Top_addClass 5 none) (hw_r 3) (va_Pc [.ref (zz_A z (0, 0)), .int (nI a)] (zz_B z σ)) (va_Qv (fun σ' => ∃ q', es_ok z σ' 7 q' ∧ (∀ x, x ∈ q' ↔ x ∈ q ∨ sp_kin (zz_N z) (gr_p z σ) a x) ∧ kn_ok z σ q' ∧ es_fr 7 σ σ') (zz_B z) (zz_F z)) 0 0 (zz_F z) := by
  refine hw_metv (post := (fun σ' => ∃ q', es_ok z σ' 7 q' ∧ (∀ x, x ∈ q' ↔ x ∈ q ∨ sp_kin (zz_N z) (gr_p z σ) a x) ∧ kn_ok z σ q' ∧ es_fr 7 σ σ')) (by decide) (Nat.le_of_ble_eq_true rfl) ?_
  intro p e s m args below meth c ls Q X hret V hl
  have hl : lv_has ls 5 [(0, .ref (zz_A z (0, 0))), (1, .int (nI a))] := hl
  have hB := V.1.2.2
  obtain ⟨⟨hn7, hN, hn, hNe, hw, hsz, hln⟩, hk, ht⟩ := id hL
  have g := lo_gp hL
  have h13 : zz_O z (13, 7) := hz (13, 7) (show 7 < 8 by decide)
  have h14 : zz_O z (14, 7) := hz (14, 7) (show 7 < 8 by decide)
  have h15 : zz_O z (15, 7) := hz (15, 7) (show 7 < 8 by decide)
  refine nw_aload_n X d_Top_addClass_0 rfl (lv_at hl 0 rfl) ?_
  refine gf_Top_50 X V (hz (0, 0) rfl) d_Top_addClass_1 ?_
  refine hw_calli X V (hz (13, 7) (show 7 < 8 by first | assumption | omega)) rfl rfl (cm_Set_amount l z σ 7 q h13 h14 h15 hN hE) cs_Top_152 (by decide) rfl hl.1 rfl (Nat.le_of_ble_eq_true rfl) (by decide) d_Top_addClass_4 (fun r σ' H locs V hr => ?_)
  obtain ⟨hσ, rfl⟩ := hr
  rw [hσ] at V
  clear hσ
  have hB := V.1.2.2
  refine nw_istore_n X (lv' := [(2, _), (0, _), (1, _)]) d_Top_addClass_7 rfl hl (by decide) rfl (fun ls hl => ?_)
  refine nw_aload_n X d_Top_addClass_8 rfl (lv_at hl 1 rfl) ?_
  refine gf_Top_50 X V (hz (0, 0) rfl) d_Top_addClass_9 ?_
  refine nw_iload_n X d_Top_addClass_12 rfl (lv_at hl 2 rfl) ?_
  refine hw_callv X V (hz (13, 7) (show 7 < 8 by first | assumption | omega)) rfl rfl (cm_Set_add l z σ 7 q h13 h14 h15 hN hE a ha) cs_Top_156 (by decide) rfl hl.1 rfl (Nat.le_of_ble_eq_true rfl) (by decide) d_Top_addClass_13 (fun σ0 H locs V hr => ?_)
  obtain ⟨e0, f0⟩ := hr
  have hB := V.1.2.2
  refine nw_iload_n X d_Top_addClass_16 rfl (lv_at hl 0 rfl) ?_
  refine nw_istore_n X (lv' := [(3, _), (2, _), (0, _), (1, _)]) d_Top_addClass_17 rfl hl (by decide) rfl (fun ls hl => ?_)
  have LP18 : ∀ (d k : Nat) (q1 : List Nat) (σ1 : hw_M) (H : Heap) (locs : List Loc) (ls : Array Slot), zz_N z - k < d → (k ≤ zz_N z) → (es_fr 7 σ σ1) → (es_ok z σ1 7 q1) → (∀ i, i < q.length → q1.getD i 0 = q.getD i 0) → (q.length ≤ q1.length) → (a ∈ q1) → (∀ x, x ∈ q1 → x ∈ q ∨ sp_kin (zz_N z) (gr_p z σ) a x) → (∀ i, i < k → i < q1.length → ∀ t, t < zz_n z → gp_cj (zz_N z) (gr_p z σ) (q1.getD i 0) (σ (3, 0) t) ∈ q1) → zz_V z σ1 s.heap H locs →  lv_has ls 5 [(0, .ref (zz_A z (0, 0))), (3, .int (nI k))] →  W p l e (hw_r 3) s m args below meth c H locs 0 0 Q (F0 m 18 ls []) := by
    intro d
    induction d with
    | zero => intro k q1 σ1 H locs ls hd; exact absurd hd (Nat.not_lt_zero _)
    | succ d IH18 =>
      intro k q1 σ1 H locs ls hd hkN hfr hE1 hpre hlq ha1 hx hcl V hl
      have hB := V.1.2.2
      have hLo := hfr.cq.lo hL
      have hlen := es_len hE1
      have e3 : σ1 (3, 0) = σ (3, 0) := hfr.cq (3, 0) (Or.inl (by decide))
      refine nw_iload_n X d_Top_addClass_18 rfl (lv_at hl 1 rfl) ?_
      refine nw_aload_n X d_Top_addClass_19 rfl (lv_at hl 0 rfl) ?_
      refine gf_Top_18 X V (hz (0, 0) rfl) d_Top_addClass_20 ?_
      refine hw_calli X V (hz (1, 0) rfl) rfl rfl (cm_Col_elementCount l z σ1 (hz (1, 0) rfl)) cs_Top_43 (by decide) rfl hl.1 rfl (Nat.le_of_ble_eq_true rfl) (by decide) d_Top_addClass_23 (fun r σ' H locs V hr => ?_)
      obtain ⟨hσ, rfl⟩ := hr
      rw [hσ] at V
      clear hσ
      have hB := V.1.2.2
      rw [hLo.1.1.2.2.2.1]
      refine nw_icmp_ge X (tgt := 98) d_Top_addClass_26 (by decide) (by first | assumption | omega) (by first | assumption | omega) (fun hck => ?_) (fun hck => ?_)
      · skip
        exact hret _ _ _ _ _ d_Top_addClass_98 V ⟨q1, hE1, kn_end hL ha hE1.2.1 (fun x hx9 => by obtain ⟨i, h1, h2⟩ := ls_mem_at hx9; rw [← h2, ← hpre i h1]; exact ls_at_mem (by omega)) ha1 hx (fun x t hx9 ht => by obtain ⟨i, h1, h2⟩ := ls_mem_at hx9; rw [← h2]; exact hcl i (by omega) h1 t ht), fun x t hx9 ht => by obtain ⟨i, h1, h2⟩ := ls_mem_at hx9; rw [← h2]; exact hcl i (by omega) h1 t ht, hfr⟩
      · skip
        refine nw_iload_n X d_Top_addClass_29 rfl (lv_at hl 1 rfl) ?_
        refine nw_aload_n X d_Top_addClass_30 rfl (lv_at hl 0 rfl) ?_
        refine gf_Top_50 X V (hz (0, 0) rfl) d_Top_addClass_31 ?_
        refine hw_calli X V (hz (13, 7) (show 7 < 8 by first | assumption | omega)) rfl rfl (cm_Set_amount l z σ1 7 q1 h13 h14 h15 hN hE1) cs_Top_152 (by decide) rfl hl.1 rfl (Nat.le_of_ble_eq_true rfl) (by decide) d_Top_addClass_34 (fun r σ' H locs V hr => ?_)
        obtain ⟨hσ, rfl⟩ := hr
        rw [hσ] at V
        clear hσ
        have hB := V.1.2.2
        refine nw_icmp_ge X (tgt := 98) d_Top_addClass_37 (by decide) (by first | assumption | omega) (by first | assumption | omega) (fun hkq => ?_) (fun hkq => ?_)
        · skip
          exact hret _ _ _ _ _ d_Top_addClass_98 V ⟨q1, hE1, kn_end hL ha hE1.2.1 (fun x hx9 => by obtain ⟨i, h1, h2⟩ := ls_mem_at hx9; rw [← h2, ← hpre i h1]; exact ls_at_mem (by omega)) ha1 hx (fun x t hx9 ht => by obtain ⟨i, h1, h2⟩ := ls_mem_at hx9; rw [← h2]; exact hcl i (by omega) h1 t ht), fun x t hx9 ht => by obtain ⟨i, h1, h2⟩ := ls_mem_at hx9; rw [← h2]; exact hcl i (by omega) h1 t ht, hfr⟩
        · skip
          refine nw_iconst X 0 d_Top_addClass_40 (by decide) ?_
          refine nw_istore X (lv' := [(4, _), (0, _), (3, _)]) d_Top_addClass_41 hl (by decide) rfl (fun ls hl => ?_)
          have LP43 : ∀ (d i9 : Nat) (q1 : List Nat) (σ1 : hw_M) (H : Heap) (locs : List Loc) (ls : Array Slot), zz_n z - i9 < d → (i9 ≤ zz_n z) → (es_fr 7 σ σ1) → (es_ok z σ1 7 q1) → (∀ i, i < q.length → q1.getD i 0 = q.getD i 0) → (q.length ≤ q1.length) → (a ∈ q1) → (∀ x, x ∈ q1 → x ∈ q ∨ sp_kin (zz_N z) (gr_p z σ) a x) → (∀ i, i < k → i < q1.length → ∀ t, t < zz_n z → gp_cj (zz_N z) (gr_p z σ) (q1.getD i 0) (σ (3, 0) t) ∈ q1) → (k < q1.length) → (∀ t, t < i9 → gp_cj (zz_N z) (gr_p z σ) (q1.getD k 0) (σ (3, 0) t) ∈ q1) → zz_V z σ1 s.heap H locs →  lv_has ls 5 [(0, .ref (zz_A z (0, 0))), (3, .int (nI k)), (4, .int (nI i9))] →  W p l e (hw_r 3) s m args below meth c H locs 0 0 Q (F0 m 43 ls []) := by
            intro d
            induction d with
            | zero => intro i9 q1 σ1 H locs ls hd; exact absurd hd (Nat.not_lt_zero _)
            | succ d IH43 =>
              intro i9 q1 σ1 H locs ls hd hin9 hfr hE1 hpre hlq ha1 hx hcl hkq hin V hl
              have hB := V.1.2.2
              have hLo := hfr.cq.lo hL
              have hlen := es_len hE1
              have e3 : σ1 (3, 0) = σ (3, 0) := hfr.cq (3, 0) (Or.inl (by decide))
              refine nw_iload X d_Top_addClass_43 (lv_at hl 2 rfl) ?_
              refine nw_aload_n X d_Top_addClass_45 rfl (lv_at hl 0 rfl) ?_
              refine gf_Top_18 X V (hz (0, 0) rfl) d_Top_addClass_46 ?_
              refine hw_calli X V (hz (1, 0) rfl) rfl rfl (cm_Col_letterCount l z σ1 hz hLo.1.1) cs_Top_58 (by decide) rfl hl.1 rfl (Nat.le_of_ble_eq_true rfl) (by decide) d_Top_addClass_49 (fun r σ' H locs V hr => ?_)
              obtain ⟨hσ, rfl⟩ := hr
              rw [hσ] at V
              clear hσ
              have hB := V.1.2.2
              refine nw_icmp_ge X (tgt := 92) d_Top_addClass_52 (by decide) (by first | assumption | omega) (by first | assumption | omega) (fun hi9 => ?_) (fun hi9 => ?_)
              · skip
                refine nw_iinc X (lv' := [(3, _), (0, _), (4, _)]) (k := 1) 1 d_Top_addClass_92 hl rfl (by decide) (by decide) rfl (fun ls hl => ?_)
                refine nw_goto X (tgt := 18) d_Top_addClass_95 (by decide) ?_
                exact IH18 (k + 1) q1 _ _ _ _ (by omega) hck hfr hE1 hpre hlq ha1 hx (fun i h1 h2 t ht => by by_cases e : i = k; rw [e]; exact hin t (by omega); exact hcl i (by omega) h2 t ht) V (lv_sub hl [1, 0] rfl)
              · skip
                have hq9 : q1.getD k 0 < zz_N z := hE1.2.1 _ (ls_at_mem hkq)
                have hw9 : σ (3, 0) i9 < zz_N z := gr_let hL _ ⟨i9, hi9, rfl⟩
                refine nw_aload_n X d_Top_addClass_55 rfl (lv_at hl 0 rfl) ?_
                refine gf_Top_50 X V (hz (0, 0) rfl) d_Top_addClass_56 ?_
                refine nw_aload_n X d_Top_addClass_59 rfl (lv_at hl 0 rfl) ?_
                refine gf_Top_18 X V (hz (0, 0) rfl) d_Top_addClass_60 ?_
                refine nw_aload_n X d_Top_addClass_63 rfl (lv_at hl 0 rfl) ?_
                refine gf_Top_50 X V (hz (0, 0) rfl) d_Top_addClass_64 ?_
                refine nw_iload_n X d_Top_addClass_67 rfl (lv_at hl 1 rfl) ?_
                refine hw_calli X V (hz (13, 7) (show 7 < 8 by first | assumption | omega)) rfl rfl (cm_Set_member l z σ1 7 q1 h13 h14 h15 hN hE1 k hkq) cs_Top_159 (by decide) rfl hl.1 rfl (Nat.le_of_ble_eq_true rfl) (by decide) d_Top_addClass_68 (fun r σ' H locs V hr => ?_)
                obtain ⟨hσ, rfl⟩ := hr
                rw [hσ] at V
                clear hσ
                have hB := V.1.2.2
                refine nw_aload_n X d_Top_addClass_71 rfl (lv_at hl 0 rfl) ?_
                refine gf_Top_18 X V (hz (0, 0) rfl) d_Top_addClass_72 ?_
                refine nw_iload X d_Top_addClass_75 (lv_at hl 2 rfl) ?_
                refine hw_calli X V (hz (1, 0) rfl) rfl rfl (cm_Col_letter l z σ1 hz hLo.1.1 i9 hi9) cs_Top_65 (by decide) rfl hl.1 rfl (Nat.le_of_ble_eq_true rfl) (by decide) d_Top_addClass_77 (fun r σ' H locs V hr => ?_)
                obtain ⟨hσ, rfl⟩ := hr
                rw [hσ] at V
                clear hσ
                have hB := V.1.2.2
                rw [e3]
                refine hw_calli X V (hz (1, 0) rfl) rfl rfl (cm_Col_conjugateOf l z σ1 hz hLo.1 _ _ hq9 hw9) cs_Top_109 (by decide) rfl hl.1 rfl (Nat.le_of_ble_eq_true rfl) (by decide) d_Top_addClass_80 (fun r σ' H locs V hr => ?_)
                obtain ⟨hσ, rfl⟩ := hr
                rw [hσ] at V
                clear hσ
                have hB := V.1.2.2
                rw [hLo.2]
                have hxl : gp_cj (zz_N z) (gr_p z σ) (q1.getD k 0) (σ (3, 0) i9) < zz_N z := g.cjl hq9 hw9
                have hx9 : gp_cj (zz_N z) (gr_p z σ) (q1.getD k 0) (σ (3, 0) i9) ∈ q ∨ sp_kin (zz_N z) (gr_p z σ) a (gp_cj (zz_N z) (gr_p z σ) (q1.getD k 0) (σ (3, 0) i9)) := (hx _ (ls_at_mem hkq)).elim (fun h => Or.inl (hk0 _ i9 h hi9)) (fun h => Or.inr (kn_step g ha hw9 h))
                generalize hxe : gp_cj (zz_N z) (gr_p z σ) (q1.getD k 0) (σ (3, 0) i9) = x at hxl ⊢
                refine hw_callv X V (hz (13, 7) (show 7 < 8 by first | assumption | omega)) rfl rfl (cm_Set_add l z σ1 7 q1 h13 h14 h15 hN hE1 x hxl) cs_Top_156 (by decide) rfl hl.1 rfl (Nat.le_of_ble_eq_true rfl) (by decide) d_Top_addClass_83 (fun σ2 H locs V hr => ?_)
                obtain ⟨e9, f9⟩ := hr
                have hB := V.1.2.2
                refine nw_iinc X (lv' := [(4, _), (0, _), (3, _)]) (k := 2) 1 d_Top_addClass_86 hl rfl (by decide) (by decide) rfl (fun ls hl => ?_)
                refine nw_goto X (tgt := 43) d_Top_addClass_89 (by decide) ?_
                exact IH43 (i9 + 1) (ls_add q1 x) _ _ _ _ (by omega) hi9 (hfr.tr f9) e9 (fun i hi => by rw [ls_add_at (by omega)]; exact hpre i hi) (Nat.le_trans hlq ls_add_len) (ls_add_mem.mpr (Or.inl ha1)) (fun y hy => (ls_add_mem.mp hy).elim (hx y) (fun e => by rw [e, ← hxe]; exact hx9)) (fun i h1 h2 t ht => by rw [ls_add_at (by omega)]; exact ls_add_mem.mpr (Or.inl (hcl i h1 (by omega) t ht))) (Nat.lt_of_lt_of_le hkq ls_add_len) (fun t ht => by rw [ls_add_at hkq]; by_cases e : t = i9; rw [e]; exact ls_add_mem.mpr (Or.inr hxe); exact ls_add_mem.mpr (Or.inl (hin t (by omega)))) V (lv_sub hl [1, 2, 0] rfl)
          exact LP43 (zz_n z + 1) 0 q1 _ _ _ _ (by omega) (Nat.zero_le _) hfr hE1 hpre hlq ha1 hx hcl hkq (fun t ht => absurd ht (Nat.not_lt_zero _)) V (lv_sub hl [1, 2, 0] rfl)
  exact LP18 (zz_N z + 1) q.length (ls_add q a) _ _ _ _ (by omega) (es_len hE) f0 e0 (fun i hi => ls_add_at hi) ls_add_len (ls_add_mem.mpr (Or.inr rfl)) (fun x hx => (ls_add_mem.mp hx).elim Or.inl (fun e => Or.inr (by rw [e]; exact kn_self g ha))) (fun i h1 h2 t ht => by rw [ls_add_at h1]; exact ls_add_mem.mpr (Or.inl (hk0 _ t (ls_at_mem h1) ht))) V (lv_sub hl [2, 0] rfl)
set_option maxHeartbeats 4000000 in
set_option maxRecDepth 20000 in
theorem cm_Top_classes (l : Launch) (z : zz_Z) (σ : hw_M) (hz : ∀ k, zz_k (zz_n z) k → zz_O z k) (S : Nat → Nat → Prop) (hC : cs_ok z σ S) : Met l y_Top_classes (hw_c y_Top_classes b_Top_classes 3 (some .int)) (hw_r 4) (va_Pc [.ref (zz_A z (0, 0))] (zz_B z σ)) (va_Qi (fun r σ' => cs_ok z σ' S ∧ cs_q σ σ' ∧ an_o (σ (0, 0) 6 = 1) (gp_cd (zz_N z) (sp_least (zz_N z) (gr_p z σ))) r) (zz_B z) (zz_F z)) 0 0 (zz_F z) := by
  refine hw_meti (post := (fun r σ' => cs_ok z σ' S ∧ cs_q σ σ' ∧ an_o (σ (0, 0) 6 = 1) (gp_cd (zz_N z) (sp_least (zz_N z) (gr_p z σ))) r)) (by decide) (Nat.le_of_ble_eq_true rfl) ?_
  intro p e s m args below meth c ls Q X hret V hl
  have hl : lv_has ls 3 [(0, .ref (zz_A z (0, 0)))] := hl
  have hB := V.1.2.2
  obtain ⟨hS, hR, hf2, hes, hfx⟩ := id hC
  obtain ⟨hn7, hN, hn, hNe, hw, hsz, hln⟩ := id hS
  have h13 : zz_O z (13, 7) := hz (13, 7) (show 7 < 8 by decide)
  have h14 : zz_O z (14, 7) := hz (14, 7) (show 7 < 8 by decide)
  have h15 : zz_O z (15, 7) := hz (15, 7) (show 7 < 8 by decide)
  refine nw_aload_n X d_Top_classes_0 rfl (lv_at hl 0 rfl) ?_
  refine gf_Top_54 X V (hz (0, 0) rfl) d_Top_classes_1 ?_
  refine nw_if_ne X (tgt := 9) d_Top_classes_4 (by decide) (by omega) (fun hc0 => ?_) (fun hc0 => ?_)
  · skip
    have hf1 : σ (0, 0) 6 = 1 := by omega
    obtain ⟨hL, hpl, qw, bw, hGw, hwl⟩ := hfx hf1
    have g := lo_gp hL
    obtain ⟨q7, hq7⟩ := hes 7 (by decide)
    refine nw_iconst X 0 d_Top_classes_9 (by decide) ?_
    refine nw_istore_n X (lv' := [(1, _), (0, _)]) d_Top_classes_10 rfl hl (by decide) rfl (fun ls hl => ?_)
    refine nw_aload_n X d_Top_classes_11 rfl (lv_at hl 1 rfl) ?_
    refine gf_Top_50 X V (hz (0, 0) rfl) d_Top_classes_12 ?_
    refine hw_callv X V (hz (13, 7) (show 7 < 8 by first | assumption | omega)) rfl rfl (cm_Set_empty l z σ 7 q7 h13 h14 h15 hN hq7) cs_Top_145 (by decide) rfl hl.1 rfl (Nat.le_of_ble_eq_true rfl) (by decide) d_Top_classes_15 (fun σ0 H locs V hr => ?_)
    obtain ⟨e0, f0⟩ := hr
    have hB := V.1.2.2
    have hL0 := f0.cq.lo hL
    have e30 : σ0 (3, 0) = σ (3, 0) := f0.cq (3, 0) (Or.inl (by decide))
    refine nw_iconst X 0 d_Top_classes_18 (by decide) ?_
    refine nw_istore_n X (lv' := [(2, _), (1, _), (0, _)]) d_Top_classes_19 rfl hl (by decide) rfl (fun ls hl => ?_)
    have LP20 : ∀ (d a n9 : Nat) (q1 : List Nat) (σ1 : hw_M) (H : Heap) (locs : List Loc) (ls : Array Slot), zz_N z - a < d → (a ≤ zz_N z) → (n9 = gp_cd a (sp_least (zz_N z) (gr_p z σ))) → (es_fr 7 σ σ1) → (es_ok z σ1 7 q1) → (kn_ok z σ q1) → (∀ x, x ∈ q1 ↔ ∃ b, b < a ∧ sp_kin (zz_N z) (gr_p z σ) b x) → zz_V z σ1 s.heap H locs →  lv_has ls 3 [(0, .ref (zz_A z (0, 0))), (1, .int (nI n9)), (2, .int (nI a))] →  W p l e (hw_r 4) s m args below meth c H locs 0 0 Q (F0 m 20 ls []) := by
      intro d
      induction d with
      | zero => intro a n9 q1 σ1 H locs ls hd; exact absurd hd (Nat.not_lt_zero _)
      | succ d IH20 =>
        intro a n9 q1 σ1 H locs ls hd haN hcnt hfr hE1 hk1 hx V hl
        have hB := V.1.2.2
        have hLo := hfr.cq.lo hL
        have e3 : σ1 (3, 0) = σ (3, 0) := hfr.cq (3, 0) (Or.inl (by decide))
        refine nw_iload_n X d_Top_classes_20 rfl (lv_at hl 2 rfl) ?_
        refine nw_aload_n X d_Top_classes_21 rfl (lv_at hl 0 rfl) ?_
        refine gf_Top_18 X V (hz (0, 0) rfl) d_Top_classes_22 ?_
        refine hw_calli X V (hz (1, 0) rfl) rfl rfl (cm_Col_elementCount l z σ1 (hz (1, 0) rfl)) cs_Top_43 (by decide) rfl hl.1 rfl (Nat.le_of_ble_eq_true rfl) (by decide) d_Top_classes_25 (fun r σ' H locs V hr => ?_)
        obtain ⟨hσ, rfl⟩ := hr
        rw [hσ] at V
        clear hσ
        have hB := V.1.2.2
        rw [hLo.1.1.2.2.2.1]
        refine nw_icmp_ge X (tgt := 56) d_Top_classes_28 (by decide) (by first | assumption | omega) (by first | assumption | omega) (fun ha => ?_) (fun ha => ?_)
        · skip
          refine nw_iload_n X d_Top_classes_56 rfl (lv_at hl 1 rfl) ?_
          exact hret _ _ _ _ _ _ d_Top_classes_57 V (by
            have h9 := cs_7 hC hf1 hfr ⟨q1, hE1⟩
            exact ⟨h9.1, h9.2, fun _ => by rw [hcnt, show a = zz_N z by omega], fun h => absurd hf1 h⟩)
        · skip
          refine nw_aload_n X d_Top_classes_31 rfl (lv_at hl 0 rfl) ?_
          refine gf_Top_50 X V (hz (0, 0) rfl) d_Top_classes_32 ?_
          refine nw_iload_n X d_Top_classes_35 rfl (lv_at hl 2 rfl) ?_
          refine hw_calli X V (hz (13, 7) (show 7 < 8 by first | assumption | omega)) rfl rfl (cm_Set_holds l z σ1 7 q1 h13 h14 h15 hN hE1 a ha) cs_Top_148 (by decide) rfl hl.1 rfl (Nat.le_of_ble_eq_true rfl) (by decide) d_Top_classes_36 (fun r σ' H locs V hr => ?_)
          obtain ⟨b1, hb1, rfl, hσ, hbp1⟩ := hr
          rw [hσ] at V
          clear hσ
          have hB := V.1.2.2
          refine nw_if_ne X (tgt := 50) d_Top_classes_39 (by decide) (by omega) (fun hcb => ?_) (fun hcb => ?_)
          · skip
            have hin : a ∈ q1 := Classical.byContradiction fun h => hcb (by rw [hbp1, if_neg h])
            have hnl : ¬ sp_least (zz_N z) (gr_p z σ) a := kn_nl g ha ((hx a).mp hin)
            have hcnt2 : n9 = gp_cd (a + 1) (sp_least (zz_N z) (gr_p z σ)) := by rw [(gp_cd_succ a).2 hnl]; exact hcnt
            have hfr2 := hfr
            have hE2 := hE1
            have hk2 := hk1
            have hx2 := kn_same g ha hin hx
            refine nw_iinc X (lv' := [(2, _), (0, _), (1, _)]) (k := 2) 1 d_Top_classes_50 hl rfl (by decide) (by decide) rfl (fun ls hl => ?_)
            refine nw_goto X (tgt := 20) d_Top_classes_53 (by decide) ?_
            exact IH20 (a + 1) _ _ _ _ _ _ (by omega) ha hcnt2 hfr2 hE2 hk2 hx2 V (lv_sub hl [1, 2, 0] rfl)
          · skip
            have hn9 : a ∉ q1 := fun h => by rw [if_pos h] at hbp1; omega
            have hcnt2 : n9 + 1 = gp_cd (a + 1) (sp_least (zz_N z) (gr_p z σ)) := by rw [(gp_cd_succ a).1 (kn_l g ha (fun h => hn9 ((hx a).mpr h))), hcnt]
            refine nw_aload_n X d_Top_classes_42 rfl (lv_at hl 0 rfl) ?_
            refine nw_iload_n X d_Top_classes_43 rfl (lv_at hl 2 rfl) ?_
            refine hw_callv X V (hz (0, 0) rfl) rfl rfl (cm_Top_addClass l z σ1 hz hLo.1 q1 hE1 (kn_mv hLo.2 e3 hk1) a ha) cs_Top_149 (by decide) rfl hl.1 rfl (Nat.le_of_ble_eq_true rfl) (by decide) d_Top_classes_44 (fun σ2 H locs V hr => ?_)
            obtain ⟨q2, hE2, hx9, hk9, f9⟩ := hr
            rw [hLo.2] at hx9
            have hB := V.1.2.2
            have hfr2 := hfr.tr f9
            have hk2 : kn_ok z σ q2 := kn_mv hLo.2.symm e3.symm hk9
            have hx2 : ∀ x, x ∈ q2 ↔ ∃ b, b < a + 1 ∧ sp_kin (zz_N z) (gr_p z σ) b x := fun x => (hx9 x).trans ⟨fun h => h.elim (fun q => by obtain ⟨b, h1, h2⟩ := (hx x).mp q; exact ⟨b, by omega, h2⟩) (fun q => ⟨a, by omega, q⟩), fun ⟨b, h1, h2⟩ => by by_cases e : b = a; rw [e] at h2; exact Or.inr h2; exact Or.inl ((hx x).mpr ⟨b, by omega, h2⟩)⟩
            refine nw_iinc X (lv' := [(1, _), (0, _), (2, _)]) (k := 1) 1 d_Top_classes_47 hl rfl (by decide) (by decide) rfl (fun ls hl => ?_)
            refine nw_iinc X (lv' := [(2, _), (1, _), (0, _)]) (k := 2) 1 d_Top_classes_50 hl rfl (by decide) (by decide) rfl (fun ls hl => ?_)
            refine nw_goto X (tgt := 20) d_Top_classes_53 (by decide) ?_
            exact IH20 (a + 1) _ _ _ _ _ _ (by omega) ha hcnt2 hfr2 hE2 hk2 hx2 V (lv_sub hl [2, 1, 0] rfl)
    exact LP20 (zz_N z + 1) 0 0 [] _ _ _ _ (by omega) (Nat.zero_le _) rfl f0 e0 (fun x t hx => absurd hx List.not_mem_nil) (fun x => ⟨fun h => absurd h List.not_mem_nil, fun ⟨b, h, _⟩ => absurd h (Nat.not_lt_zero _)⟩) V (lv_sub hl [2, 1, 0] rfl)
  · skip
    refine nw_iconstv X (-1) d_Top_classes_7 (by decide) ?_
    exact hret _ _ _ _ _ _ d_Top_classes_8 V ⟨hC, cs_q.rf, fun h => by omega, fun _ => rfl⟩
set_option maxHeartbeats 4000000 in
set_option maxRecDepth 20000 in
theorem cm_Top_kin (l : Launch) (z : zz_Z) (σ : hw_M) (hz : ∀ k, zz_k (zz_n z) k → zz_O z k) (S : Nat → Nat → Prop) (hC : cs_ok z σ S) (x : Int32) : Met l y_Top_kin (hw_c y_Top_kin b_Top_kin 2 (some .int)) (hw_r 4) (va_Pc [.ref (zz_A z (0, 0)), .int x] (zz_B z σ)) (va_Qi (fun r σ' => cs_ok z σ' S ∧ cs_q σ σ' ∧ an_o (σ (0, 0) 6 = 1 ∧ el_i (zz_N z) x) (gp_cd (zz_N z) (sp_kin (zz_N z) (gr_p z σ) (el_v x))) r) (zz_B z) (zz_F z)) 0 0 (zz_F z) := by
  refine hw_meti (post := (fun r σ' => cs_ok z σ' S ∧ cs_q σ σ' ∧ an_o (σ (0, 0) 6 = 1 ∧ el_i (zz_N z) x) (gp_cd (zz_N z) (sp_kin (zz_N z) (gr_p z σ) (el_v x))) r)) (by decide) (Nat.le_of_ble_eq_true rfl) ?_
  intro p e s m args below meth c ls Q X hret V hl
  have hl : lv_has ls 2 [(0, .ref (zz_A z (0, 0))), (1, .int x)] := hl
  have hB := V.1.2.2
  obtain ⟨hS, hR, hf2, hes, hfx⟩ := id hC
  obtain ⟨hn7, hN, hn, hNe, hw, hsz, hln⟩ := id hS
  have h13 : zz_O z (13, 7) := hz (13, 7) (show 7 < 8 by decide)
  have h14 : zz_O z (14, 7) := hz (14, 7) (show 7 < 8 by decide)
  have h15 : zz_O z (15, 7) := hz (15, 7) (show 7 < 8 by decide)
  refine nw_aload_n X d_Top_kin_0 rfl (lv_at hl 0 rfl) ?_
  refine nw_iload_n X d_Top_kin_1 rfl (lv_at hl 1 rfl) ?_
  refine hw_calli X V (hz (0, 0) rfl) rfl rfl (cm_Top_isElement l z σ hz S hC x) cs_Top_91 (by decide) rfl hl.1 rfl (Nat.le_of_ble_eq_true rfl) (by decide) d_Top_kin_2 (fun r σ' H locs V hr => ?_)
  obtain ⟨b1, hb1, rfl, hσ, hbp1⟩ := hr
  rw [hσ] at V
  clear hσ
  have hB := V.1.2.2
  refine nw_if_ne X (tgt := 10) d_Top_kin_5 (by decide) (by omega) (fun hc => ?_) (fun hc => ?_)
  · skip
    obtain ⟨hf1, a, ha, rfl⟩ := hbp1.mp (by omega)
    obtain ⟨hL, hpl, qw, bw, hGw, hwl⟩ := hfx hf1
    have g := lo_gp hL
    obtain ⟨q7, hq7⟩ := hes 7 (by decide)
    have ev : el_v (nI a) = a := el_nv (by omega) ha
    refine nw_aload_n X d_Top_kin_10 rfl (lv_at hl 0 rfl) ?_
    refine gf_Top_50 X V (hz (0, 0) rfl) d_Top_kin_11 ?_
    refine hw_callv X V (hz (13, 7) (show 7 < 8 by first | assumption | omega)) rfl rfl (cm_Set_empty l z σ 7 q7 h13 h14 h15 hN hq7) cs_Top_145 (by decide) rfl hl.1 rfl (Nat.le_of_ble_eq_true rfl) (by decide) d_Top_kin_14 (fun σ0 H locs V hr => ?_)
    obtain ⟨e0, f0⟩ := hr
    have hB := V.1.2.2
    have hL0 := f0.cq.lo hL
    have e30 : σ0 (3, 0) = σ (3, 0) := f0.cq (3, 0) (Or.inl (by decide))
    refine nw_aload_n X d_Top_kin_17 rfl (lv_at hl 0 rfl) ?_
    refine nw_iload_n X d_Top_kin_18 rfl (lv_at hl 1 rfl) ?_
    refine hw_callv X V (hz (0, 0) rfl) rfl rfl (cm_Top_addClass l z σ0 hz hL0.1 [] e0 (fun x t hx => absurd hx List.not_mem_nil) a ha) cs_Top_149 (by decide) rfl hl.1 rfl (Nat.le_of_ble_eq_true rfl) (by decide) d_Top_kin_19 (fun σ1 H locs V hr => ?_)
    obtain ⟨q1, e1, hx1, hk1, f1⟩ := hr
    rw [hL0.2] at hx1
    have hB := V.1.2.2
    have hq1 : ∀ x, x ∈ q1 ↔ sp_kin (zz_N z) (gr_p z σ) a x := fun x => (hx1 x).trans ⟨fun h => h.elim (fun q => absurd q List.not_mem_nil) id, Or.inr⟩
    refine nw_aload_n X d_Top_kin_22 rfl (lv_at hl 0 rfl) ?_
    refine gf_Top_50 X V (hz (0, 0) rfl) d_Top_kin_23 ?_
    refine hw_calli X V (hz (13, 7) (show 7 < 8 by first | assumption | omega)) rfl rfl (cm_Set_amount l z σ1 7 q1 h13 h14 h15 hN e1) cs_Top_152 (by decide) rfl hl.1 rfl (Nat.le_of_ble_eq_true rfl) (by decide) d_Top_kin_26 (fun r σ' H locs V hr => ?_)
    obtain ⟨hσ, rfl⟩ := hr
    rw [hσ] at V
    clear hσ
    have hB := V.1.2.2
    exact hret _ _ _ _ _ _ d_Top_kin_29 V (by
      have h9 := cs_7 hC hf1 (f0.tr f1) ⟨q1, e1⟩
      exact ⟨h9.1, h9.2, fun _ => by rw [ev, gp_cd_ls e1.1 e1.2.1 (fun x _ => hq1 x)], fun h => absurd ⟨hf1, a, ha, rfl⟩ h⟩)
  · skip
    have hno : ¬ (σ (0, 0) 6 = 1 ∧ el_i (zz_N z) x) := fun h => by have := hbp1.mpr h; omega
    refine nw_iconstv X (-1) d_Top_kin_8 (by decide) ?_
    exact hret _ _ _ _ _ _ d_Top_kin_9 V ⟨hC, cs_q.rf, fun h => absurd h hno, fun _ => rfl⟩
set_option maxHeartbeats 4000000 in
set_option maxRecDepth 20000 in
theorem cm_Top_head (l : Launch) (z : zz_Z) (σ : hw_M) (hz : ∀ k, zz_k (zz_n z) k → zz_O z k) (S : Nat → Nat → Prop) (hC : cs_ok z σ S) (x : Int32) : Met l y_Top_head (hw_c y_Top_head b_Top_head 2 (some .int)) (hw_r 4) (va_Pc [.ref (zz_A z (0, 0)), .int x] (zz_B z σ)) (va_Qi (fun r σ' => cs_ok z σ' S ∧ cs_q σ σ' ∧ ((σ (0, 0) 6 = 1 ∧ el_i (zz_N z) x) → ∃ v, r = nI v ∧ sp_head (zz_N z) (gr_p z σ) (el_v x) v) ∧ (¬ (σ (0, 0) 6 = 1 ∧ el_i (zz_N z) x) → r = -1)) (zz_B z) (zz_F z)) 0 0 (zz_F z) := by
  refine hw_meti (post := (fun r σ' => cs_ok z σ' S ∧ cs_q σ σ' ∧ ((σ (0, 0) 6 = 1 ∧ el_i (zz_N z) x) → ∃ v, r = nI v ∧ sp_head (zz_N z) (gr_p z σ) (el_v x) v) ∧ (¬ (σ (0, 0) 6 = 1 ∧ el_i (zz_N z) x) → r = -1))) (by decide) (Nat.le_of_ble_eq_true rfl) ?_
  intro p e s m args below meth c ls Q X hret V hl
  have hl : lv_has ls 2 [(0, .ref (zz_A z (0, 0))), (1, .int x)] := hl
  have hB := V.1.2.2
  obtain ⟨hS, hR, hf2, hes, hfx⟩ := id hC
  obtain ⟨hn7, hN, hn, hNe, hw, hsz, hln⟩ := id hS
  have h13 : zz_O z (13, 7) := hz (13, 7) (show 7 < 8 by decide)
  have h14 : zz_O z (14, 7) := hz (14, 7) (show 7 < 8 by decide)
  have h15 : zz_O z (15, 7) := hz (15, 7) (show 7 < 8 by decide)
  refine nw_aload_n X d_Top_head_0 rfl (lv_at hl 0 rfl) ?_
  refine nw_iload_n X d_Top_head_1 rfl (lv_at hl 1 rfl) ?_
  refine hw_calli X V (hz (0, 0) rfl) rfl rfl (cm_Top_isElement l z σ hz S hC x) cs_Top_91 (by decide) rfl hl.1 rfl (Nat.le_of_ble_eq_true rfl) (by decide) d_Top_head_2 (fun r σ' H locs V hr => ?_)
  obtain ⟨b1, hb1, rfl, hσ, hbp1⟩ := hr
  rw [hσ] at V
  clear hσ
  have hB := V.1.2.2
  refine nw_if_ne X (tgt := 10) d_Top_head_5 (by decide) (by omega) (fun hc => ?_) (fun hc => ?_)
  · skip
    obtain ⟨hf1, a, ha, rfl⟩ := hbp1.mp (by omega)
    obtain ⟨hL, hpl, qw, bw, hGw, hwl⟩ := hfx hf1
    have g := lo_gp hL
    obtain ⟨q7, hq7⟩ := hes 7 (by decide)
    have ev : el_v (nI a) = a := el_nv (by omega) ha
    refine nw_aload_n X d_Top_head_10 rfl (lv_at hl 0 rfl) ?_
    refine gf_Top_50 X V (hz (0, 0) rfl) d_Top_head_11 ?_
    refine hw_callv X V (hz (13, 7) (show 7 < 8 by first | assumption | omega)) rfl rfl (cm_Set_empty l z σ 7 q7 h13 h14 h15 hN hq7) cs_Top_145 (by decide) rfl hl.1 rfl (Nat.le_of_ble_eq_true rfl) (by decide) d_Top_head_14 (fun σ0 H locs V hr => ?_)
    obtain ⟨e0, f0⟩ := hr
    have hB := V.1.2.2
    have hL0 := f0.cq.lo hL
    have e30 : σ0 (3, 0) = σ (3, 0) := f0.cq (3, 0) (Or.inl (by decide))
    refine nw_aload_n X d_Top_head_17 rfl (lv_at hl 0 rfl) ?_
    refine nw_iload_n X d_Top_head_18 rfl (lv_at hl 1 rfl) ?_
    refine hw_callv X V (hz (0, 0) rfl) rfl rfl (cm_Top_addClass l z σ0 hz hL0.1 [] e0 (fun x t hx => absurd hx List.not_mem_nil) a ha) cs_Top_149 (by decide) rfl hl.1 rfl (Nat.le_of_ble_eq_true rfl) (by decide) d_Top_head_19 (fun σ1 H locs V hr => ?_)
    obtain ⟨q1, e1, hx1, hk1, f1⟩ := hr
    rw [hL0.2] at hx1
    have hB := V.1.2.2
    have hq1 : ∀ x, x ∈ q1 ↔ sp_kin (zz_N z) (gr_p z σ) a x := fun x => (hx1 x).trans ⟨fun h => h.elim (fun q => absurd q List.not_mem_nil) id, Or.inr⟩
    refine nw_aload_n X d_Top_head_22 rfl (lv_at hl 0 rfl) ?_
    refine gf_Top_50 X V (hz (0, 0) rfl) d_Top_head_23 ?_
    refine hw_calli X V (hz (13, 7) (show 7 < 8 by first | assumption | omega)) rfl rfl (cm_Set_least l z σ1 7 q1 h13 h14 h15 hN e1 ⟨a, (hq1 a).mpr (kn_self g ha)⟩) cs_Top_153 (by decide) rfl hl.1 rfl (Nat.le_of_ble_eq_true rfl) (by decide) d_Top_head_26 (fun r σ' H locs V hr => ?_)
    obtain ⟨hσ, v, rfl, hv1, hv2⟩ := hr
    rw [hσ] at V
    exact hret _ _ _ _ _ _ d_Top_head_29 V (by
      have h9 := cs_7 hC hf1 (f0.tr f1) ⟨q1, e1⟩
      exact ⟨h9.1, h9.2, fun _ => ⟨v, rfl, by rw [ev]; exact ⟨(hq1 v).mp hv1, fun y hy => hv2 y ((hq1 y).mpr hy)⟩⟩, fun h => absurd ⟨hf1, a, ha, rfl⟩ h⟩)
  · skip
    have hno : ¬ (σ (0, 0) 6 = 1 ∧ el_i (zz_N z) x) := fun h => by have := hbp1.mpr h; omega
    refine nw_iconstv X (-1) d_Top_head_8 (by decide) ?_
    exact hret _ _ _ _ _ _ d_Top_head_9 V ⟨hC, cs_q.rf, fun h => absurd h hno, fun _ => rfl⟩
end
