theorem m_1 : Cond.selects "LoadChecks" ⟨"LoadChecks", "knownVehicle", "(I)LLoadChecks$Vehicle;"⟩ ⟨"LoadChecks", "knownVehicle", "(I)LLoadChecks$Vehicle;"⟩ ∈ lw_tbl := List.mem_of_getElem? (i := 1) (by decide +kernel)
theorem w_1 : Cond.selects "LoadChecks" ⟨"LoadChecks", "knownVehicle", "(I)LLoadChecks$Vehicle;"⟩ ⟨"LoadChecks", "knownVehicle", "(I)LLoadChecks$Vehicle;"⟩ ∈ xT := List.mem_filter.mpr ⟨m_1, by decide +kernel⟩
theorem m_2 : Cond.selects "LoadChecks$Vehicle" ⟨"LoadChecks$Vehicle", "isEmpty", "(I)Z"⟩ ⟨"LoadChecks$Vehicle", "isEmpty", "(I)Z"⟩ ∈ lw_tbl := List.mem_of_getElem? (i := 2) (by decide +kernel)
theorem w_2 : Cond.selects "LoadChecks$Vehicle" ⟨"LoadChecks$Vehicle", "isEmpty", "(I)Z"⟩ ⟨"LoadChecks$Vehicle", "isEmpty", "(I)Z"⟩ ∈ xT := List.mem_filter.mpr ⟨m_2, by decide +kernel⟩
theorem m_3 : Cond.selects "LoadChecks" ⟨"LoadChecks", "isAnywhere", "(I)Z"⟩ ⟨"LoadChecks", "isAnywhere", "(I)Z"⟩ ∈ lw_tbl := List.mem_of_getElem? (i := 3) (by decide +kernel)
theorem w_3 : Cond.selects "LoadChecks" ⟨"LoadChecks", "isAnywhere", "(I)Z"⟩ ⟨"LoadChecks", "isAnywhere", "(I)Z"⟩ ∈ xT := List.mem_filter.mpr ⟨m_3, by decide +kernel⟩
theorem m_4 : Cond.selects "LoadChecks$Vehicle" ⟨"LoadChecks$Vehicle", "carries", "(I)Z"⟩ ⟨"LoadChecks$Vehicle", "carries", "(I)Z"⟩ ∈ lw_tbl := List.mem_of_getElem? (i := 4) (by decide +kernel)
theorem w_4 : Cond.selects "LoadChecks$Vehicle" ⟨"LoadChecks$Vehicle", "carries", "(I)Z"⟩ ⟨"LoadChecks$Vehicle", "carries", "(I)Z"⟩ ∈ xT := List.mem_filter.mpr ⟨m_4, by decide +kernel⟩
theorem m_5 : Cond.selects "LoadChecks" ⟨"LoadChecks", "requireBearable", "(LLoadChecks$Vehicle;II)V"⟩ ⟨"LoadChecks", "requireBearable", "(LLoadChecks$Vehicle;II)V"⟩ ∈ lw_tbl := List.mem_of_getElem? (i := 5) (by decide +kernel)
theorem w_5 : Cond.selects "LoadChecks" ⟨"LoadChecks", "requireBearable", "(LLoadChecks$Vehicle;II)V"⟩ ⟨"LoadChecks", "requireBearable", "(LLoadChecks$Vehicle;II)V"⟩ ∈ xT := List.mem_filter.mpr ⟨m_5, by decide +kernel⟩
theorem m_6 : Cond.selects "LoadChecks$Vehicle" ⟨"LoadChecks$Vehicle", "bears", "(III)Z"⟩ ⟨"LoadChecks$Vehicle", "bears", "(III)Z"⟩ ∈ lw_tbl := List.mem_of_getElem? (i := 6) (by decide +kernel)
theorem w_6 : Cond.selects "LoadChecks$Vehicle" ⟨"LoadChecks$Vehicle", "bears", "(III)Z"⟩ ⟨"LoadChecks$Vehicle", "bears", "(III)Z"⟩ ∈ xT := List.mem_filter.mpr ⟨m_6, by decide +kernel⟩
theorem m_7 : Cond.selects "LoadChecks$Vehicle" ⟨"LoadChecks$Vehicle", "frontMoment", "()J"⟩ ⟨"LoadChecks$Vehicle", "frontMoment", "()J"⟩ ∈ lw_tbl := List.mem_of_getElem? (i := 7) (by decide +kernel)
theorem w_7 : Cond.selects "LoadChecks$Vehicle" ⟨"LoadChecks$Vehicle", "frontMoment", "()J"⟩ ⟨"LoadChecks$Vehicle", "frontMoment", "()J"⟩ ∈ xT := List.mem_filter.mpr ⟨m_7, by decide +kernel⟩
theorem m_8 : Cond.selects "LoadChecks$Vehicle" ⟨"LoadChecks$Vehicle", "exceeds", "(JI)Z"⟩ ⟨"LoadChecks$Vehicle", "exceeds", "(JI)Z"⟩ ∈ lw_tbl := List.mem_of_getElem? (i := 8) (by decide +kernel)
theorem w_8 : Cond.selects "LoadChecks$Vehicle" ⟨"LoadChecks$Vehicle", "exceeds", "(JI)Z"⟩ ⟨"LoadChecks$Vehicle", "exceeds", "(JI)Z"⟩ ∈ xT := List.mem_filter.mpr ⟨m_8, by decide +kernel⟩
theorem m_9 : Cond.selects "LoadChecks$Vehicle" ⟨"LoadChecks$Vehicle", "rearMoment", "()J"⟩ ⟨"LoadChecks$Vehicle", "rearMoment", "()J"⟩ ∈ lw_tbl := List.mem_of_getElem? (i := 9) (by decide +kernel)
theorem w_9 : Cond.selects "LoadChecks$Vehicle" ⟨"LoadChecks$Vehicle", "rearMoment", "()J"⟩ ⟨"LoadChecks$Vehicle", "rearMoment", "()J"⟩ ∈ xT := List.mem_filter.mpr ⟨m_9, by decide +kernel⟩
theorem m_10 : Cond.selects "LoadChecks$Vehicle" ⟨"LoadChecks$Vehicle", "load", "(III)V"⟩ ⟨"LoadChecks$Vehicle", "load", "(III)V"⟩ ∈ lw_tbl := List.mem_of_getElem? (i := 10) (by decide +kernel)
theorem w_10 : Cond.selects "LoadChecks$Vehicle" ⟨"LoadChecks$Vehicle", "load", "(III)V"⟩ ⟨"LoadChecks$Vehicle", "load", "(III)V"⟩ ∈ xT := List.mem_filter.mpr ⟨m_10, by decide +kernel⟩
theorem m_11 : Cond.selects "LoadChecks$Vehicle" ⟨"LoadChecks$Vehicle", "lackOf", "(II)I"⟩ ⟨"LoadChecks$Vehicle", "lackOf", "(II)I"⟩ ∈ lw_tbl := List.mem_of_getElem? (i := 11) (by decide +kernel)
theorem w_11 : Cond.selects "LoadChecks$Vehicle" ⟨"LoadChecks$Vehicle", "lackOf", "(II)I"⟩ ⟨"LoadChecks$Vehicle", "lackOf", "(II)I"⟩ ∈ xT := List.mem_filter.mpr ⟨m_11, by decide +kernel⟩
theorem m_12 : Cond.selects "LoadChecks$Rows" ⟨"LoadChecks$Rows", "add", "(III)V"⟩ ⟨"LoadChecks$Rows", "add", "(III)V"⟩ ∈ lw_tbl := List.mem_of_getElem? (i := 12) (by decide +kernel)
theorem w_12 : Cond.selects "LoadChecks$Rows" ⟨"LoadChecks$Rows", "add", "(III)V"⟩ ⟨"LoadChecks$Rows", "add", "(III)V"⟩ ∈ xT := List.mem_filter.mpr ⟨m_12, by decide +kernel⟩
theorem m_13 : Cond.selects "LoadChecks$Vehicle" ⟨"LoadChecks$Vehicle", "missingCell", "([II)I"⟩ ⟨"LoadChecks$Vehicle", "missingCell", "([II)I"⟩ ∈ lw_tbl := List.mem_of_getElem? (i := 13) (by decide +kernel)
theorem w_13 : Cond.selects "LoadChecks$Vehicle" ⟨"LoadChecks$Vehicle", "missingCell", "([II)I"⟩ ⟨"LoadChecks$Vehicle", "missingCell", "([II)I"⟩ ∈ xT := List.mem_filter.mpr ⟨m_13, by decide +kernel⟩
theorem m_14 : Cond.selects "LoadChecks$Vehicle" ⟨"LoadChecks$Vehicle", "hasBrokenSeal", "()Z"⟩ ⟨"LoadChecks$Vehicle", "hasBrokenSeal", "()Z"⟩ ∈ lw_tbl := List.mem_of_getElem? (i := 14) (by decide +kernel)
theorem w_14 : Cond.selects "LoadChecks$Vehicle" ⟨"LoadChecks$Vehicle", "hasBrokenSeal", "()Z"⟩ ⟨"LoadChecks$Vehicle", "hasBrokenSeal", "()Z"⟩ ∈ xT := List.mem_filter.mpr ⟨m_14, by decide +kernel⟩
theorem m_15 : Cond.selects "LoadChecks$Vehicle" ⟨"LoadChecks$Vehicle", "needsPastItem", "([II)Z"⟩ ⟨"LoadChecks$Vehicle", "needsPastItem", "([II)Z"⟩ ∈ lw_tbl := List.mem_of_getElem? (i := 15) (by decide +kernel)
theorem w_15 : Cond.selects "LoadChecks$Vehicle" ⟨"LoadChecks$Vehicle", "needsPastItem", "([II)Z"⟩ ⟨"LoadChecks$Vehicle", "needsPastItem", "([II)Z"⟩ ∈ xT := List.mem_filter.mpr ⟨m_15, by decide +kernel⟩
theorem m_16 : Cond.selects "LoadChecks$Vehicle" ⟨"LoadChecks$Vehicle", "needsWeakItem", "([I[I)Z"⟩ ⟨"LoadChecks$Vehicle", "needsWeakItem", "([I[I)Z"⟩ ∈ lw_tbl := List.mem_of_getElem? (i := 16) (by decide +kernel)
theorem w_16 : Cond.selects "LoadChecks$Vehicle" ⟨"LoadChecks$Vehicle", "needsWeakItem", "([I[I)Z"⟩ ⟨"LoadChecks$Vehicle", "needsWeakItem", "([I[I)Z"⟩ ∈ xT := List.mem_filter.mpr ⟨m_16, by decide +kernel⟩
theorem m_17 : Cond.selects "LoadChecks$Vehicle" ⟨"LoadChecks$Vehicle", "isBeyond", "()Z"⟩ ⟨"LoadChecks$Vehicle", "isBeyond", "()Z"⟩ ∈ lw_tbl := List.mem_of_getElem? (i := 17) (by decide +kernel)
theorem w_17 : Cond.selects "LoadChecks$Vehicle" ⟨"LoadChecks$Vehicle", "isBeyond", "()Z"⟩ ⟨"LoadChecks$Vehicle", "isBeyond", "()Z"⟩ ∈ xT := List.mem_filter.mpr ⟨m_17, by decide +kernel⟩
theorem m_18 : Cond.selects "LoadChecks$Rows" ⟨"LoadChecks$Rows", "keeps", "(I)Z"⟩ ⟨"LoadChecks$Rows", "keeps", "(I)Z"⟩ ∈ lw_tbl := List.mem_of_getElem? (i := 18) (by decide +kernel)
theorem w_18 : Cond.selects "LoadChecks$Rows" ⟨"LoadChecks$Rows", "keeps", "(I)Z"⟩ ⟨"LoadChecks$Rows", "keeps", "(I)Z"⟩ ∈ xT := List.mem_filter.mpr ⟨m_18, by decide +kernel⟩
theorem m_19 : Cond.selects "LoadChecks$Rows" ⟨"LoadChecks$Rows", "number", "(II)I"⟩ ⟨"LoadChecks$Rows", "number", "(II)I"⟩ ∈ lw_tbl := List.mem_of_getElem? (i := 19) (by decide +kernel)
theorem w_19 : Cond.selects "LoadChecks$Rows" ⟨"LoadChecks$Rows", "number", "(II)I"⟩ ⟨"LoadChecks$Rows", "number", "(II)I"⟩ ∈ xT := List.mem_filter.mpr ⟨m_19, by decide +kernel⟩
theorem m_20 : Cond.selects "LoadChecksModel" ⟨"LoadChecksModel", "throwing", "(ZZZZ)Z"⟩ ⟨"LoadChecksModel", "throwing", "(ZZZZ)Z"⟩ ∈ lw_tbl := List.mem_of_getElem? (i := 20) (by decide +kernel)
theorem w_20 : Cond.selects "LoadChecksModel" ⟨"LoadChecksModel", "throwing", "(ZZZZ)Z"⟩ ⟨"LoadChecksModel", "throwing", "(ZZZZ)Z"⟩ ∈ xT := List.mem_filter.mpr ⟨m_20, by decide +kernel⟩
theorem m_21 : Cond.selects "LoadChecksModel" ⟨"LoadChecksModel", "isVehicle", "(I)Z"⟩ ⟨"LoadChecksModel", "isVehicle", "(I)Z"⟩ ∈ lw_tbl := List.mem_of_getElem? (i := 21) (by decide +kernel)
theorem w_21 : Cond.selects "LoadChecksModel" ⟨"LoadChecksModel", "isVehicle", "(I)Z"⟩ ⟨"LoadChecksModel", "isVehicle", "(I)Z"⟩ ∈ xT := List.mem_filter.mpr ⟨m_21, by decide +kernel⟩
theorem m_22 : Cond.selects "LoadChecksModel" ⟨"LoadChecksModel", "isEmpty", "(II)Z"⟩ ⟨"LoadChecksModel", "isEmpty", "(II)Z"⟩ ∈ lw_tbl := List.mem_of_getElem? (i := 22) (by decide +kernel)
theorem w_22 : Cond.selects "LoadChecksModel" ⟨"LoadChecksModel", "isEmpty", "(II)Z"⟩ ⟨"LoadChecksModel", "isEmpty", "(II)Z"⟩ ∈ xT := List.mem_filter.mpr ⟨m_22, by decide +kernel⟩
theorem m_23 : Cond.selects "LoadChecksModel" ⟨"LoadChecksModel", "isSomewhere", "(I)Z"⟩ ⟨"LoadChecksModel", "isSomewhere", "(I)Z"⟩ ∈ lw_tbl := List.mem_of_getElem? (i := 23) (by decide +kernel)
theorem w_23 : Cond.selects "LoadChecksModel" ⟨"LoadChecksModel", "isSomewhere", "(I)Z"⟩ ⟨"LoadChecksModel", "isSomewhere", "(I)Z"⟩ ∈ xT := List.mem_filter.mpr ⟨m_23, by decide +kernel⟩
theorem m_24 : Cond.selects "LoadChecksModel" ⟨"LoadChecksModel", "isThing", "(III)Z"⟩ ⟨"LoadChecksModel", "isThing", "(III)Z"⟩ ∈ lw_tbl := List.mem_of_getElem? (i := 24) (by decide +kernel)
theorem w_24 : Cond.selects "LoadChecksModel" ⟨"LoadChecksModel", "isThing", "(III)Z"⟩ ⟨"LoadChecksModel", "isThing", "(III)Z"⟩ ∈ xT := List.mem_filter.mpr ⟨m_24, by decide +kernel⟩
theorem m_25 : Cond.selects "LoadChecksModel" ⟨"LoadChecksModel", "isTooMuch", "(IIII)Z"⟩ ⟨"LoadChecksModel", "isTooMuch", "(IIII)Z"⟩ ∈ lw_tbl := List.mem_of_getElem? (i := 25) (by decide +kernel)
theorem w_25 : Cond.selects "LoadChecksModel" ⟨"LoadChecksModel", "isTooMuch", "(IIII)Z"⟩ ⟨"LoadChecksModel", "isTooMuch", "(IIII)Z"⟩ ∈ xT := List.mem_filter.mpr ⟨m_25, by decide +kernel⟩
theorem m_26 : Cond.selects "LoadChecksModel" ⟨"LoadChecksModel", "bears", "(IZ)J"⟩ ⟨"LoadChecksModel", "bears", "(IZ)J"⟩ ∈ lw_tbl := List.mem_of_getElem? (i := 26) (by decide +kernel)
theorem w_26 : Cond.selects "LoadChecksModel" ⟨"LoadChecksModel", "bears", "(IZ)J"⟩ ⟨"LoadChecksModel", "bears", "(IZ)J"⟩ ∈ xT := List.mem_filter.mpr ⟨m_26, by decide +kernel⟩
theorem m_27 : Cond.selects "LoadChecksModel" ⟨"LoadChecksModel", "momentOf", "(I)J"⟩ ⟨"LoadChecksModel", "momentOf", "(I)J"⟩ ∈ lw_tbl := List.mem_of_getElem? (i := 27) (by decide +kernel)
theorem w_27 : Cond.selects "LoadChecksModel" ⟨"LoadChecksModel", "momentOf", "(I)J"⟩ ⟨"LoadChecksModel", "momentOf", "(I)J"⟩ ∈ xT := List.mem_filter.mpr ⟨m_27, by decide +kernel⟩
theorem m_28 : Cond.selects "LoadChecksModel" ⟨"LoadChecksModel", "sumOf", "(I)J"⟩ ⟨"LoadChecksModel", "sumOf", "(I)J"⟩ ∈ lw_tbl := List.mem_of_getElem? (i := 28) (by decide +kernel)
theorem w_28 : Cond.selects "LoadChecksModel" ⟨"LoadChecksModel", "sumOf", "(I)J"⟩ ⟨"LoadChecksModel", "sumOf", "(I)J"⟩ ∈ xT := List.mem_filter.mpr ⟨m_28, by decide +kernel⟩
theorem m_29 : Cond.selects "LoadChecksModel" ⟨"LoadChecksModel", "isBeyond", "(IZ)Z"⟩ ⟨"LoadChecksModel", "isBeyond", "(IZ)Z"⟩ ∈ lw_tbl := List.mem_of_getElem? (i := 29) (by decide +kernel)
theorem w_29 : Cond.selects "LoadChecksModel" ⟨"LoadChecksModel", "isBeyond", "(IZ)Z"⟩ ⟨"LoadChecksModel", "isBeyond", "(IZ)Z"⟩ ∈ xT := List.mem_filter.mpr ⟨m_29, by decide +kernel⟩
theorem m_30 : Cond.selects "LoadChecksModel" ⟨"LoadChecksModel", "missingOf", "(II)I"⟩ ⟨"LoadChecksModel", "missingOf", "(II)I"⟩ ∈ lw_tbl := List.mem_of_getElem? (i := 30) (by decide +kernel)
theorem w_30 : Cond.selects "LoadChecksModel" ⟨"LoadChecksModel", "missingOf", "(II)I"⟩ ⟨"LoadChecksModel", "missingOf", "(II)I"⟩ ∈ xT := List.mem_filter.mpr ⟨m_30, by decide +kernel⟩
theorem m_31 : Cond.selects "LoadChecksModel" ⟨"LoadChecksModel", "tell", "(III)V"⟩ ⟨"LoadChecksModel", "tell", "(III)V"⟩ ∈ lw_tbl := List.mem_of_getElem? (i := 31) (by decide +kernel)
theorem w_31 : Cond.selects "LoadChecksModel" ⟨"LoadChecksModel", "tell", "(III)V"⟩ ⟨"LoadChecksModel", "tell", "(III)V"⟩ ∈ xT := List.mem_filter.mpr ⟨m_31, by decide +kernel⟩
theorem m_32 : Cond.selects "LoadChecksModel" ⟨"LoadChecksModel", "isNeeded", "(II)Z"⟩ ⟨"LoadChecksModel", "isNeeded", "(II)Z"⟩ ∈ lw_tbl := List.mem_of_getElem? (i := 32) (by decide +kernel)
theorem w_32 : Cond.selects "LoadChecksModel" ⟨"LoadChecksModel", "isNeeded", "(II)Z"⟩ ⟨"LoadChecksModel", "isNeeded", "(II)Z"⟩ ∈ xT := List.mem_filter.mpr ⟨m_32, by decide +kernel⟩
theorem m_34 : (Cond.initialized "LoadChecks") ∈ lw_tbl := List.mem_of_getElem? (i := 34) (by decide +kernel)
theorem w_34 : (Cond.initialized "LoadChecks") ∈ xT := List.mem_filter.mpr ⟨m_34, by decide +kernel⟩
theorem m_35 : (Cond.initialized "LoadChecks$Rows") ∈ lw_tbl := List.mem_of_getElem? (i := 35) (by decide +kernel)
theorem w_35 : (Cond.initialized "LoadChecks$Rows") ∈ xT := List.mem_filter.mpr ⟨m_35, by decide +kernel⟩
theorem m_36 : (Cond.initialized "LoadChecks$Vehicle") ∈ lw_tbl := List.mem_of_getElem? (i := 36) (by decide +kernel)
theorem w_36 : (Cond.initialized "LoadChecks$Vehicle") ∈ xT := List.mem_filter.mpr ⟨m_36, by decide +kernel⟩
theorem m_37 : (Cond.initialized "java/util/Arrays") ∈ lw_tbl := List.mem_of_getElem? (i := 37) (by decide +kernel)
theorem w_37 : (Cond.initialized "java/util/Arrays") ∈ xT := List.mem_filter.mpr ⟨m_37, by decide +kernel⟩
theorem m_38 : (Cond.initialized "LoadChecksModel") ∈ lw_tbl := List.mem_of_getElem? (i := 38) (by decide +kernel)
theorem w_38 : (Cond.initialized "LoadChecksModel") ∈ xT := List.mem_filter.mpr ⟨m_38, by decide +kernel⟩
theorem m_42 : (Cond.initialized "java/lang/IllegalArgumentException") ∈ lw_tbl := List.mem_of_getElem? (i := 42) (by decide +kernel)
theorem w_42 : (Cond.initialized "java/lang/IllegalArgumentException") ∈ xT := List.mem_filter.mpr ⟨m_42, by decide +kernel⟩
theorem m_43 : (Cond.initialized "java/lang/IndexOutOfBoundsException") ∈ lw_tbl := List.mem_of_getElem? (i := 43) (by decide +kernel)
theorem w_43 : (Cond.initialized "java/lang/IndexOutOfBoundsException") ∈ xT := List.mem_filter.mpr ⟨m_43, by decide +kernel⟩
theorem m_44 : (Cond.initialized "java/lang/UnsupportedOperationException") ∈ lw_tbl := List.mem_of_getElem? (i := 44) (by decide +kernel)
theorem w_44 : (Cond.initialized "java/lang/UnsupportedOperationException") ∈ xT := List.mem_filter.mpr ⟨m_44, by decide +kernel⟩
theorem m_45 : (Cond.initialized "java/lang/IllegalStateException") ∈ lw_tbl := List.mem_of_getElem? (i := 45) (by decide +kernel)
theorem w_45 : (Cond.initialized "java/lang/IllegalStateException") ∈ xT := List.mem_filter.mpr ⟨m_45, by decide +kernel⟩
theorem m_46 : (Cond.initialized "java/lang/Math") ∈ lw_tbl := List.mem_of_getElem? (i := 46) (by decide +kernel)
theorem w_46 : (Cond.initialized "java/lang/Math") ∈ xT := List.mem_filter.mpr ⟨m_46, by decide +kernel⟩
theorem m_47 : (Cond.initialized "java/lang/ArithmeticException") ∈ lw_tbl := List.mem_of_getElem? (i := 47) (by decide +kernel)
theorem w_47 : (Cond.initialized "java/lang/ArithmeticException") ∈ xT := List.mem_filter.mpr ⟨m_47, by decide +kernel⟩
theorem m_53 : (Cond.methodLink "LoadChecks" (3 : Nat) ({ cls := "java/lang/Object", name := "<init>", desc := "()V" } : MethodName)) ∈ lw_tbl := List.mem_of_getElem? (i := 53) (by decide +kernel)
theorem w_53 : (Cond.methodLink "LoadChecks" (3 : Nat) ({ cls := "java/lang/Object", name := "<init>", desc := "()V" } : MethodName)) ∈ xT := List.mem_filter.mpr ⟨m_53, by decide +kernel⟩
theorem m_54 : (Cond.instanceMethod ({ cls := "java/lang/Object", name := "<init>", desc := "()V" } : MethodName)) ∈ lw_tbl := List.mem_of_getElem? (i := 54) (by decide +kernel)
theorem w_54 : (Cond.instanceMethod ({ cls := "java/lang/Object", name := "<init>", desc := "()V" } : MethodName)) ∈ xT := List.mem_filter.mpr ⟨m_54, by decide +kernel⟩
theorem m_55 : (Cond.code ({ cls := "java/lang/Object", name := "<init>", desc := "()V" } : MethodName) object_method_1_code (1 : Nat) (Option.none : Option FieldType)) ∈ lw_tbl := List.mem_of_getElem? (i := 55) (by decide +kernel)
theorem w_55 : (Cond.code ({ cls := "java/lang/Object", name := "<init>", desc := "()V" } : MethodName) object_method_1_code (1 : Nat) (Option.none : Option FieldType)) ∈ xT := List.mem_filter.mpr ⟨m_55, by decide +kernel⟩
theorem m_56 : (Cond.classLink "LoadChecks" (19 : Nat) "[[I") ∈ lw_tbl := List.mem_of_getElem? (i := 56) (by decide +kernel)
theorem w_56 : (Cond.classLink "LoadChecks" (19 : Nat) "[[I") ∈ xT := List.mem_filter.mpr ⟨m_56, by decide +kernel⟩
theorem m_57 : (Cond.arrayOver (FieldType.array FieldType.int)) ∈ lw_tbl := List.mem_of_getElem? (i := 57) (by decide +kernel)
theorem m_58 : (Cond.classLink "LoadChecks" (24 : Nat) "LoadChecks$Vehicle") ∈ lw_tbl := List.mem_of_getElem? (i := 58) (by decide +kernel)
theorem w_58 : (Cond.classLink "LoadChecks" (24 : Nat) "LoadChecks$Vehicle") ∈ xT := List.mem_filter.mpr ⟨m_58, by decide +kernel⟩
theorem m_59 : (Cond.arrayOver (FieldType.object "LoadChecks$Vehicle")) ∈ lw_tbl := List.mem_of_getElem? (i := 59) (by decide +kernel)
theorem m_60 : (Cond.classLink "LoadChecks" (30 : Nat) "LoadChecks$Rows") ∈ lw_tbl := List.mem_of_getElem? (i := 60) (by decide +kernel)
theorem w_60 : (Cond.classLink "LoadChecks" (30 : Nat) "LoadChecks$Rows") ∈ xT := List.mem_filter.mpr ⟨m_60, by decide +kernel⟩
theorem m_61 : (Cond.instantiable "LoadChecks$Rows" (2 : Nat)) ∈ lw_tbl := List.mem_of_getElem? (i := 61) (by decide +kernel)
theorem w_61 : (Cond.instantiable "LoadChecks$Rows" (2 : Nat)) ∈ xT := List.mem_filter.mpr ⟨m_61, by decide +kernel⟩
theorem m_62 : (Cond.methodLinkNest "LoadChecks" (32 : Nat) ({ cls := "LoadChecks$Rows", name := "<init>", desc := "()V" } : MethodName) "LoadChecks") ∈ lw_tbl := List.mem_of_getElem? (i := 62) (by decide +kernel)
theorem m_63 : (Cond.instanceMethod ({ cls := "LoadChecks$Rows", name := "<init>", desc := "()V" } : MethodName)) ∈ lw_tbl := List.mem_of_getElem? (i := 63) (by decide +kernel)
theorem w_63 : (Cond.instanceMethod ({ cls := "LoadChecks$Rows", name := "<init>", desc := "()V" } : MethodName)) ∈ xT := List.mem_filter.mpr ⟨m_63, by decide +kernel⟩
theorem m_64 : (Cond.code ({ cls := "LoadChecks$Rows", name := "<init>", desc := "()V" } : MethodName) prog_2_method_1_code (1 : Nat) (Option.none : Option FieldType)) ∈ lw_tbl := List.mem_of_getElem? (i := 64) (by decide +kernel)
theorem w_64 : (Cond.code ({ cls := "LoadChecks$Rows", name := "<init>", desc := "()V" } : MethodName) prog_2_method_1_code (1 : Nat) (Option.none : Option FieldType)) ∈ xT := List.mem_filter.mpr ⟨m_64, by decide +kernel⟩
theorem m_65 : (Cond.methodLink "LoadChecks$Rows" (1 : Nat) ({ cls := "java/lang/Object", name := "<init>", desc := "()V" } : MethodName)) ∈ lw_tbl := List.mem_of_getElem? (i := 65) (by decide +kernel)
theorem w_65 : (Cond.methodLink "LoadChecks$Rows" (1 : Nat) ({ cls := "java/lang/Object", name := "<init>", desc := "()V" } : MethodName)) ∈ xT := List.mem_filter.mpr ⟨m_65, by decide +kernel⟩
theorem m_66 : (Cond.fieldLink "LoadChecks$Rows" (9 : Nat) "LoadChecks$Rows" "numbers" "[I") ∈ lw_tbl := List.mem_of_getElem? (i := 66) (by decide +kernel)
theorem w_66 : (Cond.fieldLink "LoadChecks$Rows" (9 : Nat) "LoadChecks$Rows" "numbers" "[I") ∈ xT := List.mem_filter.mpr ⟨m_66, by decide +kernel⟩
theorem m_67 : (Cond.fieldLink "LoadChecks$Rows" (13 : Nat) "LoadChecks$Rows" "made" "J") ∈ lw_tbl := List.mem_of_getElem? (i := 67) (by decide +kernel)
theorem w_67 : (Cond.fieldLink "LoadChecks$Rows" (13 : Nat) "LoadChecks$Rows" "made" "J") ∈ xT := List.mem_filter.mpr ⟨m_67, by decide +kernel⟩
theorem m_73 : (Cond.arrayClass FieldType.int) ∈ lw_tbl := List.mem_of_getElem? (i := 73) (by decide +kernel)
theorem m_74 : (Cond.instantiable "LoadChecks$Vehicle" (13 : Nat)) ∈ lw_tbl := List.mem_of_getElem? (i := 74) (by decide +kernel)
theorem w_74 : (Cond.instantiable "LoadChecks$Vehicle" (13 : Nat)) ∈ xT := List.mem_filter.mpr ⟨m_74, by decide +kernel⟩
theorem m_75 : (Cond.methodLinkNest "LoadChecks" (37 : Nat) ({ cls := "LoadChecks$Vehicle", name := "<init>", desc := "()V" } : MethodName) "LoadChecks") ∈ lw_tbl := List.mem_of_getElem? (i := 75) (by decide +kernel)
theorem m_76 : (Cond.instanceMethod ({ cls := "LoadChecks$Vehicle", name := "<init>", desc := "()V" } : MethodName)) ∈ lw_tbl := List.mem_of_getElem? (i := 76) (by decide +kernel)
theorem w_76 : (Cond.instanceMethod ({ cls := "LoadChecks$Vehicle", name := "<init>", desc := "()V" } : MethodName)) ∈ xT := List.mem_filter.mpr ⟨m_76, by decide +kernel⟩
theorem m_77 : (Cond.code ({ cls := "LoadChecks$Vehicle", name := "<init>", desc := "()V" } : MethodName) prog_3_method_1_code (1 : Nat) (Option.none : Option FieldType)) ∈ lw_tbl := List.mem_of_getElem? (i := 77) (by decide +kernel)
theorem w_77 : (Cond.code ({ cls := "LoadChecks$Vehicle", name := "<init>", desc := "()V" } : MethodName) prog_3_method_1_code (1 : Nat) (Option.none : Option FieldType)) ∈ xT := List.mem_filter.mpr ⟨m_77, by decide +kernel⟩
theorem m_78 : (Cond.methodLink "LoadChecks$Vehicle" (3 : Nat) ({ cls := "java/lang/Object", name := "<init>", desc := "()V" } : MethodName)) ∈ lw_tbl := List.mem_of_getElem? (i := 78) (by decide +kernel)
theorem w_78 : (Cond.methodLink "LoadChecks$Vehicle" (3 : Nat) ({ cls := "java/lang/Object", name := "<init>", desc := "()V" } : MethodName)) ∈ xT := List.mem_filter.mpr ⟨m_78, by decide +kernel⟩
theorem m_79 : (Cond.methodLink "LoadChecks$Vehicle" (38 : Nat) ({ cls := "java/util/Arrays", name := "fill", desc := "([II)V" } : MethodName)) ∈ lw_tbl := List.mem_of_getElem? (i := 79) (by decide +kernel)
theorem w_79 : (Cond.methodLink "LoadChecks$Vehicle" (38 : Nat) ({ cls := "java/util/Arrays", name := "fill", desc := "([II)V" } : MethodName)) ∈ xT := List.mem_filter.mpr ⟨m_79, by decide +kernel⟩
theorem m_80 : (Cond.static ({ cls := "java/util/Arrays", name := "fill", desc := "([II)V" } : MethodName)) ∈ lw_tbl := List.mem_of_getElem? (i := 80) (by decide +kernel)
theorem w_80 : (Cond.static ({ cls := "java/util/Arrays", name := "fill", desc := "([II)V" } : MethodName)) ∈ xT := List.mem_filter.mpr ⟨m_80, by decide +kernel⟩
theorem m_81 : (Cond.code ({ cls := "java/util/Arrays", name := "fill", desc := "([II)V" } : MethodName) prog_16_method_103_code (4 : Nat) (Option.none : Option FieldType)) ∈ lw_tbl := List.mem_of_getElem? (i := 81) (by decide +kernel)
theorem w_81 : (Cond.code ({ cls := "java/util/Arrays", name := "fill", desc := "([II)V" } : MethodName) prog_16_method_103_code (4 : Nat) (Option.none : Option FieldType)) ∈ xT := List.mem_filter.mpr ⟨m_81, by decide +kernel⟩
theorem m_82 : (Cond.fieldLink "LoadChecks$Vehicle" (9 : Nat) "LoadChecks$Vehicle" "places" "[I") ∈ lw_tbl := List.mem_of_getElem? (i := 82) (by decide +kernel)
theorem w_82 : (Cond.fieldLink "LoadChecks$Vehicle" (9 : Nat) "LoadChecks$Vehicle" "places" "[I") ∈ xT := List.mem_filter.mpr ⟨m_82, by decide +kernel⟩
theorem m_83 : (Cond.fieldLinkNest "LoadChecks" (89 : Nat) "LoadChecks$Vehicle" "places" "[I" "LoadChecks") ∈ lw_tbl := List.mem_of_getElem? (i := 83) (by decide +kernel)
theorem m_84 : (Cond.fieldLink "LoadChecks$Vehicle" (15 : Nat) "LoadChecks$Vehicle" "brokenSeals" "[Z") ∈ lw_tbl := List.mem_of_getElem? (i := 84) (by decide +kernel)
theorem w_84 : (Cond.fieldLink "LoadChecks$Vehicle" (15 : Nat) "LoadChecks$Vehicle" "brokenSeals" "[Z") ∈ xT := List.mem_filter.mpr ⟨m_84, by decide +kernel⟩
theorem m_85 : (Cond.fieldLinkNest "LoadChecks" (149 : Nat) "LoadChecks$Vehicle" "brokenSeals" "[Z" "LoadChecks") ∈ lw_tbl := List.mem_of_getElem? (i := 85) (by decide +kernel)
theorem m_86 : (Cond.fieldLink "LoadChecks$Vehicle" (19 : Nat) "LoadChecks$Vehicle" "counts" "[I") ∈ lw_tbl := List.mem_of_getElem? (i := 86) (by decide +kernel)
theorem w_86 : (Cond.fieldLink "LoadChecks$Vehicle" (19 : Nat) "LoadChecks$Vehicle" "counts" "[I") ∈ xT := List.mem_filter.mpr ⟨m_86, by decide +kernel⟩
theorem m_87 : (Cond.fieldLinkNest "LoadChecks" (117 : Nat) "LoadChecks$Vehicle" "counts" "[I" "LoadChecks") ∈ lw_tbl := List.mem_of_getElem? (i := 87) (by decide +kernel)
theorem m_88 : (Cond.fieldLink "LoadChecks$Vehicle" (22 : Nat) "LoadChecks$Vehicle" "endDays" "[I") ∈ lw_tbl := List.mem_of_getElem? (i := 88) (by decide +kernel)
theorem w_88 : (Cond.fieldLink "LoadChecks$Vehicle" (22 : Nat) "LoadChecks$Vehicle" "endDays" "[I") ∈ xT := List.mem_filter.mpr ⟨m_88, by decide +kernel⟩
theorem m_89 : (Cond.fieldLinkNest "LoadChecks" (143 : Nat) "LoadChecks$Vehicle" "endDays" "[I" "LoadChecks") ∈ lw_tbl := List.mem_of_getElem? (i := 89) (by decide +kernel)
theorem m_90 : (Cond.fieldLink "LoadChecks$Vehicle" (25 : Nat) "LoadChecks$Vehicle" "batteries" "[I") ∈ lw_tbl := List.mem_of_getElem? (i := 90) (by decide +kernel)
theorem w_90 : (Cond.fieldLink "LoadChecks$Vehicle" (25 : Nat) "LoadChecks$Vehicle" "batteries" "[I") ∈ xT := List.mem_filter.mpr ⟨m_90, by decide +kernel⟩
theorem m_91 : (Cond.fieldLinkNest "LoadChecks" (146 : Nat) "LoadChecks$Vehicle" "batteries" "[I" "LoadChecks") ∈ lw_tbl := List.mem_of_getElem? (i := 91) (by decide +kernel)
theorem m_92 : (Cond.fieldLinkNest "LoadChecks" (61 : Nat) "LoadChecks$Vehicle" "kind" "I" "LoadChecks") ∈ lw_tbl := List.mem_of_getElem? (i := 92) (by decide +kernel)
theorem m_93 : (Cond.fieldLink "LoadChecks$Vehicle" (28 : Nat) "LoadChecks$Vehicle" "wheelbase" "I") ∈ lw_tbl := List.mem_of_getElem? (i := 93) (by decide +kernel)
theorem w_93 : (Cond.fieldLink "LoadChecks$Vehicle" (28 : Nat) "LoadChecks$Vehicle" "wheelbase" "I") ∈ xT := List.mem_filter.mpr ⟨m_93, by decide +kernel⟩
theorem m_94 : (Cond.fieldLinkNest "LoadChecks" (64 : Nat) "LoadChecks$Vehicle" "wheelbase" "I" "LoadChecks") ∈ lw_tbl := List.mem_of_getElem? (i := 94) (by decide +kernel)
theorem m_95 : (Cond.fieldLinkNest "LoadChecks" (67 : Nat) "LoadChecks$Vehicle" "frontLimit" "I" "LoadChecks") ∈ lw_tbl := List.mem_of_getElem? (i := 95) (by decide +kernel)
theorem m_96 : (Cond.fieldLink "LoadChecks$Vehicle" (55 : Nat) "LoadChecks$Vehicle" "frontLimit" "I") ∈ lw_tbl := List.mem_of_getElem? (i := 96) (by decide +kernel)
theorem w_96 : (Cond.fieldLink "LoadChecks$Vehicle" (55 : Nat) "LoadChecks$Vehicle" "frontLimit" "I") ∈ xT := List.mem_filter.mpr ⟨m_96, by decide +kernel⟩
theorem m_97 : (Cond.fieldLinkNest "LoadChecks" (70 : Nat) "LoadChecks$Vehicle" "rearLimit" "I" "LoadChecks") ∈ lw_tbl := List.mem_of_getElem? (i := 97) (by decide +kernel)
theorem m_98 : (Cond.fieldLink "LoadChecks$Vehicle" (65 : Nat) "LoadChecks$Vehicle" "rearLimit" "I") ∈ lw_tbl := List.mem_of_getElem? (i := 98) (by decide +kernel)
theorem w_98 : (Cond.fieldLink "LoadChecks$Vehicle" (65 : Nat) "LoadChecks$Vehicle" "rearLimit" "I") ∈ xT := List.mem_filter.mpr ⟨m_98, by decide +kernel⟩
theorem m_99 : (Cond.fieldLink "LoadChecks$Vehicle" (32 : Nat) "LoadChecks$Vehicle" "checkedDay" "I") ∈ lw_tbl := List.mem_of_getElem? (i := 99) (by decide +kernel)
theorem w_99 : (Cond.fieldLink "LoadChecks$Vehicle" (32 : Nat) "LoadChecks$Vehicle" "checkedDay" "I") ∈ xT := List.mem_filter.mpr ⟨m_99, by decide +kernel⟩
theorem m_100 : (Cond.fieldLinkNest "LoadChecks" (158 : Nat) "LoadChecks$Vehicle" "checkedDay" "I" "LoadChecks") ∈ lw_tbl := List.mem_of_getElem? (i := 100) (by decide +kernel)
theorem m_101 : (Cond.fieldLink "LoadChecks$Vehicle" (35 : Nat) "LoadChecks$Vehicle" "checkedShift" "I") ∈ lw_tbl := List.mem_of_getElem? (i := 101) (by decide +kernel)
theorem w_101 : (Cond.fieldLink "LoadChecks$Vehicle" (35 : Nat) "LoadChecks$Vehicle" "checkedShift" "I") ∈ xT := List.mem_filter.mpr ⟨m_101, by decide +kernel⟩
theorem m_102 : (Cond.fieldLinkNest "LoadChecks" (164 : Nat) "LoadChecks$Vehicle" "checkedShift" "I" "LoadChecks") ∈ lw_tbl := List.mem_of_getElem? (i := 102) (by decide +kernel)
theorem m_103 : (Cond.fieldLink "LoadChecks$Vehicle" (44 : Nat) "LoadChecks$Vehicle" "grams" "J") ∈ lw_tbl := List.mem_of_getElem? (i := 103) (by decide +kernel)
theorem w_103 : (Cond.fieldLink "LoadChecks$Vehicle" (44 : Nat) "LoadChecks$Vehicle" "grams" "J") ∈ xT := List.mem_filter.mpr ⟨m_103, by decide +kernel⟩
theorem m_104 : (Cond.fieldLink "LoadChecks$Vehicle" (48 : Nat) "LoadChecks$Vehicle" "moment" "J") ∈ lw_tbl := List.mem_of_getElem? (i := 104) (by decide +kernel)
theorem w_104 : (Cond.fieldLink "LoadChecks$Vehicle" (48 : Nat) "LoadChecks$Vehicle" "moment" "J") ∈ xT := List.mem_filter.mpr ⟨m_104, by decide +kernel⟩
theorem m_132 : (Cond.arrayClass FieldType.boolean) ∈ lw_tbl := List.mem_of_getElem? (i := 132) (by decide +kernel)
theorem m_133 : (Cond.fieldLink "LoadChecks" (9 : Nat) "LoadChecks" "weights" "[I") ∈ lw_tbl := List.mem_of_getElem? (i := 133) (by decide +kernel)
theorem w_133 : (Cond.fieldLink "LoadChecks" (9 : Nat) "LoadChecks" "weights" "[I") ∈ xT := List.mem_filter.mpr ⟨m_133, by decide +kernel⟩
theorem m_134 : (Cond.fieldLink "LoadChecks" (13 : Nat) "LoadChecks" "leastBatteries" "[I") ∈ lw_tbl := List.mem_of_getElem? (i := 134) (by decide +kernel)
theorem w_134 : (Cond.fieldLink "LoadChecks" (13 : Nat) "LoadChecks" "leastBatteries" "[I") ∈ xT := List.mem_filter.mpr ⟨m_134, by decide +kernel⟩
theorem m_135 : (Cond.fieldLink "LoadChecks" (16 : Nat) "LoadChecks" "stocks" "[I") ∈ lw_tbl := List.mem_of_getElem? (i := 135) (by decide +kernel)
theorem w_135 : (Cond.fieldLink "LoadChecks" (16 : Nat) "LoadChecks" "stocks" "[I") ∈ xT := List.mem_filter.mpr ⟨m_135, by decide +kernel⟩
theorem m_136 : (Cond.fieldLink "LoadChecks" (21 : Nat) "LoadChecks" "needs" "[[I") ∈ lw_tbl := List.mem_of_getElem? (i := 136) (by decide +kernel)
theorem w_136 : (Cond.fieldLink "LoadChecks" (21 : Nat) "LoadChecks" "needs" "[[I") ∈ xT := List.mem_filter.mpr ⟨m_136, by decide +kernel⟩
theorem m_137 : (Cond.fieldLink "LoadChecks" (26 : Nat) "LoadChecks" "vehicles" "[LLoadChecks$Vehicle;") ∈ lw_tbl := List.mem_of_getElem? (i := 137) (by decide +kernel)
theorem w_137 : (Cond.fieldLink "LoadChecks" (26 : Nat) "LoadChecks" "vehicles" "[LLoadChecks$Vehicle;") ∈ xT := List.mem_filter.mpr ⟨m_137, by decide +kernel⟩
theorem m_138 : (Cond.fieldLink "LoadChecks" (33 : Nat) "LoadChecks" "rows" "LLoadChecks$Rows;") ∈ lw_tbl := List.mem_of_getElem? (i := 138) (by decide +kernel)
theorem w_138 : (Cond.fieldLink "LoadChecks" (33 : Nat) "LoadChecks" "rows" "LLoadChecks$Rows;") ∈ xT := List.mem_filter.mpr ⟨m_138, by decide +kernel⟩
theorem m_139 : (Cond.fieldLink "LoadChecks" (50 : Nat) "LoadChecks" "vehicleCount" "I") ∈ lw_tbl := List.mem_of_getElem? (i := 139) (by decide +kernel)
theorem w_139 : (Cond.fieldLink "LoadChecks" (50 : Nat) "LoadChecks" "vehicleCount" "I") ∈ xT := List.mem_filter.mpr ⟨m_139, by decide +kernel⟩
theorem m_140 : (Cond.fieldLink "LoadChecks" (155 : Nat) "LoadChecks" "presentDay" "I") ∈ lw_tbl := List.mem_of_getElem? (i := 140) (by decide +kernel)
theorem w_140 : (Cond.fieldLink "LoadChecks" (155 : Nat) "LoadChecks" "presentDay" "I") ∈ xT := List.mem_filter.mpr ⟨m_140, by decide +kernel⟩
theorem m_141 : (Cond.fieldLink "LoadChecks" (161 : Nat) "LoadChecks" "presentShift" "I") ∈ lw_tbl := List.mem_of_getElem? (i := 141) (by decide +kernel)
theorem w_141 : (Cond.fieldLink "LoadChecks" (161 : Nat) "LoadChecks" "presentShift" "I") ∈ xT := List.mem_filter.mpr ⟨m_141, by decide +kernel⟩
theorem m_164 : (Cond.classLink "LoadChecksLaw" (13 : Nat) "java/lang/IllegalArgumentException") ∈ lw_tbl := List.mem_of_getElem? (i := 164) (by decide +kernel)
theorem w_164 : (Cond.classLink "LoadChecksLaw" (13 : Nat) "java/lang/IllegalArgumentException") ∈ xT := List.mem_filter.mpr ⟨m_164, by decide +kernel⟩
theorem m_165 : (Cond.classLink "LoadChecksLaw" (15 : Nat) "java/lang/IndexOutOfBoundsException") ∈ lw_tbl := List.mem_of_getElem? (i := 165) (by decide +kernel)
theorem w_165 : (Cond.classLink "LoadChecksLaw" (15 : Nat) "java/lang/IndexOutOfBoundsException") ∈ xT := List.mem_filter.mpr ⟨m_165, by decide +kernel⟩
theorem m_166 : (Cond.classLink "LoadChecksLaw" (17 : Nat) "java/lang/UnsupportedOperationException") ∈ lw_tbl := List.mem_of_getElem? (i := 166) (by decide +kernel)
theorem w_166 : (Cond.classLink "LoadChecksLaw" (17 : Nat) "java/lang/UnsupportedOperationException") ∈ xT := List.mem_filter.mpr ⟨m_166, by decide +kernel⟩
theorem m_167 : (Cond.methodLink "LoadChecksLaw" (7 : Nat) ({ cls := "LoadChecks", name := "vehicle", desc := "(IIII)I" } : MethodName)) ∈ lw_tbl := List.mem_of_getElem? (i := 167) (by decide +kernel)
theorem w_167 : (Cond.methodLink "LoadChecksLaw" (7 : Nat) ({ cls := "LoadChecks", name := "vehicle", desc := "(IIII)I" } : MethodName)) ∈ xT := List.mem_filter.mpr ⟨m_167, by decide +kernel⟩
theorem m_168 : (Cond.instanceMethod ({ cls := "LoadChecks", name := "vehicle", desc := "(IIII)I" } : MethodName)) ∈ lw_tbl := List.mem_of_getElem? (i := 168) (by decide +kernel)
theorem w_168 : (Cond.instanceMethod ({ cls := "LoadChecks", name := "vehicle", desc := "(IIII)I" } : MethodName)) ∈ xT := List.mem_filter.mpr ⟨m_168, by decide +kernel⟩
theorem m_169 : (Cond.selects "LoadChecks" ({ cls := "LoadChecks", name := "vehicle", desc := "(IIII)I" } : MethodName) ({ cls := "LoadChecks", name := "vehicle", desc := "(IIII)I" } : MethodName)) ∈ lw_tbl := List.mem_of_getElem? (i := 169) (by decide +kernel)
theorem w_169 : (Cond.selects "LoadChecks" ({ cls := "LoadChecks", name := "vehicle", desc := "(IIII)I" } : MethodName) ({ cls := "LoadChecks", name := "vehicle", desc := "(IIII)I" } : MethodName)) ∈ xT := List.mem_filter.mpr ⟨m_169, by decide +kernel⟩
theorem m_170 : (Cond.code ({ cls := "LoadChecks", name := "vehicle", desc := "(IIII)I" } : MethodName) prog_1_method_2_code (6 : Nat) (Option.some FieldType.int)) ∈ lw_tbl := List.mem_of_getElem? (i := 170) (by decide +kernel)
theorem w_170 : (Cond.code ({ cls := "LoadChecks", name := "vehicle", desc := "(IIII)I" } : MethodName) prog_1_method_2_code (6 : Nat) (Option.some FieldType.int)) ∈ xT := List.mem_filter.mpr ⟨m_170, by decide +kernel⟩
theorem m_171 : (Cond.methodLink "LoadChecks" (38 : Nat) ({ cls := "LoadChecks", name := "requireKind", desc := "(I)V" } : MethodName)) ∈ lw_tbl := List.mem_of_getElem? (i := 171) (by decide +kernel)
theorem w_171 : (Cond.methodLink "LoadChecks" (38 : Nat) ({ cls := "LoadChecks", name := "requireKind", desc := "(I)V" } : MethodName)) ∈ xT := List.mem_filter.mpr ⟨m_171, by decide +kernel⟩
theorem m_172 : (Cond.static ({ cls := "LoadChecks", name := "requireKind", desc := "(I)V" } : MethodName)) ∈ lw_tbl := List.mem_of_getElem? (i := 172) (by decide +kernel)
theorem w_172 : (Cond.static ({ cls := "LoadChecks", name := "requireKind", desc := "(I)V" } : MethodName)) ∈ xT := List.mem_filter.mpr ⟨m_172, by decide +kernel⟩
theorem m_173 : (Cond.code ({ cls := "LoadChecks", name := "requireKind", desc := "(I)V" } : MethodName) prog_1_method_25_code (1 : Nat) (Option.none : Option FieldType)) ∈ lw_tbl := List.mem_of_getElem? (i := 173) (by decide +kernel)
theorem w_173 : (Cond.code ({ cls := "LoadChecks", name := "requireKind", desc := "(I)V" } : MethodName) prog_1_method_25_code (1 : Nat) (Option.none : Option FieldType)) ∈ xT := List.mem_filter.mpr ⟨m_173, by decide +kernel⟩
theorem m_174 : (Cond.classLink "LoadChecks" (135 : Nat) "java/lang/IllegalArgumentException") ∈ lw_tbl := List.mem_of_getElem? (i := 174) (by decide +kernel)
theorem w_174 : (Cond.classLink "LoadChecks" (135 : Nat) "java/lang/IllegalArgumentException") ∈ xT := List.mem_filter.mpr ⟨m_174, by decide +kernel⟩
theorem m_176 : (Cond.castable "java/lang/IllegalArgumentException" "java/lang/IllegalArgumentException") ∈ lw_tbl := List.mem_of_getElem? (i := 176) (by decide +kernel)
theorem m_244 : (Cond.methodLink "LoadChecks" (42 : Nat) ({ cls := "LoadChecks", name := "requireRange", desc := "(III)V" } : MethodName)) ∈ lw_tbl := List.mem_of_getElem? (i := 244) (by decide +kernel)
theorem w_244 : (Cond.methodLink "LoadChecks" (42 : Nat) ({ cls := "LoadChecks", name := "requireRange", desc := "(III)V" } : MethodName)) ∈ xT := List.mem_filter.mpr ⟨m_244, by decide +kernel⟩
theorem m_245 : (Cond.static ({ cls := "LoadChecks", name := "requireRange", desc := "(III)V" } : MethodName)) ∈ lw_tbl := List.mem_of_getElem? (i := 245) (by decide +kernel)
theorem w_245 : (Cond.static ({ cls := "LoadChecks", name := "requireRange", desc := "(III)V" } : MethodName)) ∈ xT := List.mem_filter.mpr ⟨m_245, by decide +kernel⟩
theorem m_246 : (Cond.code ({ cls := "LoadChecks", name := "requireRange", desc := "(III)V" } : MethodName) prog_1_method_28_code (3 : Nat) (Option.none : Option FieldType)) ∈ lw_tbl := List.mem_of_getElem? (i := 246) (by decide +kernel)
theorem w_246 : (Cond.code ({ cls := "LoadChecks", name := "requireRange", desc := "(III)V" } : MethodName) prog_1_method_28_code (3 : Nat) (Option.none : Option FieldType)) ∈ xT := List.mem_filter.mpr ⟨m_246, by decide +kernel⟩
theorem m_247 : (Cond.classLink "LoadChecks" (186 : Nat) "java/lang/IndexOutOfBoundsException") ∈ lw_tbl := List.mem_of_getElem? (i := 247) (by decide +kernel)
theorem w_247 : (Cond.classLink "LoadChecks" (186 : Nat) "java/lang/IndexOutOfBoundsException") ∈ xT := List.mem_filter.mpr ⟨m_247, by decide +kernel⟩
theorem m_249 : (Cond.castable "java/lang/IndexOutOfBoundsException" "java/lang/IndexOutOfBoundsException") ∈ lw_tbl := List.mem_of_getElem? (i := 249) (by decide +kernel)
theorem m_263 : (Cond.methodLink "LoadChecks" (46 : Nat) ({ cls := "LoadChecks", name := "requireLimits", desc := "(II)V" } : MethodName)) ∈ lw_tbl := List.mem_of_getElem? (i := 263) (by decide +kernel)
theorem w_263 : (Cond.methodLink "LoadChecks" (46 : Nat) ({ cls := "LoadChecks", name := "requireLimits", desc := "(II)V" } : MethodName)) ∈ xT := List.mem_filter.mpr ⟨m_263, by decide +kernel⟩
theorem m_264 : (Cond.static ({ cls := "LoadChecks", name := "requireLimits", desc := "(II)V" } : MethodName)) ∈ lw_tbl := List.mem_of_getElem? (i := 264) (by decide +kernel)
theorem w_264 : (Cond.static ({ cls := "LoadChecks", name := "requireLimits", desc := "(II)V" } : MethodName)) ∈ xT := List.mem_filter.mpr ⟨m_264, by decide +kernel⟩
theorem m_265 : (Cond.code ({ cls := "LoadChecks", name := "requireLimits", desc := "(II)V" } : MethodName) prog_1_method_29_code (2 : Nat) (Option.none : Option FieldType)) ∈ lw_tbl := List.mem_of_getElem? (i := 265) (by decide +kernel)
theorem w_265 : (Cond.code ({ cls := "LoadChecks", name := "requireLimits", desc := "(II)V" } : MethodName) prog_1_method_29_code (2 : Nat) (Option.none : Option FieldType)) ∈ xT := List.mem_filter.mpr ⟨m_265, by decide +kernel⟩
theorem m_266 : (Cond.constant "LoadChecks" (227 : Nat) (20000000 : Int32)) ∈ lw_tbl := List.mem_of_getElem? (i := 266) (by decide +kernel)
theorem w_266 : (Cond.constant "LoadChecks" (227 : Nat) (20000000 : Int32)) ∈ xT := List.mem_filter.mpr ⟨m_266, by decide +kernel⟩
theorem m_267 : (Cond.classLink "LoadChecks" (54 : Nat) "java/lang/UnsupportedOperationException") ∈ lw_tbl := List.mem_of_getElem? (i := 267) (by decide +kernel)
theorem w_267 : (Cond.classLink "LoadChecks" (54 : Nat) "java/lang/UnsupportedOperationException") ∈ xT := List.mem_filter.mpr ⟨m_267, by decide +kernel⟩
theorem m_269 : (Cond.castable "java/lang/UnsupportedOperationException" "java/lang/UnsupportedOperationException") ∈ lw_tbl := List.mem_of_getElem? (i := 269) (by decide +kernel)
theorem m_286 : (Cond.methodLink "LoadChecksLaw" (19 : Nat) ({ cls := "LoadChecks", name := "limits", desc := "(III)V" } : MethodName)) ∈ lw_tbl := List.mem_of_getElem? (i := 286) (by decide +kernel)
theorem w_286 : (Cond.methodLink "LoadChecksLaw" (19 : Nat) ({ cls := "LoadChecks", name := "limits", desc := "(III)V" } : MethodName)) ∈ xT := List.mem_filter.mpr ⟨m_286, by decide +kernel⟩
theorem m_287 : (Cond.instanceMethod ({ cls := "LoadChecks", name := "limits", desc := "(III)V" } : MethodName)) ∈ lw_tbl := List.mem_of_getElem? (i := 287) (by decide +kernel)
theorem w_287 : (Cond.instanceMethod ({ cls := "LoadChecks", name := "limits", desc := "(III)V" } : MethodName)) ∈ xT := List.mem_filter.mpr ⟨m_287, by decide +kernel⟩
theorem m_288 : (Cond.selects "LoadChecks" ({ cls := "LoadChecks", name := "limits", desc := "(III)V" } : MethodName) ({ cls := "LoadChecks", name := "limits", desc := "(III)V" } : MethodName)) ∈ lw_tbl := List.mem_of_getElem? (i := 288) (by decide +kernel)
theorem w_288 : (Cond.selects "LoadChecks" ({ cls := "LoadChecks", name := "limits", desc := "(III)V" } : MethodName) ({ cls := "LoadChecks", name := "limits", desc := "(III)V" } : MethodName)) ∈ xT := List.mem_filter.mpr ⟨m_288, by decide +kernel⟩
theorem m_289 : (Cond.code ({ cls := "LoadChecks", name := "limits", desc := "(III)V" } : MethodName) prog_1_method_3_code (5 : Nat) (Option.none : Option FieldType)) ∈ lw_tbl := List.mem_of_getElem? (i := 289) (by decide +kernel)
theorem w_289 : (Cond.code ({ cls := "LoadChecks", name := "limits", desc := "(III)V" } : MethodName) prog_1_method_3_code (5 : Nat) (Option.none : Option FieldType)) ∈ xT := List.mem_filter.mpr ⟨m_289, by decide +kernel⟩
theorem m_290 : (Cond.methodLink "LoadChecks" (73 : Nat) ({ cls := "LoadChecks", name := "knownVehicle", desc := "(I)LLoadChecks$Vehicle;" } : MethodName)) ∈ lw_tbl := List.mem_of_getElem? (i := 290) (by decide +kernel)
theorem w_290 : (Cond.methodLink "LoadChecks" (73 : Nat) ({ cls := "LoadChecks", name := "knownVehicle", desc := "(I)LLoadChecks$Vehicle;" } : MethodName)) ∈ xT := List.mem_filter.mpr ⟨m_290, by decide +kernel⟩
theorem m_292 : (Cond.instanceMethod ({ cls := "LoadChecks", name := "knownVehicle", desc := "(I)LLoadChecks$Vehicle;" } : MethodName)) ∈ lw_tbl := List.mem_of_getElem? (i := 292) (by decide +kernel)
theorem w_292 : (Cond.instanceMethod ({ cls := "LoadChecks", name := "knownVehicle", desc := "(I)LLoadChecks$Vehicle;" } : MethodName)) ∈ xT := List.mem_filter.mpr ⟨m_292, by decide +kernel⟩
theorem m_293 : (Cond.code ({ cls := "LoadChecks", name := "knownVehicle", desc := "(I)LLoadChecks$Vehicle;" } : MethodName) prog_1_method_24_code (2 : Nat) (Option.some (FieldType.object "LoadChecks$Vehicle"))) ∈ lw_tbl := List.mem_of_getElem? (i := 293) (by decide +kernel)
theorem w_293 : (Cond.code ({ cls := "LoadChecks", name := "knownVehicle", desc := "(I)LLoadChecks$Vehicle;" } : MethodName) prog_1_method_24_code (2 : Nat) (Option.some (FieldType.object "LoadChecks$Vehicle"))) ∈ xT := List.mem_filter.mpr ⟨m_293, by decide +kernel⟩
theorem m_298 : (Cond.classLink "LoadChecksLaw" (26 : Nat) "java/lang/IllegalStateException") ∈ lw_tbl := List.mem_of_getElem? (i := 298) (by decide +kernel)
theorem w_298 : (Cond.classLink "LoadChecksLaw" (26 : Nat) "java/lang/IllegalStateException") ∈ xT := List.mem_filter.mpr ⟨m_298, by decide +kernel⟩
theorem m_299 : (Cond.methodLink "LoadChecksLaw" (23 : Nat) ({ cls := "LoadChecks", name := "place", desc := "(III)V" } : MethodName)) ∈ lw_tbl := List.mem_of_getElem? (i := 299) (by decide +kernel)
theorem w_299 : (Cond.methodLink "LoadChecksLaw" (23 : Nat) ({ cls := "LoadChecks", name := "place", desc := "(III)V" } : MethodName)) ∈ xT := List.mem_filter.mpr ⟨m_299, by decide +kernel⟩
theorem m_300 : (Cond.instanceMethod ({ cls := "LoadChecks", name := "place", desc := "(III)V" } : MethodName)) ∈ lw_tbl := List.mem_of_getElem? (i := 300) (by decide +kernel)
theorem w_300 : (Cond.instanceMethod ({ cls := "LoadChecks", name := "place", desc := "(III)V" } : MethodName)) ∈ xT := List.mem_filter.mpr ⟨m_300, by decide +kernel⟩
theorem m_301 : (Cond.selects "LoadChecks" ({ cls := "LoadChecks", name := "place", desc := "(III)V" } : MethodName) ({ cls := "LoadChecks", name := "place", desc := "(III)V" } : MethodName)) ∈ lw_tbl := List.mem_of_getElem? (i := 301) (by decide +kernel)
theorem w_301 : (Cond.selects "LoadChecks" ({ cls := "LoadChecks", name := "place", desc := "(III)V" } : MethodName) ({ cls := "LoadChecks", name := "place", desc := "(III)V" } : MethodName)) ∈ xT := List.mem_filter.mpr ⟨m_301, by decide +kernel⟩
theorem m_302 : (Cond.code ({ cls := "LoadChecks", name := "place", desc := "(III)V" } : MethodName) prog_1_method_4_code (5 : Nat) (Option.none : Option FieldType)) ∈ lw_tbl := List.mem_of_getElem? (i := 302) (by decide +kernel)
theorem w_302 : (Cond.code ({ cls := "LoadChecks", name := "place", desc := "(III)V" } : MethodName) prog_1_method_4_code (5 : Nat) (Option.none : Option FieldType)) ∈ xT := List.mem_filter.mpr ⟨m_302, by decide +kernel⟩
theorem m_303 : (Cond.methodLink "LoadChecks" (77 : Nat) ({ cls := "LoadChecks", name := "requireCupboard", desc := "(I)V" } : MethodName)) ∈ lw_tbl := List.mem_of_getElem? (i := 303) (by decide +kernel)
theorem w_303 : (Cond.methodLink "LoadChecks" (77 : Nat) ({ cls := "LoadChecks", name := "requireCupboard", desc := "(I)V" } : MethodName)) ∈ xT := List.mem_filter.mpr ⟨m_303, by decide +kernel⟩
theorem m_304 : (Cond.static ({ cls := "LoadChecks", name := "requireCupboard", desc := "(I)V" } : MethodName)) ∈ lw_tbl := List.mem_of_getElem? (i := 304) (by decide +kernel)
theorem w_304 : (Cond.static ({ cls := "LoadChecks", name := "requireCupboard", desc := "(I)V" } : MethodName)) ∈ xT := List.mem_filter.mpr ⟨m_304, by decide +kernel⟩
theorem m_305 : (Cond.code ({ cls := "LoadChecks", name := "requireCupboard", desc := "(I)V" } : MethodName) prog_1_method_26_code (1 : Nat) (Option.none : Option FieldType)) ∈ lw_tbl := List.mem_of_getElem? (i := 305) (by decide +kernel)
theorem w_305 : (Cond.code ({ cls := "LoadChecks", name := "requireCupboard", desc := "(I)V" } : MethodName) prog_1_method_26_code (1 : Nat) (Option.none : Option FieldType)) ∈ xT := List.mem_filter.mpr ⟨m_305, by decide +kernel⟩
theorem m_307 : (Cond.methodLinkNest "LoadChecks" (80 : Nat) ({ cls := "LoadChecks$Vehicle", name := "isEmpty", desc := "(I)Z" } : MethodName) "LoadChecks") ∈ lw_tbl := List.mem_of_getElem? (i := 307) (by decide +kernel)
theorem m_309 : (Cond.instanceMethod ({ cls := "LoadChecks$Vehicle", name := "isEmpty", desc := "(I)Z" } : MethodName)) ∈ lw_tbl := List.mem_of_getElem? (i := 309) (by decide +kernel)
theorem w_309 : (Cond.instanceMethod ({ cls := "LoadChecks$Vehicle", name := "isEmpty", desc := "(I)Z" } : MethodName)) ∈ xT := List.mem_filter.mpr ⟨m_309, by decide +kernel⟩
theorem m_310 : (Cond.code ({ cls := "LoadChecks$Vehicle", name := "isEmpty", desc := "(I)Z" } : MethodName) prog_3_method_8_code (3 : Nat) (Option.some FieldType.boolean)) ∈ lw_tbl := List.mem_of_getElem? (i := 310) (by decide +kernel)
theorem w_310 : (Cond.code ({ cls := "LoadChecks$Vehicle", name := "isEmpty", desc := "(I)Z" } : MethodName) prog_3_method_8_code (3 : Nat) (Option.some FieldType.boolean)) ∈ xT := List.mem_filter.mpr ⟨m_310, by decide +kernel⟩
theorem m_311 : (Cond.methodLinkNest "LoadChecks$Vehicle" (68 : Nat) ({ cls := "LoadChecks", name := "cellOf", desc := "(II)I" } : MethodName) "LoadChecks") ∈ lw_tbl := List.mem_of_getElem? (i := 311) (by decide +kernel)
theorem m_312 : (Cond.static ({ cls := "LoadChecks", name := "cellOf", desc := "(II)I" } : MethodName)) ∈ lw_tbl := List.mem_of_getElem? (i := 312) (by decide +kernel)
theorem w_312 : (Cond.static ({ cls := "LoadChecks", name := "cellOf", desc := "(II)I" } : MethodName)) ∈ xT := List.mem_filter.mpr ⟨m_312, by decide +kernel⟩
theorem m_313 : (Cond.code ({ cls := "LoadChecks", name := "cellOf", desc := "(II)I" } : MethodName) prog_1_method_33_code (2 : Nat) (Option.some FieldType.int)) ∈ lw_tbl := List.mem_of_getElem? (i := 313) (by decide +kernel)
theorem w_313 : (Cond.code ({ cls := "LoadChecks", name := "cellOf", desc := "(II)I" } : MethodName) prog_1_method_33_code (2 : Nat) (Option.some FieldType.int)) ∈ xT := List.mem_filter.mpr ⟨m_313, by decide +kernel⟩
theorem m_314 : (Cond.classLink "LoadChecks" (84 : Nat) "java/lang/IllegalStateException") ∈ lw_tbl := List.mem_of_getElem? (i := 314) (by decide +kernel)
theorem w_314 : (Cond.classLink "LoadChecks" (84 : Nat) "java/lang/IllegalStateException") ∈ xT := List.mem_filter.mpr ⟨m_314, by decide +kernel⟩
theorem m_316 : (Cond.castable "java/lang/IllegalStateException" "java/lang/IllegalStateException") ∈ lw_tbl := List.mem_of_getElem? (i := 316) (by decide +kernel)
theorem m_333 : (Cond.methodLink "LoadChecksLaw" (28 : Nat) ({ cls := "LoadChecks", name := "item", desc := "(III)V" } : MethodName)) ∈ lw_tbl := List.mem_of_getElem? (i := 333) (by decide +kernel)
theorem w_333 : (Cond.methodLink "LoadChecksLaw" (28 : Nat) ({ cls := "LoadChecks", name := "item", desc := "(III)V" } : MethodName)) ∈ xT := List.mem_filter.mpr ⟨m_333, by decide +kernel⟩
theorem m_334 : (Cond.instanceMethod ({ cls := "LoadChecks", name := "item", desc := "(III)V" } : MethodName)) ∈ lw_tbl := List.mem_of_getElem? (i := 334) (by decide +kernel)
theorem w_334 : (Cond.instanceMethod ({ cls := "LoadChecks", name := "item", desc := "(III)V" } : MethodName)) ∈ xT := List.mem_filter.mpr ⟨m_334, by decide +kernel⟩
theorem m_335 : (Cond.selects "LoadChecks" ({ cls := "LoadChecks", name := "item", desc := "(III)V" } : MethodName) ({ cls := "LoadChecks", name := "item", desc := "(III)V" } : MethodName)) ∈ lw_tbl := List.mem_of_getElem? (i := 335) (by decide +kernel)
theorem w_335 : (Cond.selects "LoadChecks" ({ cls := "LoadChecks", name := "item", desc := "(III)V" } : MethodName) ({ cls := "LoadChecks", name := "item", desc := "(III)V" } : MethodName)) ∈ xT := List.mem_filter.mpr ⟨m_335, by decide +kernel⟩
theorem m_336 : (Cond.code ({ cls := "LoadChecks", name := "item", desc := "(III)V" } : MethodName) prog_1_method_5_code (4 : Nat) (Option.none : Option FieldType)) ∈ lw_tbl := List.mem_of_getElem? (i := 336) (by decide +kernel)
theorem w_336 : (Cond.code ({ cls := "LoadChecks", name := "item", desc := "(III)V" } : MethodName) prog_1_method_5_code (4 : Nat) (Option.none : Option FieldType)) ∈ xT := List.mem_filter.mpr ⟨m_336, by decide +kernel⟩
theorem m_337 : (Cond.methodLink "LoadChecks" (92 : Nat) ({ cls := "LoadChecks", name := "requireItem", desc := "(I)V" } : MethodName)) ∈ lw_tbl := List.mem_of_getElem? (i := 337) (by decide +kernel)
theorem w_337 : (Cond.methodLink "LoadChecks" (92 : Nat) ({ cls := "LoadChecks", name := "requireItem", desc := "(I)V" } : MethodName)) ∈ xT := List.mem_filter.mpr ⟨m_337, by decide +kernel⟩
theorem m_338 : (Cond.static ({ cls := "LoadChecks", name := "requireItem", desc := "(I)V" } : MethodName)) ∈ lw_tbl := List.mem_of_getElem? (i := 338) (by decide +kernel)
theorem w_338 : (Cond.static ({ cls := "LoadChecks", name := "requireItem", desc := "(I)V" } : MethodName)) ∈ xT := List.mem_filter.mpr ⟨m_338, by decide +kernel⟩
theorem m_339 : (Cond.code ({ cls := "LoadChecks", name := "requireItem", desc := "(I)V" } : MethodName) prog_1_method_27_code (1 : Nat) (Option.none : Option FieldType)) ∈ lw_tbl := List.mem_of_getElem? (i := 339) (by decide +kernel)
theorem w_339 : (Cond.code ({ cls := "LoadChecks", name := "requireItem", desc := "(I)V" } : MethodName) prog_1_method_27_code (1 : Nat) (Option.none : Option FieldType)) ∈ xT := List.mem_filter.mpr ⟨m_339, by decide +kernel⟩
theorem m_341 : (Cond.constant "LoadChecks" (95 : Nat) (500000 : Int32)) ∈ lw_tbl := List.mem_of_getElem? (i := 341) (by decide +kernel)
theorem w_341 : (Cond.constant "LoadChecks" (95 : Nat) (500000 : Int32)) ∈ xT := List.mem_filter.mpr ⟨m_341, by decide +kernel⟩
theorem m_342 : (Cond.methodLink "LoadChecks" (96 : Nat) ({ cls := "LoadChecks", name := "isAnywhere", desc := "(I)Z" } : MethodName)) ∈ lw_tbl := List.mem_of_getElem? (i := 342) (by decide +kernel)
theorem w_342 : (Cond.methodLink "LoadChecks" (96 : Nat) ({ cls := "LoadChecks", name := "isAnywhere", desc := "(I)Z" } : MethodName)) ∈ xT := List.mem_filter.mpr ⟨m_342, by decide +kernel⟩
theorem m_344 : (Cond.instanceMethod ({ cls := "LoadChecks", name := "isAnywhere", desc := "(I)Z" } : MethodName)) ∈ lw_tbl := List.mem_of_getElem? (i := 344) (by decide +kernel)
theorem w_344 : (Cond.instanceMethod ({ cls := "LoadChecks", name := "isAnywhere", desc := "(I)Z" } : MethodName)) ∈ xT := List.mem_filter.mpr ⟨m_344, by decide +kernel⟩
theorem m_345 : (Cond.code ({ cls := "LoadChecks", name := "isAnywhere", desc := "(I)Z" } : MethodName) prog_1_method_34_code (3 : Nat) (Option.some FieldType.boolean)) ∈ lw_tbl := List.mem_of_getElem? (i := 345) (by decide +kernel)
theorem w_345 : (Cond.code ({ cls := "LoadChecks", name := "isAnywhere", desc := "(I)Z" } : MethodName) prog_1_method_34_code (3 : Nat) (Option.some FieldType.boolean)) ∈ xT := List.mem_filter.mpr ⟨m_345, by decide +kernel⟩
theorem m_346 : (Cond.methodLinkNest "LoadChecks" (234 : Nat) ({ cls := "LoadChecks$Vehicle", name := "carries", desc := "(I)Z" } : MethodName) "LoadChecks") ∈ lw_tbl := List.mem_of_getElem? (i := 346) (by decide +kernel)
theorem m_348 : (Cond.instanceMethod ({ cls := "LoadChecks$Vehicle", name := "carries", desc := "(I)Z" } : MethodName)) ∈ lw_tbl := List.mem_of_getElem? (i := 348) (by decide +kernel)
theorem w_348 : (Cond.instanceMethod ({ cls := "LoadChecks$Vehicle", name := "carries", desc := "(I)Z" } : MethodName)) ∈ xT := List.mem_filter.mpr ⟨m_348, by decide +kernel⟩
theorem m_349 : (Cond.code ({ cls := "LoadChecks$Vehicle", name := "carries", desc := "(I)Z" } : MethodName) prog_3_method_9_code (3 : Nat) (Option.some FieldType.boolean)) ∈ lw_tbl := List.mem_of_getElem? (i := 349) (by decide +kernel)
theorem w_349 : (Cond.code ({ cls := "LoadChecks$Vehicle", name := "carries", desc := "(I)Z" } : MethodName) prog_3_method_9_code (3 : Nat) (Option.some FieldType.boolean)) ∈ xT := List.mem_filter.mpr ⟨m_349, by decide +kernel⟩
theorem m_354 : (Cond.methodLink "LoadChecksLaw" (31 : Nat) ({ cls := "LoadChecks", name := "list", desc := "(IIII)V" } : MethodName)) ∈ lw_tbl := List.mem_of_getElem? (i := 354) (by decide +kernel)
theorem w_354 : (Cond.methodLink "LoadChecksLaw" (31 : Nat) ({ cls := "LoadChecks", name := "list", desc := "(IIII)V" } : MethodName)) ∈ xT := List.mem_filter.mpr ⟨m_354, by decide +kernel⟩
theorem m_355 : (Cond.instanceMethod ({ cls := "LoadChecks", name := "list", desc := "(IIII)V" } : MethodName)) ∈ lw_tbl := List.mem_of_getElem? (i := 355) (by decide +kernel)
theorem w_355 : (Cond.instanceMethod ({ cls := "LoadChecks", name := "list", desc := "(IIII)V" } : MethodName)) ∈ xT := List.mem_filter.mpr ⟨m_355, by decide +kernel⟩
theorem m_356 : (Cond.selects "LoadChecks" ({ cls := "LoadChecks", name := "list", desc := "(IIII)V" } : MethodName) ({ cls := "LoadChecks", name := "list", desc := "(IIII)V" } : MethodName)) ∈ lw_tbl := List.mem_of_getElem? (i := 356) (by decide +kernel)
theorem w_356 : (Cond.selects "LoadChecks" ({ cls := "LoadChecks", name := "list", desc := "(IIII)V" } : MethodName) ({ cls := "LoadChecks", name := "list", desc := "(IIII)V" } : MethodName)) ∈ xT := List.mem_filter.mpr ⟨m_356, by decide +kernel⟩
theorem m_357 : (Cond.code ({ cls := "LoadChecks", name := "list", desc := "(IIII)V" } : MethodName) prog_1_method_6_code (5 : Nat) (Option.none : Option FieldType)) ∈ lw_tbl := List.mem_of_getElem? (i := 357) (by decide +kernel)
theorem w_357 : (Cond.code ({ cls := "LoadChecks", name := "list", desc := "(IIII)V" } : MethodName) prog_1_method_6_code (5 : Nat) (Option.none : Option FieldType)) ∈ xT := List.mem_filter.mpr ⟨m_357, by decide +kernel⟩
theorem m_358 : (Cond.methodLink "LoadChecks" (101 : Nat) ({ cls := "LoadChecks", name := "cellOf", desc := "(II)I" } : MethodName)) ∈ lw_tbl := List.mem_of_getElem? (i := 358) (by decide +kernel)
theorem w_358 : (Cond.methodLink "LoadChecks" (101 : Nat) ({ cls := "LoadChecks", name := "cellOf", desc := "(II)I" } : MethodName)) ∈ xT := List.mem_filter.mpr ⟨m_358, by decide +kernel⟩
theorem m_362 : (Cond.methodLink "LoadChecksLaw" (35 : Nat) ({ cls := "LoadChecks", name := "stock", desc := "(II)I" } : MethodName)) ∈ lw_tbl := List.mem_of_getElem? (i := 362) (by decide +kernel)
theorem w_362 : (Cond.methodLink "LoadChecksLaw" (35 : Nat) ({ cls := "LoadChecks", name := "stock", desc := "(II)I" } : MethodName)) ∈ xT := List.mem_filter.mpr ⟨m_362, by decide +kernel⟩
theorem m_363 : (Cond.instanceMethod ({ cls := "LoadChecks", name := "stock", desc := "(II)I" } : MethodName)) ∈ lw_tbl := List.mem_of_getElem? (i := 363) (by decide +kernel)
theorem w_363 : (Cond.instanceMethod ({ cls := "LoadChecks", name := "stock", desc := "(II)I" } : MethodName)) ∈ xT := List.mem_filter.mpr ⟨m_363, by decide +kernel⟩
theorem m_364 : (Cond.selects "LoadChecks" ({ cls := "LoadChecks", name := "stock", desc := "(II)I" } : MethodName) ({ cls := "LoadChecks", name := "stock", desc := "(II)I" } : MethodName)) ∈ lw_tbl := List.mem_of_getElem? (i := 364) (by decide +kernel)
theorem w_364 : (Cond.selects "LoadChecks" ({ cls := "LoadChecks", name := "stock", desc := "(II)I" } : MethodName) ({ cls := "LoadChecks", name := "stock", desc := "(II)I" } : MethodName)) ∈ xT := List.mem_filter.mpr ⟨m_364, by decide +kernel⟩
theorem m_365 : (Cond.code ({ cls := "LoadChecks", name := "stock", desc := "(II)I" } : MethodName) prog_1_method_7_code (3 : Nat) (Option.some FieldType.int)) ∈ lw_tbl := List.mem_of_getElem? (i := 365) (by decide +kernel)
theorem w_365 : (Cond.code ({ cls := "LoadChecks", name := "stock", desc := "(II)I" } : MethodName) prog_1_method_7_code (3 : Nat) (Option.some FieldType.int)) ∈ xT := List.mem_filter.mpr ⟨m_365, by decide +kernel⟩
theorem m_370 : (Cond.methodLink "LoadChecksLaw" (39 : Nat) ({ cls := "LoadChecks", name := "put", desc := "(IIII)I" } : MethodName)) ∈ lw_tbl := List.mem_of_getElem? (i := 370) (by decide +kernel)
theorem w_370 : (Cond.methodLink "LoadChecksLaw" (39 : Nat) ({ cls := "LoadChecks", name := "put", desc := "(IIII)I" } : MethodName)) ∈ xT := List.mem_filter.mpr ⟨m_370, by decide +kernel⟩
theorem m_371 : (Cond.instanceMethod ({ cls := "LoadChecks", name := "put", desc := "(IIII)I" } : MethodName)) ∈ lw_tbl := List.mem_of_getElem? (i := 371) (by decide +kernel)
theorem w_371 : (Cond.instanceMethod ({ cls := "LoadChecks", name := "put", desc := "(IIII)I" } : MethodName)) ∈ xT := List.mem_filter.mpr ⟨m_371, by decide +kernel⟩
theorem m_372 : (Cond.selects "LoadChecks" ({ cls := "LoadChecks", name := "put", desc := "(IIII)I" } : MethodName) ({ cls := "LoadChecks", name := "put", desc := "(IIII)I" } : MethodName)) ∈ lw_tbl := List.mem_of_getElem? (i := 372) (by decide +kernel)
theorem w_372 : (Cond.selects "LoadChecks" ({ cls := "LoadChecks", name := "put", desc := "(IIII)I" } : MethodName) ({ cls := "LoadChecks", name := "put", desc := "(IIII)I" } : MethodName)) ∈ xT := List.mem_filter.mpr ⟨m_372, by decide +kernel⟩
theorem m_373 : (Cond.code ({ cls := "LoadChecks", name := "put", desc := "(IIII)I" } : MethodName) prog_1_method_8_code (7 : Nat) (Option.some FieldType.int)) ∈ lw_tbl := List.mem_of_getElem? (i := 373) (by decide +kernel)
theorem w_373 : (Cond.code ({ cls := "LoadChecks", name := "put", desc := "(IIII)I" } : MethodName) prog_1_method_8_code (7 : Nat) (Option.some FieldType.int)) ∈ xT := List.mem_filter.mpr ⟨m_373, by decide +kernel⟩
theorem m_374 : (Cond.methodLink "LoadChecks" (107 : Nat) ({ cls := "LoadChecks", name := "requireBearable", desc := "(LLoadChecks$Vehicle;II)V" } : MethodName)) ∈ lw_tbl := List.mem_of_getElem? (i := 374) (by decide +kernel)
theorem w_374 : (Cond.methodLink "LoadChecks" (107 : Nat) ({ cls := "LoadChecks", name := "requireBearable", desc := "(LLoadChecks$Vehicle;II)V" } : MethodName)) ∈ xT := List.mem_filter.mpr ⟨m_374, by decide +kernel⟩
theorem m_376 : (Cond.instanceMethod ({ cls := "LoadChecks", name := "requireBearable", desc := "(LLoadChecks$Vehicle;II)V" } : MethodName)) ∈ lw_tbl := List.mem_of_getElem? (i := 376) (by decide +kernel)
theorem w_376 : (Cond.instanceMethod ({ cls := "LoadChecks", name := "requireBearable", desc := "(LLoadChecks$Vehicle;II)V" } : MethodName)) ∈ xT := List.mem_filter.mpr ⟨m_376, by decide +kernel⟩
theorem m_377 : (Cond.code ({ cls := "LoadChecks", name := "requireBearable", desc := "(LLoadChecks$Vehicle;II)V" } : MethodName) prog_1_method_31_code (4 : Nat) (Option.none : Option FieldType)) ∈ lw_tbl := List.mem_of_getElem? (i := 377) (by decide +kernel)
theorem w_377 : (Cond.code ({ cls := "LoadChecks", name := "requireBearable", desc := "(LLoadChecks$Vehicle;II)V" } : MethodName) prog_1_method_31_code (4 : Nat) (Option.none : Option FieldType)) ∈ xT := List.mem_filter.mpr ⟨m_377, by decide +kernel⟩
theorem m_378 : (Cond.methodLinkNest "LoadChecks" (131 : Nat) ({ cls := "LoadChecks$Vehicle", name := "bears", desc := "(III)Z" } : MethodName) "LoadChecks") ∈ lw_tbl := List.mem_of_getElem? (i := 378) (by decide +kernel)
theorem m_380 : (Cond.instanceMethod ({ cls := "LoadChecks$Vehicle", name := "bears", desc := "(III)Z" } : MethodName)) ∈ lw_tbl := List.mem_of_getElem? (i := 380) (by decide +kernel)
theorem w_380 : (Cond.instanceMethod ({ cls := "LoadChecks$Vehicle", name := "bears", desc := "(III)Z" } : MethodName)) ∈ xT := List.mem_filter.mpr ⟨m_380, by decide +kernel⟩
theorem m_381 : (Cond.code ({ cls := "LoadChecks$Vehicle", name := "bears", desc := "(III)Z" } : MethodName) prog_3_method_6_code (12 : Nat) (Option.some FieldType.boolean)) ∈ lw_tbl := List.mem_of_getElem? (i := 381) (by decide +kernel)
theorem w_381 : (Cond.code ({ cls := "LoadChecks$Vehicle", name := "bears", desc := "(III)Z" } : MethodName) prog_3_method_6_code (12 : Nat) (Option.some FieldType.boolean)) ∈ xT := List.mem_filter.mpr ⟨m_381, by decide +kernel⟩
theorem m_382 : (Cond.methodLink "LoadChecks$Vehicle" (51 : Nat) ({ cls := "LoadChecks$Vehicle", name := "frontMoment", desc := "()J" } : MethodName)) ∈ lw_tbl := List.mem_of_getElem? (i := 382) (by decide +kernel)
theorem w_382 : (Cond.methodLink "LoadChecks$Vehicle" (51 : Nat) ({ cls := "LoadChecks$Vehicle", name := "frontMoment", desc := "()J" } : MethodName)) ∈ xT := List.mem_filter.mpr ⟨m_382, by decide +kernel⟩
theorem m_384 : (Cond.instanceMethod ({ cls := "LoadChecks$Vehicle", name := "frontMoment", desc := "()J" } : MethodName)) ∈ lw_tbl := List.mem_of_getElem? (i := 384) (by decide +kernel)
theorem w_384 : (Cond.instanceMethod ({ cls := "LoadChecks$Vehicle", name := "frontMoment", desc := "()J" } : MethodName)) ∈ xT := List.mem_filter.mpr ⟨m_384, by decide +kernel⟩
theorem m_385 : (Cond.code ({ cls := "LoadChecks$Vehicle", name := "frontMoment", desc := "()J" } : MethodName) prog_3_method_2_code (1 : Nat) (Option.some FieldType.long)) ∈ lw_tbl := List.mem_of_getElem? (i := 385) (by decide +kernel)
theorem w_385 : (Cond.code ({ cls := "LoadChecks$Vehicle", name := "frontMoment", desc := "()J" } : MethodName) prog_3_method_2_code (1 : Nat) (Option.some FieldType.long)) ∈ xT := List.mem_filter.mpr ⟨m_385, by decide +kernel⟩
theorem m_386 : (Cond.methodLink "LoadChecks$Vehicle" (58 : Nat) ({ cls := "LoadChecks$Vehicle", name := "exceeds", desc := "(JI)Z" } : MethodName)) ∈ lw_tbl := List.mem_of_getElem? (i := 386) (by decide +kernel)
theorem w_386 : (Cond.methodLink "LoadChecks$Vehicle" (58 : Nat) ({ cls := "LoadChecks$Vehicle", name := "exceeds", desc := "(JI)Z" } : MethodName)) ∈ xT := List.mem_filter.mpr ⟨m_386, by decide +kernel⟩
theorem m_388 : (Cond.instanceMethod ({ cls := "LoadChecks$Vehicle", name := "exceeds", desc := "(JI)Z" } : MethodName)) ∈ lw_tbl := List.mem_of_getElem? (i := 388) (by decide +kernel)
theorem w_388 : (Cond.instanceMethod ({ cls := "LoadChecks$Vehicle", name := "exceeds", desc := "(JI)Z" } : MethodName)) ∈ xT := List.mem_filter.mpr ⟨m_388, by decide +kernel⟩
theorem m_389 : (Cond.code ({ cls := "LoadChecks$Vehicle", name := "exceeds", desc := "(JI)Z" } : MethodName) prog_3_method_5_code (4 : Nat) (Option.some FieldType.boolean)) ∈ lw_tbl := List.mem_of_getElem? (i := 389) (by decide +kernel)
theorem w_389 : (Cond.code ({ cls := "LoadChecks$Vehicle", name := "exceeds", desc := "(JI)Z" } : MethodName) prog_3_method_5_code (4 : Nat) (Option.some FieldType.boolean)) ∈ xT := List.mem_filter.mpr ⟨m_389, by decide +kernel⟩
theorem m_390 : (Cond.methodLink "LoadChecks$Vehicle" (62 : Nat) ({ cls := "LoadChecks$Vehicle", name := "rearMoment", desc := "()J" } : MethodName)) ∈ lw_tbl := List.mem_of_getElem? (i := 390) (by decide +kernel)
theorem w_390 : (Cond.methodLink "LoadChecks$Vehicle" (62 : Nat) ({ cls := "LoadChecks$Vehicle", name := "rearMoment", desc := "()J" } : MethodName)) ∈ xT := List.mem_filter.mpr ⟨m_390, by decide +kernel⟩
theorem m_392 : (Cond.instanceMethod ({ cls := "LoadChecks$Vehicle", name := "rearMoment", desc := "()J" } : MethodName)) ∈ lw_tbl := List.mem_of_getElem? (i := 392) (by decide +kernel)
theorem w_392 : (Cond.instanceMethod ({ cls := "LoadChecks$Vehicle", name := "rearMoment", desc := "()J" } : MethodName)) ∈ xT := List.mem_filter.mpr ⟨m_392, by decide +kernel⟩
theorem m_393 : (Cond.code ({ cls := "LoadChecks$Vehicle", name := "rearMoment", desc := "()J" } : MethodName) prog_3_method_3_code (1 : Nat) (Option.some FieldType.long)) ∈ lw_tbl := List.mem_of_getElem? (i := 393) (by decide +kernel)
theorem w_393 : (Cond.code ({ cls := "LoadChecks$Vehicle", name := "rearMoment", desc := "()J" } : MethodName) prog_3_method_3_code (1 : Nat) (Option.some FieldType.long)) ∈ xT := List.mem_filter.mpr ⟨m_393, by decide +kernel⟩
theorem m_395 : (Cond.methodLink "LoadChecks" (111 : Nat) ({ cls := "LoadChecks", name := "requireRoom", desc := "(LLoadChecks$Vehicle;II)V" } : MethodName)) ∈ lw_tbl := List.mem_of_getElem? (i := 395) (by decide +kernel)
theorem w_395 : (Cond.methodLink "LoadChecks" (111 : Nat) ({ cls := "LoadChecks", name := "requireRoom", desc := "(LLoadChecks$Vehicle;II)V" } : MethodName)) ∈ xT := List.mem_filter.mpr ⟨m_395, by decide +kernel⟩
theorem m_396 : (Cond.static ({ cls := "LoadChecks", name := "requireRoom", desc := "(LLoadChecks$Vehicle;II)V" } : MethodName)) ∈ lw_tbl := List.mem_of_getElem? (i := 396) (by decide +kernel)
theorem w_396 : (Cond.static ({ cls := "LoadChecks", name := "requireRoom", desc := "(LLoadChecks$Vehicle;II)V" } : MethodName)) ∈ xT := List.mem_filter.mpr ⟨m_396, by decide +kernel⟩
theorem m_397 : (Cond.code ({ cls := "LoadChecks", name := "requireRoom", desc := "(LLoadChecks$Vehicle;II)V" } : MethodName) prog_1_method_32_code (3 : Nat) (Option.none : Option FieldType)) ∈ lw_tbl := List.mem_of_getElem? (i := 397) (by decide +kernel)
theorem w_397 : (Cond.code ({ cls := "LoadChecks", name := "requireRoom", desc := "(LLoadChecks$Vehicle;II)V" } : MethodName) prog_1_method_32_code (3 : Nat) (Option.none : Option FieldType)) ∈ xT := List.mem_filter.mpr ⟨m_397, by decide +kernel⟩
theorem m_399 : (Cond.methodLinkNest "LoadChecks" (114 : Nat) ({ cls := "LoadChecks$Vehicle", name := "load", desc := "(III)V" } : MethodName) "LoadChecks") ∈ lw_tbl := List.mem_of_getElem? (i := 399) (by decide +kernel)
theorem m_401 : (Cond.instanceMethod ({ cls := "LoadChecks$Vehicle", name := "load", desc := "(III)V" } : MethodName)) ∈ lw_tbl := List.mem_of_getElem? (i := 401) (by decide +kernel)
theorem w_401 : (Cond.instanceMethod ({ cls := "LoadChecks$Vehicle", name := "load", desc := "(III)V" } : MethodName)) ∈ xT := List.mem_filter.mpr ⟨m_401, by decide +kernel⟩
theorem m_402 : (Cond.code ({ cls := "LoadChecks$Vehicle", name := "load", desc := "(III)V" } : MethodName) prog_3_method_7_code (6 : Nat) (Option.none : Option FieldType)) ∈ lw_tbl := List.mem_of_getElem? (i := 402) (by decide +kernel)
theorem w_402 : (Cond.code ({ cls := "LoadChecks$Vehicle", name := "load", desc := "(III)V" } : MethodName) prog_3_method_7_code (6 : Nat) (Option.none : Option FieldType)) ∈ xT := List.mem_filter.mpr ⟨m_402, by decide +kernel⟩
theorem m_406 : (Cond.methodLink "LoadChecksLaw" (42 : Nat) ({ cls := "LoadChecks", name := "use", desc := "(IIII)I" } : MethodName)) ∈ lw_tbl := List.mem_of_getElem? (i := 406) (by decide +kernel)
theorem w_406 : (Cond.methodLink "LoadChecksLaw" (42 : Nat) ({ cls := "LoadChecks", name := "use", desc := "(IIII)I" } : MethodName)) ∈ xT := List.mem_filter.mpr ⟨m_406, by decide +kernel⟩
theorem m_407 : (Cond.instanceMethod ({ cls := "LoadChecks", name := "use", desc := "(IIII)I" } : MethodName)) ∈ lw_tbl := List.mem_of_getElem? (i := 407) (by decide +kernel)
theorem w_407 : (Cond.instanceMethod ({ cls := "LoadChecks", name := "use", desc := "(IIII)I" } : MethodName)) ∈ xT := List.mem_filter.mpr ⟨m_407, by decide +kernel⟩
theorem m_408 : (Cond.selects "LoadChecks" ({ cls := "LoadChecks", name := "use", desc := "(IIII)I" } : MethodName) ({ cls := "LoadChecks", name := "use", desc := "(IIII)I" } : MethodName)) ∈ lw_tbl := List.mem_of_getElem? (i := 408) (by decide +kernel)
theorem w_408 : (Cond.selects "LoadChecks" ({ cls := "LoadChecks", name := "use", desc := "(IIII)I" } : MethodName) ({ cls := "LoadChecks", name := "use", desc := "(IIII)I" } : MethodName)) ∈ xT := List.mem_filter.mpr ⟨m_408, by decide +kernel⟩
theorem m_409 : (Cond.code ({ cls := "LoadChecks", name := "use", desc := "(IIII)I" } : MethodName) prog_1_method_9_code (7 : Nat) (Option.some FieldType.int)) ∈ lw_tbl := List.mem_of_getElem? (i := 409) (by decide +kernel)
theorem w_409 : (Cond.code ({ cls := "LoadChecks", name := "use", desc := "(IIII)I" } : MethodName) prog_1_method_9_code (7 : Nat) (Option.some FieldType.int)) ∈ xT := List.mem_filter.mpr ⟨m_409, by decide +kernel⟩
theorem m_410 : (Cond.methodLink "LoadChecks" (120 : Nat) ({ cls := "LoadChecks", name := "requireSoMany", desc := "(LLoadChecks$Vehicle;II)V" } : MethodName)) ∈ lw_tbl := List.mem_of_getElem? (i := 410) (by decide +kernel)
theorem w_410 : (Cond.methodLink "LoadChecks" (120 : Nat) ({ cls := "LoadChecks", name := "requireSoMany", desc := "(LLoadChecks$Vehicle;II)V" } : MethodName)) ∈ xT := List.mem_filter.mpr ⟨m_410, by decide +kernel⟩
theorem m_411 : (Cond.static ({ cls := "LoadChecks", name := "requireSoMany", desc := "(LLoadChecks$Vehicle;II)V" } : MethodName)) ∈ lw_tbl := List.mem_of_getElem? (i := 411) (by decide +kernel)
theorem w_411 : (Cond.static ({ cls := "LoadChecks", name := "requireSoMany", desc := "(LLoadChecks$Vehicle;II)V" } : MethodName)) ∈ xT := List.mem_filter.mpr ⟨m_411, by decide +kernel⟩
theorem m_412 : (Cond.code ({ cls := "LoadChecks", name := "requireSoMany", desc := "(LLoadChecks$Vehicle;II)V" } : MethodName) prog_1_method_30_code (3 : Nat) (Option.none : Option FieldType)) ∈ lw_tbl := List.mem_of_getElem? (i := 412) (by decide +kernel)
theorem w_412 : (Cond.code ({ cls := "LoadChecks", name := "requireSoMany", desc := "(LLoadChecks$Vehicle;II)V" } : MethodName) prog_1_method_30_code (3 : Nat) (Option.none : Option FieldType)) ∈ xT := List.mem_filter.mpr ⟨m_412, by decide +kernel⟩
theorem m_417 : (Cond.methodLink "LoadChecksLaw" (45 : Nat) ({ cls := "LoadChecks", name := "replace", desc := "(I)I" } : MethodName)) ∈ lw_tbl := List.mem_of_getElem? (i := 417) (by decide +kernel)
theorem w_417 : (Cond.methodLink "LoadChecksLaw" (45 : Nat) ({ cls := "LoadChecks", name := "replace", desc := "(I)I" } : MethodName)) ∈ xT := List.mem_filter.mpr ⟨m_417, by decide +kernel⟩
theorem m_418 : (Cond.instanceMethod ({ cls := "LoadChecks", name := "replace", desc := "(I)I" } : MethodName)) ∈ lw_tbl := List.mem_of_getElem? (i := 418) (by decide +kernel)
theorem w_418 : (Cond.instanceMethod ({ cls := "LoadChecks", name := "replace", desc := "(I)I" } : MethodName)) ∈ xT := List.mem_filter.mpr ⟨m_418, by decide +kernel⟩
theorem m_419 : (Cond.selects "LoadChecks" ({ cls := "LoadChecks", name := "replace", desc := "(I)I" } : MethodName) ({ cls := "LoadChecks", name := "replace", desc := "(I)I" } : MethodName)) ∈ lw_tbl := List.mem_of_getElem? (i := 419) (by decide +kernel)
theorem w_419 : (Cond.selects "LoadChecks" ({ cls := "LoadChecks", name := "replace", desc := "(I)I" } : MethodName) ({ cls := "LoadChecks", name := "replace", desc := "(I)I" } : MethodName)) ∈ xT := List.mem_filter.mpr ⟨m_419, by decide +kernel⟩
theorem m_420 : (Cond.code ({ cls := "LoadChecks", name := "replace", desc := "(I)I" } : MethodName) prog_1_method_10_code (8 : Nat) (Option.some FieldType.int)) ∈ lw_tbl := List.mem_of_getElem? (i := 420) (by decide +kernel)
theorem w_420 : (Cond.code ({ cls := "LoadChecks", name := "replace", desc := "(I)I" } : MethodName) prog_1_method_10_code (8 : Nat) (Option.some FieldType.int)) ∈ xT := List.mem_filter.mpr ⟨m_420, by decide +kernel⟩
theorem m_421 : (Cond.methodLinkNest "LoadChecks" (123 : Nat) ({ cls := "LoadChecks$Vehicle", name := "lackOf", desc := "(II)I" } : MethodName) "LoadChecks") ∈ lw_tbl := List.mem_of_getElem? (i := 421) (by decide +kernel)
theorem m_423 : (Cond.instanceMethod ({ cls := "LoadChecks$Vehicle", name := "lackOf", desc := "(II)I" } : MethodName)) ∈ lw_tbl := List.mem_of_getElem? (i := 423) (by decide +kernel)
theorem w_423 : (Cond.instanceMethod ({ cls := "LoadChecks$Vehicle", name := "lackOf", desc := "(II)I" } : MethodName)) ∈ xT := List.mem_filter.mpr ⟨m_423, by decide +kernel⟩
theorem m_424 : (Cond.code ({ cls := "LoadChecks$Vehicle", name := "lackOf", desc := "(II)I" } : MethodName) prog_3_method_10_code (3 : Nat) (Option.some FieldType.int)) ∈ lw_tbl := List.mem_of_getElem? (i := 424) (by decide +kernel)
theorem w_424 : (Cond.code ({ cls := "LoadChecks$Vehicle", name := "lackOf", desc := "(II)I" } : MethodName) prog_3_method_10_code (3 : Nat) (Option.some FieldType.int)) ∈ xT := List.mem_filter.mpr ⟨m_424, by decide +kernel⟩
theorem m_425 : (Cond.methodLink "LoadChecks$Vehicle" (72 : Nat) ({ cls := "java/lang/Math", name := "max", desc := "(II)I" } : MethodName)) ∈ lw_tbl := List.mem_of_getElem? (i := 425) (by decide +kernel)
theorem w_425 : (Cond.methodLink "LoadChecks$Vehicle" (72 : Nat) ({ cls := "java/lang/Math", name := "max", desc := "(II)I" } : MethodName)) ∈ xT := List.mem_filter.mpr ⟨m_425, by decide +kernel⟩
theorem m_426 : (Cond.static ({ cls := "java/lang/Math", name := "max", desc := "(II)I" } : MethodName)) ∈ lw_tbl := List.mem_of_getElem? (i := 426) (by decide +kernel)
theorem w_426 : (Cond.static ({ cls := "java/lang/Math", name := "max", desc := "(II)I" } : MethodName)) ∈ xT := List.mem_filter.mpr ⟨m_426, by decide +kernel⟩
theorem m_427 : (Cond.code ({ cls := "java/lang/Math", name := "max", desc := "(II)I" } : MethodName) prog_11_method_65_code (2 : Nat) (Option.some FieldType.int)) ∈ lw_tbl := List.mem_of_getElem? (i := 427) (by decide +kernel)
theorem w_427 : (Cond.code ({ cls := "java/lang/Math", name := "max", desc := "(II)I" } : MethodName) prog_11_method_65_code (2 : Nat) (Option.some FieldType.int)) ∈ xT := List.mem_filter.mpr ⟨m_427, by decide +kernel⟩
theorem m_428 : (Cond.methodLink "LoadChecks" (126 : Nat) ({ cls := "java/lang/Math", name := "min", desc := "(II)I" } : MethodName)) ∈ lw_tbl := List.mem_of_getElem? (i := 428) (by decide +kernel)
theorem w_428 : (Cond.methodLink "LoadChecks" (126 : Nat) ({ cls := "java/lang/Math", name := "min", desc := "(II)I" } : MethodName)) ∈ xT := List.mem_filter.mpr ⟨m_428, by decide +kernel⟩
theorem m_429 : (Cond.static ({ cls := "java/lang/Math", name := "min", desc := "(II)I" } : MethodName)) ∈ lw_tbl := List.mem_of_getElem? (i := 429) (by decide +kernel)
theorem w_429 : (Cond.static ({ cls := "java/lang/Math", name := "min", desc := "(II)I" } : MethodName)) ∈ xT := List.mem_filter.mpr ⟨m_429, by decide +kernel⟩
theorem m_430 : (Cond.code ({ cls := "java/lang/Math", name := "min", desc := "(II)I" } : MethodName) prog_11_method_69_code (2 : Nat) (Option.some FieldType.int)) ∈ lw_tbl := List.mem_of_getElem? (i := 430) (by decide +kernel)
theorem w_430 : (Cond.code ({ cls := "java/lang/Math", name := "min", desc := "(II)I" } : MethodName) prog_11_method_69_code (2 : Nat) (Option.some FieldType.int)) ∈ xT := List.mem_filter.mpr ⟨m_430, by decide +kernel⟩
theorem m_434 : (Cond.methodLink "LoadChecksLaw" (49 : Nat) ({ cls := "LoadChecks", name := "swap", desc := "(IIIII)V" } : MethodName)) ∈ lw_tbl := List.mem_of_getElem? (i := 434) (by decide +kernel)
theorem w_434 : (Cond.methodLink "LoadChecksLaw" (49 : Nat) ({ cls := "LoadChecks", name := "swap", desc := "(IIIII)V" } : MethodName)) ∈ xT := List.mem_filter.mpr ⟨m_434, by decide +kernel⟩
theorem m_435 : (Cond.instanceMethod ({ cls := "LoadChecks", name := "swap", desc := "(IIIII)V" } : MethodName)) ∈ lw_tbl := List.mem_of_getElem? (i := 435) (by decide +kernel)
theorem w_435 : (Cond.instanceMethod ({ cls := "LoadChecks", name := "swap", desc := "(IIIII)V" } : MethodName)) ∈ xT := List.mem_filter.mpr ⟨m_435, by decide +kernel⟩
theorem m_436 : (Cond.selects "LoadChecks" ({ cls := "LoadChecks", name := "swap", desc := "(IIIII)V" } : MethodName) ({ cls := "LoadChecks", name := "swap", desc := "(IIIII)V" } : MethodName)) ∈ lw_tbl := List.mem_of_getElem? (i := 436) (by decide +kernel)
theorem w_436 : (Cond.selects "LoadChecks" ({ cls := "LoadChecks", name := "swap", desc := "(IIIII)V" } : MethodName) ({ cls := "LoadChecks", name := "swap", desc := "(IIIII)V" } : MethodName)) ∈ xT := List.mem_filter.mpr ⟨m_436, by decide +kernel⟩
theorem m_437 : (Cond.code ({ cls := "LoadChecks", name := "swap", desc := "(IIIII)V" } : MethodName) prog_1_method_11_code (9 : Nat) (Option.none : Option FieldType)) ∈ lw_tbl := List.mem_of_getElem? (i := 437) (by decide +kernel)
theorem w_437 : (Cond.code ({ cls := "LoadChecks", name := "swap", desc := "(IIIII)V" } : MethodName) prog_1_method_11_code (9 : Nat) (Option.none : Option FieldType)) ∈ xT := List.mem_filter.mpr ⟨m_437, by decide +kernel⟩
theorem m_439 : (Cond.methodLinkNest "LoadChecks" (140 : Nat) ({ cls := "LoadChecks$Rows", name := "add", desc := "(III)V" } : MethodName) "LoadChecks") ∈ lw_tbl := List.mem_of_getElem? (i := 439) (by decide +kernel)
theorem m_441 : (Cond.instanceMethod ({ cls := "LoadChecks$Rows", name := "add", desc := "(III)V" } : MethodName)) ∈ lw_tbl := List.mem_of_getElem? (i := 441) (by decide +kernel)
theorem w_441 : (Cond.instanceMethod ({ cls := "LoadChecks$Rows", name := "add", desc := "(III)V" } : MethodName)) ∈ xT := List.mem_filter.mpr ⟨m_441, by decide +kernel⟩
theorem m_442 : (Cond.code ({ cls := "LoadChecks$Rows", name := "add", desc := "(III)V" } : MethodName) prog_2_method_2_code (5 : Nat) (Option.none : Option FieldType)) ∈ lw_tbl := List.mem_of_getElem? (i := 442) (by decide +kernel)
theorem w_442 : (Cond.code ({ cls := "LoadChecks$Rows", name := "add", desc := "(III)V" } : MethodName) prog_2_method_2_code (5 : Nat) (Option.none : Option FieldType)) ∈ xT := List.mem_filter.mpr ⟨m_442, by decide +kernel⟩
theorem m_443 : (Cond.constantLong "LoadChecks$Rows" (17 : Nat) (100 : Int64)) ∈ lw_tbl := List.mem_of_getElem? (i := 443) (by decide +kernel)
theorem w_443 : (Cond.constantLong "LoadChecks$Rows" (17 : Nat) (100 : Int64)) ∈ xT := List.mem_filter.mpr ⟨m_443, by decide +kernel⟩
theorem m_447 : (Cond.methodLink "LoadChecksLaw" (53 : Nat) ({ cls := "LoadChecks", name := "ends", desc := "(III)V" } : MethodName)) ∈ lw_tbl := List.mem_of_getElem? (i := 447) (by decide +kernel)
theorem w_447 : (Cond.methodLink "LoadChecksLaw" (53 : Nat) ({ cls := "LoadChecks", name := "ends", desc := "(III)V" } : MethodName)) ∈ xT := List.mem_filter.mpr ⟨m_447, by decide +kernel⟩
theorem m_448 : (Cond.instanceMethod ({ cls := "LoadChecks", name := "ends", desc := "(III)V" } : MethodName)) ∈ lw_tbl := List.mem_of_getElem? (i := 448) (by decide +kernel)
theorem w_448 : (Cond.instanceMethod ({ cls := "LoadChecks", name := "ends", desc := "(III)V" } : MethodName)) ∈ xT := List.mem_filter.mpr ⟨m_448, by decide +kernel⟩
theorem m_449 : (Cond.selects "LoadChecks" ({ cls := "LoadChecks", name := "ends", desc := "(III)V" } : MethodName) ({ cls := "LoadChecks", name := "ends", desc := "(III)V" } : MethodName)) ∈ lw_tbl := List.mem_of_getElem? (i := 449) (by decide +kernel)
theorem w_449 : (Cond.selects "LoadChecks" ({ cls := "LoadChecks", name := "ends", desc := "(III)V" } : MethodName) ({ cls := "LoadChecks", name := "ends", desc := "(III)V" } : MethodName)) ∈ xT := List.mem_filter.mpr ⟨m_449, by decide +kernel⟩
theorem m_450 : (Cond.code ({ cls := "LoadChecks", name := "ends", desc := "(III)V" } : MethodName) prog_1_method_12_code (5 : Nat) (Option.none : Option FieldType)) ∈ lw_tbl := List.mem_of_getElem? (i := 450) (by decide +kernel)
theorem w_450 : (Cond.code ({ cls := "LoadChecks", name := "ends", desc := "(III)V" } : MethodName) prog_1_method_12_code (5 : Nat) (Option.none : Option FieldType)) ∈ xT := List.mem_filter.mpr ⟨m_450, by decide +kernel⟩
theorem m_454 : (Cond.methodLink "LoadChecksLaw" (56 : Nat) ({ cls := "LoadChecks", name := "battery", desc := "(III)V" } : MethodName)) ∈ lw_tbl := List.mem_of_getElem? (i := 454) (by decide +kernel)
theorem w_454 : (Cond.methodLink "LoadChecksLaw" (56 : Nat) ({ cls := "LoadChecks", name := "battery", desc := "(III)V" } : MethodName)) ∈ xT := List.mem_filter.mpr ⟨m_454, by decide +kernel⟩
theorem m_455 : (Cond.instanceMethod ({ cls := "LoadChecks", name := "battery", desc := "(III)V" } : MethodName)) ∈ lw_tbl := List.mem_of_getElem? (i := 455) (by decide +kernel)
theorem w_455 : (Cond.instanceMethod ({ cls := "LoadChecks", name := "battery", desc := "(III)V" } : MethodName)) ∈ xT := List.mem_filter.mpr ⟨m_455, by decide +kernel⟩
theorem m_456 : (Cond.selects "LoadChecks" ({ cls := "LoadChecks", name := "battery", desc := "(III)V" } : MethodName) ({ cls := "LoadChecks", name := "battery", desc := "(III)V" } : MethodName)) ∈ lw_tbl := List.mem_of_getElem? (i := 456) (by decide +kernel)
theorem w_456 : (Cond.selects "LoadChecks" ({ cls := "LoadChecks", name := "battery", desc := "(III)V" } : MethodName) ({ cls := "LoadChecks", name := "battery", desc := "(III)V" } : MethodName)) ∈ xT := List.mem_filter.mpr ⟨m_456, by decide +kernel⟩
theorem m_457 : (Cond.code ({ cls := "LoadChecks", name := "battery", desc := "(III)V" } : MethodName) prog_1_method_13_code (5 : Nat) (Option.none : Option FieldType)) ∈ lw_tbl := List.mem_of_getElem? (i := 457) (by decide +kernel)
theorem w_457 : (Cond.code ({ cls := "LoadChecks", name := "battery", desc := "(III)V" } : MethodName) prog_1_method_13_code (5 : Nat) (Option.none : Option FieldType)) ∈ xT := List.mem_filter.mpr ⟨m_457, by decide +kernel⟩
theorem m_461 : (Cond.methodLink "LoadChecksLaw" (59 : Nat) ({ cls := "LoadChecks", name := "seal", desc := "(IIZ)V" } : MethodName)) ∈ lw_tbl := List.mem_of_getElem? (i := 461) (by decide +kernel)
theorem w_461 : (Cond.methodLink "LoadChecksLaw" (59 : Nat) ({ cls := "LoadChecks", name := "seal", desc := "(IIZ)V" } : MethodName)) ∈ xT := List.mem_filter.mpr ⟨m_461, by decide +kernel⟩
theorem m_462 : (Cond.instanceMethod ({ cls := "LoadChecks", name := "seal", desc := "(IIZ)V" } : MethodName)) ∈ lw_tbl := List.mem_of_getElem? (i := 462) (by decide +kernel)
theorem w_462 : (Cond.instanceMethod ({ cls := "LoadChecks", name := "seal", desc := "(IIZ)V" } : MethodName)) ∈ xT := List.mem_filter.mpr ⟨m_462, by decide +kernel⟩
theorem m_463 : (Cond.selects "LoadChecks" ({ cls := "LoadChecks", name := "seal", desc := "(IIZ)V" } : MethodName) ({ cls := "LoadChecks", name := "seal", desc := "(IIZ)V" } : MethodName)) ∈ lw_tbl := List.mem_of_getElem? (i := 463) (by decide +kernel)
theorem w_463 : (Cond.selects "LoadChecks" ({ cls := "LoadChecks", name := "seal", desc := "(IIZ)V" } : MethodName) ({ cls := "LoadChecks", name := "seal", desc := "(IIZ)V" } : MethodName)) ∈ xT := List.mem_filter.mpr ⟨m_463, by decide +kernel⟩
theorem m_464 : (Cond.code ({ cls := "LoadChecks", name := "seal", desc := "(IIZ)V" } : MethodName) prog_1_method_14_code (6 : Nat) (Option.none : Option FieldType)) ∈ lw_tbl := List.mem_of_getElem? (i := 464) (by decide +kernel)
theorem w_464 : (Cond.code ({ cls := "LoadChecks", name := "seal", desc := "(IIZ)V" } : MethodName) prog_1_method_14_code (6 : Nat) (Option.none : Option FieldType)) ∈ xT := List.mem_filter.mpr ⟨m_464, by decide +kernel⟩
theorem m_469 : (Cond.methodLink "LoadChecksLaw" (63 : Nat) ({ cls := "LoadChecks", name := "check", desc := "(I)V" } : MethodName)) ∈ lw_tbl := List.mem_of_getElem? (i := 469) (by decide +kernel)
theorem w_469 : (Cond.methodLink "LoadChecksLaw" (63 : Nat) ({ cls := "LoadChecks", name := "check", desc := "(I)V" } : MethodName)) ∈ xT := List.mem_filter.mpr ⟨m_469, by decide +kernel⟩
theorem m_470 : (Cond.instanceMethod ({ cls := "LoadChecks", name := "check", desc := "(I)V" } : MethodName)) ∈ lw_tbl := List.mem_of_getElem? (i := 470) (by decide +kernel)
theorem w_470 : (Cond.instanceMethod ({ cls := "LoadChecks", name := "check", desc := "(I)V" } : MethodName)) ∈ xT := List.mem_filter.mpr ⟨m_470, by decide +kernel⟩
theorem m_471 : (Cond.selects "LoadChecks" ({ cls := "LoadChecks", name := "check", desc := "(I)V" } : MethodName) ({ cls := "LoadChecks", name := "check", desc := "(I)V" } : MethodName)) ∈ lw_tbl := List.mem_of_getElem? (i := 471) (by decide +kernel)
theorem w_471 : (Cond.selects "LoadChecks" ({ cls := "LoadChecks", name := "check", desc := "(I)V" } : MethodName) ({ cls := "LoadChecks", name := "check", desc := "(I)V" } : MethodName)) ∈ xT := List.mem_filter.mpr ⟨m_471, by decide +kernel⟩
theorem m_472 : (Cond.code ({ cls := "LoadChecks", name := "check", desc := "(I)V" } : MethodName) prog_1_method_15_code (3 : Nat) (Option.none : Option FieldType)) ∈ lw_tbl := List.mem_of_getElem? (i := 472) (by decide +kernel)
theorem w_472 : (Cond.code ({ cls := "LoadChecks", name := "check", desc := "(I)V" } : MethodName) prog_1_method_15_code (3 : Nat) (Option.none : Option FieldType)) ∈ xT := List.mem_filter.mpr ⟨m_472, by decide +kernel⟩
theorem m_476 : (Cond.methodLink "LoadChecksLaw" (67 : Nat) ({ cls := "LoadChecks", name := "now", desc := "(II)V" } : MethodName)) ∈ lw_tbl := List.mem_of_getElem? (i := 476) (by decide +kernel)
theorem w_476 : (Cond.methodLink "LoadChecksLaw" (67 : Nat) ({ cls := "LoadChecks", name := "now", desc := "(II)V" } : MethodName)) ∈ xT := List.mem_filter.mpr ⟨m_476, by decide +kernel⟩
theorem m_477 : (Cond.instanceMethod ({ cls := "LoadChecks", name := "now", desc := "(II)V" } : MethodName)) ∈ lw_tbl := List.mem_of_getElem? (i := 477) (by decide +kernel)
theorem w_477 : (Cond.instanceMethod ({ cls := "LoadChecks", name := "now", desc := "(II)V" } : MethodName)) ∈ xT := List.mem_filter.mpr ⟨m_477, by decide +kernel⟩
theorem m_478 : (Cond.selects "LoadChecks" ({ cls := "LoadChecks", name := "now", desc := "(II)V" } : MethodName) ({ cls := "LoadChecks", name := "now", desc := "(II)V" } : MethodName)) ∈ lw_tbl := List.mem_of_getElem? (i := 478) (by decide +kernel)
theorem w_478 : (Cond.selects "LoadChecks" ({ cls := "LoadChecks", name := "now", desc := "(II)V" } : MethodName) ({ cls := "LoadChecks", name := "now", desc := "(II)V" } : MethodName)) ∈ xT := List.mem_filter.mpr ⟨m_478, by decide +kernel⟩
theorem m_479 : (Cond.code ({ cls := "LoadChecks", name := "now", desc := "(II)V" } : MethodName) prog_1_method_16_code (4 : Nat) (Option.none : Option FieldType)) ∈ lw_tbl := List.mem_of_getElem? (i := 479) (by decide +kernel)
theorem w_479 : (Cond.code ({ cls := "LoadChecks", name := "now", desc := "(II)V" } : MethodName) prog_1_method_16_code (4 : Nat) (Option.none : Option FieldType)) ∈ xT := List.mem_filter.mpr ⟨m_479, by decide +kernel⟩
theorem m_483 : (Cond.methodLink "LoadChecksLaw" (71 : Nat) ({ cls := "LoadChecks", name := "ready", desc := "(I)I" } : MethodName)) ∈ lw_tbl := List.mem_of_getElem? (i := 483) (by decide +kernel)
theorem w_483 : (Cond.methodLink "LoadChecksLaw" (71 : Nat) ({ cls := "LoadChecks", name := "ready", desc := "(I)I" } : MethodName)) ∈ xT := List.mem_filter.mpr ⟨m_483, by decide +kernel⟩
theorem m_484 : (Cond.instanceMethod ({ cls := "LoadChecks", name := "ready", desc := "(I)I" } : MethodName)) ∈ lw_tbl := List.mem_of_getElem? (i := 484) (by decide +kernel)
theorem w_484 : (Cond.instanceMethod ({ cls := "LoadChecks", name := "ready", desc := "(I)I" } : MethodName)) ∈ xT := List.mem_filter.mpr ⟨m_484, by decide +kernel⟩
theorem m_485 : (Cond.selects "LoadChecks" ({ cls := "LoadChecks", name := "ready", desc := "(I)I" } : MethodName) ({ cls := "LoadChecks", name := "ready", desc := "(I)I" } : MethodName)) ∈ lw_tbl := List.mem_of_getElem? (i := 485) (by decide +kernel)
theorem w_485 : (Cond.selects "LoadChecks" ({ cls := "LoadChecks", name := "ready", desc := "(I)I" } : MethodName) ({ cls := "LoadChecks", name := "ready", desc := "(I)I" } : MethodName)) ∈ xT := List.mem_filter.mpr ⟨m_485, by decide +kernel⟩
theorem m_486 : (Cond.code ({ cls := "LoadChecks", name := "ready", desc := "(I)I" } : MethodName) prog_1_method_17_code (4 : Nat) (Option.some FieldType.int)) ∈ lw_tbl := List.mem_of_getElem? (i := 486) (by decide +kernel)
theorem w_486 : (Cond.code ({ cls := "LoadChecks", name := "ready", desc := "(I)I" } : MethodName) prog_1_method_17_code (4 : Nat) (Option.some FieldType.int)) ∈ xT := List.mem_filter.mpr ⟨m_486, by decide +kernel⟩
theorem m_487 : (Cond.methodLinkNest "LoadChecks" (167 : Nat) ({ cls := "LoadChecks$Vehicle", name := "missingCell", desc := "([II)I" } : MethodName) "LoadChecks") ∈ lw_tbl := List.mem_of_getElem? (i := 487) (by decide +kernel)
theorem m_489 : (Cond.instanceMethod ({ cls := "LoadChecks$Vehicle", name := "missingCell", desc := "([II)I" } : MethodName)) ∈ lw_tbl := List.mem_of_getElem? (i := 489) (by decide +kernel)
theorem w_489 : (Cond.instanceMethod ({ cls := "LoadChecks$Vehicle", name := "missingCell", desc := "([II)I" } : MethodName)) ∈ xT := List.mem_filter.mpr ⟨m_489, by decide +kernel⟩
theorem m_490 : (Cond.code ({ cls := "LoadChecks$Vehicle", name := "missingCell", desc := "([II)I" } : MethodName) prog_3_method_11_code (5 : Nat) (Option.some FieldType.int)) ∈ lw_tbl := List.mem_of_getElem? (i := 490) (by decide +kernel)
theorem w_490 : (Cond.code ({ cls := "LoadChecks$Vehicle", name := "missingCell", desc := "([II)I" } : MethodName) prog_3_method_11_code (5 : Nat) (Option.some FieldType.int)) ∈ xT := List.mem_filter.mpr ⟨m_490, by decide +kernel⟩
theorem m_491 : (Cond.methodLink "LoadChecks$Vehicle" (77 : Nat) ({ cls := "LoadChecks$Vehicle", name := "lackOf", desc := "(II)I" } : MethodName)) ∈ lw_tbl := List.mem_of_getElem? (i := 491) (by decide +kernel)
theorem w_491 : (Cond.methodLink "LoadChecks$Vehicle" (77 : Nat) ({ cls := "LoadChecks$Vehicle", name := "lackOf", desc := "(II)I" } : MethodName)) ∈ xT := List.mem_filter.mpr ⟨m_491, by decide +kernel⟩
theorem m_492 : (Cond.methodLinkNest "LoadChecks" (171 : Nat) ({ cls := "LoadChecks$Vehicle", name := "hasBrokenSeal", desc := "()Z" } : MethodName) "LoadChecks") ∈ lw_tbl := List.mem_of_getElem? (i := 492) (by decide +kernel)
theorem m_494 : (Cond.instanceMethod ({ cls := "LoadChecks$Vehicle", name := "hasBrokenSeal", desc := "()Z" } : MethodName)) ∈ lw_tbl := List.mem_of_getElem? (i := 494) (by decide +kernel)
theorem w_494 : (Cond.instanceMethod ({ cls := "LoadChecks$Vehicle", name := "hasBrokenSeal", desc := "()Z" } : MethodName)) ∈ xT := List.mem_filter.mpr ⟨m_494, by decide +kernel⟩
theorem m_495 : (Cond.code ({ cls := "LoadChecks$Vehicle", name := "hasBrokenSeal", desc := "()Z" } : MethodName) prog_3_method_12_code (2 : Nat) (Option.some FieldType.boolean)) ∈ lw_tbl := List.mem_of_getElem? (i := 495) (by decide +kernel)
theorem w_495 : (Cond.code ({ cls := "LoadChecks$Vehicle", name := "hasBrokenSeal", desc := "()Z" } : MethodName) prog_3_method_12_code (2 : Nat) (Option.some FieldType.boolean)) ∈ xT := List.mem_filter.mpr ⟨m_495, by decide +kernel⟩
theorem m_496 : (Cond.methodLinkNest "LoadChecks" (175 : Nat) ({ cls := "LoadChecks$Vehicle", name := "needsPastItem", desc := "([II)Z" } : MethodName) "LoadChecks") ∈ lw_tbl := List.mem_of_getElem? (i := 496) (by decide +kernel)
theorem m_498 : (Cond.instanceMethod ({ cls := "LoadChecks$Vehicle", name := "needsPastItem", desc := "([II)Z" } : MethodName)) ∈ lw_tbl := List.mem_of_getElem? (i := 498) (by decide +kernel)
theorem w_498 : (Cond.instanceMethod ({ cls := "LoadChecks$Vehicle", name := "needsPastItem", desc := "([II)Z" } : MethodName)) ∈ xT := List.mem_filter.mpr ⟨m_498, by decide +kernel⟩
theorem m_499 : (Cond.code ({ cls := "LoadChecks$Vehicle", name := "needsPastItem", desc := "([II)Z" } : MethodName) prog_3_method_13_code (5 : Nat) (Option.some FieldType.boolean)) ∈ lw_tbl := List.mem_of_getElem? (i := 499) (by decide +kernel)
theorem w_499 : (Cond.code ({ cls := "LoadChecks$Vehicle", name := "needsPastItem", desc := "([II)Z" } : MethodName) prog_3_method_13_code (5 : Nat) (Option.some FieldType.boolean)) ∈ xT := List.mem_filter.mpr ⟨m_499, by decide +kernel⟩
theorem m_500 : (Cond.methodLinkNest "LoadChecks" (179 : Nat) ({ cls := "LoadChecks$Vehicle", name := "needsWeakItem", desc := "([I[I)Z" } : MethodName) "LoadChecks") ∈ lw_tbl := List.mem_of_getElem? (i := 500) (by decide +kernel)
theorem m_502 : (Cond.instanceMethod ({ cls := "LoadChecks$Vehicle", name := "needsWeakItem", desc := "([I[I)Z" } : MethodName)) ∈ lw_tbl := List.mem_of_getElem? (i := 502) (by decide +kernel)
theorem w_502 : (Cond.instanceMethod ({ cls := "LoadChecks$Vehicle", name := "needsWeakItem", desc := "([I[I)Z" } : MethodName)) ∈ xT := List.mem_filter.mpr ⟨m_502, by decide +kernel⟩
theorem m_503 : (Cond.code ({ cls := "LoadChecks$Vehicle", name := "needsWeakItem", desc := "([I[I)Z" } : MethodName) prog_3_method_14_code (5 : Nat) (Option.some FieldType.boolean)) ∈ lw_tbl := List.mem_of_getElem? (i := 503) (by decide +kernel)
theorem w_503 : (Cond.code ({ cls := "LoadChecks$Vehicle", name := "needsWeakItem", desc := "([I[I)Z" } : MethodName) prog_3_method_14_code (5 : Nat) (Option.some FieldType.boolean)) ∈ xT := List.mem_filter.mpr ⟨m_503, by decide +kernel⟩
theorem m_504 : (Cond.methodLinkNest "LoadChecks" (183 : Nat) ({ cls := "LoadChecks$Vehicle", name := "isBeyond", desc := "()Z" } : MethodName) "LoadChecks") ∈ lw_tbl := List.mem_of_getElem? (i := 504) (by decide +kernel)
theorem m_506 : (Cond.instanceMethod ({ cls := "LoadChecks$Vehicle", name := "isBeyond", desc := "()Z" } : MethodName)) ∈ lw_tbl := List.mem_of_getElem? (i := 506) (by decide +kernel)
theorem w_506 : (Cond.instanceMethod ({ cls := "LoadChecks$Vehicle", name := "isBeyond", desc := "()Z" } : MethodName)) ∈ xT := List.mem_filter.mpr ⟨m_506, by decide +kernel⟩
theorem m_507 : (Cond.code ({ cls := "LoadChecks$Vehicle", name := "isBeyond", desc := "()Z" } : MethodName) prog_3_method_4_code (1 : Nat) (Option.some FieldType.boolean)) ∈ lw_tbl := List.mem_of_getElem? (i := 507) (by decide +kernel)
theorem w_507 : (Cond.code ({ cls := "LoadChecks$Vehicle", name := "isBeyond", desc := "()Z" } : MethodName) prog_3_method_4_code (1 : Nat) (Option.some FieldType.boolean)) ∈ xT := List.mem_filter.mpr ⟨m_507, by decide +kernel⟩
theorem m_511 : (Cond.methodLink "LoadChecksLaw" (74 : Nat) ({ cls := "LoadChecks", name := "missing", desc := "(II)I" } : MethodName)) ∈ lw_tbl := List.mem_of_getElem? (i := 511) (by decide +kernel)
theorem w_511 : (Cond.methodLink "LoadChecksLaw" (74 : Nat) ({ cls := "LoadChecks", name := "missing", desc := "(II)I" } : MethodName)) ∈ xT := List.mem_filter.mpr ⟨m_511, by decide +kernel⟩
theorem m_512 : (Cond.instanceMethod ({ cls := "LoadChecks", name := "missing", desc := "(II)I" } : MethodName)) ∈ lw_tbl := List.mem_of_getElem? (i := 512) (by decide +kernel)
theorem w_512 : (Cond.instanceMethod ({ cls := "LoadChecks", name := "missing", desc := "(II)I" } : MethodName)) ∈ xT := List.mem_filter.mpr ⟨m_512, by decide +kernel⟩
theorem m_513 : (Cond.selects "LoadChecks" ({ cls := "LoadChecks", name := "missing", desc := "(II)I" } : MethodName) ({ cls := "LoadChecks", name := "missing", desc := "(II)I" } : MethodName)) ∈ lw_tbl := List.mem_of_getElem? (i := 513) (by decide +kernel)
theorem w_513 : (Cond.selects "LoadChecks" ({ cls := "LoadChecks", name := "missing", desc := "(II)I" } : MethodName) ({ cls := "LoadChecks", name := "missing", desc := "(II)I" } : MethodName)) ∈ xT := List.mem_filter.mpr ⟨m_513, by decide +kernel⟩
theorem m_514 : (Cond.code ({ cls := "LoadChecks", name := "missing", desc := "(II)I" } : MethodName) prog_1_method_18_code (6 : Nat) (Option.some FieldType.int)) ∈ lw_tbl := List.mem_of_getElem? (i := 514) (by decide +kernel)
theorem w_514 : (Cond.code ({ cls := "LoadChecks", name := "missing", desc := "(II)I" } : MethodName) prog_1_method_18_code (6 : Nat) (Option.some FieldType.int)) ∈ xT := List.mem_filter.mpr ⟨m_514, by decide +kernel⟩
theorem m_519 : (Cond.classLink "LoadChecksLaw" (80 : Nat) "java/lang/ArithmeticException") ∈ lw_tbl := List.mem_of_getElem? (i := 519) (by decide +kernel)
theorem w_519 : (Cond.classLink "LoadChecksLaw" (80 : Nat) "java/lang/ArithmeticException") ∈ xT := List.mem_filter.mpr ⟨m_519, by decide +kernel⟩
theorem m_520 : (Cond.methodLink "LoadChecksLaw" (77 : Nat) ({ cls := "LoadChecks", name := "share", desc := "(I)I" } : MethodName)) ∈ lw_tbl := List.mem_of_getElem? (i := 520) (by decide +kernel)
theorem w_520 : (Cond.methodLink "LoadChecksLaw" (77 : Nat) ({ cls := "LoadChecks", name := "share", desc := "(I)I" } : MethodName)) ∈ xT := List.mem_filter.mpr ⟨m_520, by decide +kernel⟩
theorem m_521 : (Cond.instanceMethod ({ cls := "LoadChecks", name := "share", desc := "(I)I" } : MethodName)) ∈ lw_tbl := List.mem_of_getElem? (i := 521) (by decide +kernel)
theorem w_521 : (Cond.instanceMethod ({ cls := "LoadChecks", name := "share", desc := "(I)I" } : MethodName)) ∈ xT := List.mem_filter.mpr ⟨m_521, by decide +kernel⟩
theorem m_522 : (Cond.selects "LoadChecks" ({ cls := "LoadChecks", name := "share", desc := "(I)I" } : MethodName) ({ cls := "LoadChecks", name := "share", desc := "(I)I" } : MethodName)) ∈ lw_tbl := List.mem_of_getElem? (i := 522) (by decide +kernel)
theorem w_522 : (Cond.selects "LoadChecks" ({ cls := "LoadChecks", name := "share", desc := "(I)I" } : MethodName) ({ cls := "LoadChecks", name := "share", desc := "(I)I" } : MethodName)) ∈ xT := List.mem_filter.mpr ⟨m_522, by decide +kernel⟩
theorem m_523 : (Cond.code ({ cls := "LoadChecks", name := "share", desc := "(I)I" } : MethodName) prog_1_method_19_code (7 : Nat) (Option.some FieldType.int)) ∈ lw_tbl := List.mem_of_getElem? (i := 523) (by decide +kernel)
theorem w_523 : (Cond.code ({ cls := "LoadChecks", name := "share", desc := "(I)I" } : MethodName) prog_1_method_19_code (7 : Nat) (Option.some FieldType.int)) ∈ xT := List.mem_filter.mpr ⟨m_523, by decide +kernel⟩
theorem m_524 : (Cond.classLink "LoadChecks" (191 : Nat) "java/lang/ArithmeticException") ∈ lw_tbl := List.mem_of_getElem? (i := 524) (by decide +kernel)
theorem w_524 : (Cond.classLink "LoadChecks" (191 : Nat) "java/lang/ArithmeticException") ∈ xT := List.mem_filter.mpr ⟨m_524, by decide +kernel⟩
theorem m_526 : (Cond.castable "java/lang/ArithmeticException" "java/lang/ArithmeticException") ∈ lw_tbl := List.mem_of_getElem? (i := 526) (by decide +kernel)
theorem m_543 : (Cond.methodLink "LoadChecksLaw" (82 : Nat) ({ cls := "LoadChecks", name := "axle", desc := "(II)J" } : MethodName)) ∈ lw_tbl := List.mem_of_getElem? (i := 543) (by decide +kernel)
theorem w_543 : (Cond.methodLink "LoadChecksLaw" (82 : Nat) ({ cls := "LoadChecks", name := "axle", desc := "(II)J" } : MethodName)) ∈ xT := List.mem_filter.mpr ⟨m_543, by decide +kernel⟩
theorem m_544 : (Cond.instanceMethod ({ cls := "LoadChecks", name := "axle", desc := "(II)J" } : MethodName)) ∈ lw_tbl := List.mem_of_getElem? (i := 544) (by decide +kernel)
theorem w_544 : (Cond.instanceMethod ({ cls := "LoadChecks", name := "axle", desc := "(II)J" } : MethodName)) ∈ xT := List.mem_filter.mpr ⟨m_544, by decide +kernel⟩
theorem m_545 : (Cond.selects "LoadChecks" ({ cls := "LoadChecks", name := "axle", desc := "(II)J" } : MethodName) ({ cls := "LoadChecks", name := "axle", desc := "(II)J" } : MethodName)) ∈ lw_tbl := List.mem_of_getElem? (i := 545) (by decide +kernel)
theorem w_545 : (Cond.selects "LoadChecks" ({ cls := "LoadChecks", name := "axle", desc := "(II)J" } : MethodName) ({ cls := "LoadChecks", name := "axle", desc := "(II)J" } : MethodName)) ∈ xT := List.mem_filter.mpr ⟨m_545, by decide +kernel⟩
theorem m_546 : (Cond.code ({ cls := "LoadChecks", name := "axle", desc := "(II)J" } : MethodName) prog_1_method_20_code (10 : Nat) (Option.some FieldType.long)) ∈ lw_tbl := List.mem_of_getElem? (i := 546) (by decide +kernel)
theorem w_546 : (Cond.code ({ cls := "LoadChecks", name := "axle", desc := "(II)J" } : MethodName) prog_1_method_20_code (10 : Nat) (Option.some FieldType.long)) ∈ xT := List.mem_filter.mpr ⟨m_546, by decide +kernel⟩
theorem m_548 : (Cond.methodLinkNest "LoadChecks" (198 : Nat) ({ cls := "LoadChecks$Vehicle", name := "frontMoment", desc := "()J" } : MethodName) "LoadChecks") ∈ lw_tbl := List.mem_of_getElem? (i := 548) (by decide +kernel)
theorem m_549 : (Cond.methodLinkNest "LoadChecks" (202 : Nat) ({ cls := "LoadChecks$Vehicle", name := "rearMoment", desc := "()J" } : MethodName) "LoadChecks") ∈ lw_tbl := List.mem_of_getElem? (i := 549) (by decide +kernel)
theorem m_550 : (Cond.methodLink "LoadChecks" (205 : Nat) ({ cls := "LoadChecks", name := "commonDivisor", desc := "(JJ)J" } : MethodName)) ∈ lw_tbl := List.mem_of_getElem? (i := 550) (by decide +kernel)
theorem w_550 : (Cond.methodLink "LoadChecks" (205 : Nat) ({ cls := "LoadChecks", name := "commonDivisor", desc := "(JJ)J" } : MethodName)) ∈ xT := List.mem_filter.mpr ⟨m_550, by decide +kernel⟩
theorem m_551 : (Cond.static ({ cls := "LoadChecks", name := "commonDivisor", desc := "(JJ)J" } : MethodName)) ∈ lw_tbl := List.mem_of_getElem? (i := 551) (by decide +kernel)
theorem w_551 : (Cond.static ({ cls := "LoadChecks", name := "commonDivisor", desc := "(JJ)J" } : MethodName)) ∈ xT := List.mem_filter.mpr ⟨m_551, by decide +kernel⟩
theorem m_552 : (Cond.code ({ cls := "LoadChecks", name := "commonDivisor", desc := "(JJ)J" } : MethodName) prog_1_method_35_code (11 : Nat) (Option.some FieldType.long)) ∈ lw_tbl := List.mem_of_getElem? (i := 552) (by decide +kernel)
theorem w_552 : (Cond.code ({ cls := "LoadChecks", name := "commonDivisor", desc := "(JJ)J" } : MethodName) prog_1_method_35_code (11 : Nat) (Option.some FieldType.long)) ∈ xT := List.mem_filter.mpr ⟨m_552, by decide +kernel⟩
theorem m_553 : (Cond.methodLink "LoadChecks" (237 : Nat) ({ cls := "java/lang/Math", name := "abs", desc := "(J)J" } : MethodName)) ∈ lw_tbl := List.mem_of_getElem? (i := 553) (by decide +kernel)
theorem w_553 : (Cond.methodLink "LoadChecks" (237 : Nat) ({ cls := "java/lang/Math", name := "abs", desc := "(J)J" } : MethodName)) ∈ xT := List.mem_filter.mpr ⟨m_553, by decide +kernel⟩
theorem m_554 : (Cond.static ({ cls := "java/lang/Math", name := "abs", desc := "(J)J" } : MethodName)) ∈ lw_tbl := List.mem_of_getElem? (i := 554) (by decide +kernel)
theorem w_554 : (Cond.static ({ cls := "java/lang/Math", name := "abs", desc := "(J)J" } : MethodName)) ∈ xT := List.mem_filter.mpr ⟨m_554, by decide +kernel⟩
theorem m_555 : (Cond.code ({ cls := "java/lang/Math", name := "abs", desc := "(J)J" } : MethodName) prog_11_method_61_code (2 : Nat) (Option.some FieldType.long)) ∈ lw_tbl := List.mem_of_getElem? (i := 555) (by decide +kernel)
theorem w_555 : (Cond.code ({ cls := "java/lang/Math", name := "abs", desc := "(J)J" } : MethodName) prog_11_method_61_code (2 : Nat) (Option.some FieldType.long)) ∈ xT := List.mem_filter.mpr ⟨m_555, by decide +kernel⟩
theorem m_556 : (Cond.methodLink "LoadChecks" (241 : Nat) ({ cls := "java/lang/Math", name := "max", desc := "(JJ)J" } : MethodName)) ∈ lw_tbl := List.mem_of_getElem? (i := 556) (by decide +kernel)
theorem w_556 : (Cond.methodLink "LoadChecks" (241 : Nat) ({ cls := "java/lang/Math", name := "max", desc := "(JJ)J" } : MethodName)) ∈ xT := List.mem_filter.mpr ⟨m_556, by decide +kernel⟩
theorem m_557 : (Cond.static ({ cls := "java/lang/Math", name := "max", desc := "(JJ)J" } : MethodName)) ∈ lw_tbl := List.mem_of_getElem? (i := 557) (by decide +kernel)
theorem w_557 : (Cond.static ({ cls := "java/lang/Math", name := "max", desc := "(JJ)J" } : MethodName)) ∈ xT := List.mem_filter.mpr ⟨m_557, by decide +kernel⟩
theorem m_558 : (Cond.code ({ cls := "java/lang/Math", name := "max", desc := "(JJ)J" } : MethodName) prog_11_method_66_code (4 : Nat) (Option.some FieldType.long)) ∈ lw_tbl := List.mem_of_getElem? (i := 558) (by decide +kernel)
theorem w_558 : (Cond.code ({ cls := "java/lang/Math", name := "max", desc := "(JJ)J" } : MethodName) prog_11_method_66_code (4 : Nat) (Option.some FieldType.long)) ∈ xT := List.mem_filter.mpr ⟨m_558, by decide +kernel⟩
theorem m_562 : (Cond.methodLink "LoadChecksLaw" (86 : Nat) ({ cls := "LoadChecks", name := "row", desc := "(II)I" } : MethodName)) ∈ lw_tbl := List.mem_of_getElem? (i := 562) (by decide +kernel)
theorem w_562 : (Cond.methodLink "LoadChecksLaw" (86 : Nat) ({ cls := "LoadChecks", name := "row", desc := "(II)I" } : MethodName)) ∈ xT := List.mem_filter.mpr ⟨m_562, by decide +kernel⟩
theorem m_563 : (Cond.instanceMethod ({ cls := "LoadChecks", name := "row", desc := "(II)I" } : MethodName)) ∈ lw_tbl := List.mem_of_getElem? (i := 563) (by decide +kernel)
theorem w_563 : (Cond.instanceMethod ({ cls := "LoadChecks", name := "row", desc := "(II)I" } : MethodName)) ∈ xT := List.mem_filter.mpr ⟨m_563, by decide +kernel⟩
theorem m_564 : (Cond.selects "LoadChecks" ({ cls := "LoadChecks", name := "row", desc := "(II)I" } : MethodName) ({ cls := "LoadChecks", name := "row", desc := "(II)I" } : MethodName)) ∈ lw_tbl := List.mem_of_getElem? (i := 564) (by decide +kernel)
theorem w_564 : (Cond.selects "LoadChecks" ({ cls := "LoadChecks", name := "row", desc := "(II)I" } : MethodName) ({ cls := "LoadChecks", name := "row", desc := "(II)I" } : MethodName)) ∈ xT := List.mem_filter.mpr ⟨m_564, by decide +kernel⟩
theorem m_565 : (Cond.code ({ cls := "LoadChecks", name := "row", desc := "(II)I" } : MethodName) prog_1_method_21_code (3 : Nat) (Option.some FieldType.int)) ∈ lw_tbl := List.mem_of_getElem? (i := 565) (by decide +kernel)
theorem w_565 : (Cond.code ({ cls := "LoadChecks", name := "row", desc := "(II)I" } : MethodName) prog_1_method_21_code (3 : Nat) (Option.some FieldType.int)) ∈ xT := List.mem_filter.mpr ⟨m_565, by decide +kernel⟩
theorem m_566 : (Cond.methodLinkNest "LoadChecks" (209 : Nat) ({ cls := "LoadChecks$Rows", name := "keeps", desc := "(I)Z" } : MethodName) "LoadChecks") ∈ lw_tbl := List.mem_of_getElem? (i := 566) (by decide +kernel)
theorem m_568 : (Cond.instanceMethod ({ cls := "LoadChecks$Rows", name := "keeps", desc := "(I)Z" } : MethodName)) ∈ lw_tbl := List.mem_of_getElem? (i := 568) (by decide +kernel)
theorem w_568 : (Cond.instanceMethod ({ cls := "LoadChecks$Rows", name := "keeps", desc := "(I)Z" } : MethodName)) ∈ xT := List.mem_filter.mpr ⟨m_568, by decide +kernel⟩
theorem m_569 : (Cond.code ({ cls := "LoadChecks$Rows", name := "keeps", desc := "(I)Z" } : MethodName) prog_2_method_3_code (2 : Nat) (Option.some FieldType.boolean)) ∈ lw_tbl := List.mem_of_getElem? (i := 569) (by decide +kernel)
theorem w_569 : (Cond.code ({ cls := "LoadChecks$Rows", name := "keeps", desc := "(I)Z" } : MethodName) prog_2_method_3_code (2 : Nat) (Option.some FieldType.boolean)) ∈ xT := List.mem_filter.mpr ⟨m_569, by decide +kernel⟩
theorem m_571 : (Cond.methodLinkNest "LoadChecks" (214 : Nat) ({ cls := "LoadChecks$Rows", name := "number", desc := "(II)I" } : MethodName) "LoadChecks") ∈ lw_tbl := List.mem_of_getElem? (i := 571) (by decide +kernel)
theorem m_573 : (Cond.instanceMethod ({ cls := "LoadChecks$Rows", name := "number", desc := "(II)I" } : MethodName)) ∈ lw_tbl := List.mem_of_getElem? (i := 573) (by decide +kernel)
theorem w_573 : (Cond.instanceMethod ({ cls := "LoadChecks$Rows", name := "number", desc := "(II)I" } : MethodName)) ∈ xT := List.mem_filter.mpr ⟨m_573, by decide +kernel⟩
theorem m_574 : (Cond.code ({ cls := "LoadChecks$Rows", name := "number", desc := "(II)I" } : MethodName) prog_2_method_4_code (3 : Nat) (Option.some FieldType.int)) ∈ lw_tbl := List.mem_of_getElem? (i := 574) (by decide +kernel)
theorem w_574 : (Cond.code ({ cls := "LoadChecks$Rows", name := "number", desc := "(II)I" } : MethodName) prog_2_method_4_code (3 : Nat) (Option.some FieldType.int)) ∈ xT := List.mem_filter.mpr ⟨m_574, by decide +kernel⟩
theorem m_578 : (Cond.methodLink "LoadChecksLaw" (89 : Nat) ({ cls := "LoadChecks", name := "has", desc := "(III)I" } : MethodName)) ∈ lw_tbl := List.mem_of_getElem? (i := 578) (by decide +kernel)
theorem w_578 : (Cond.methodLink "LoadChecksLaw" (89 : Nat) ({ cls := "LoadChecks", name := "has", desc := "(III)I" } : MethodName)) ∈ xT := List.mem_filter.mpr ⟨m_578, by decide +kernel⟩
theorem m_579 : (Cond.instanceMethod ({ cls := "LoadChecks", name := "has", desc := "(III)I" } : MethodName)) ∈ lw_tbl := List.mem_of_getElem? (i := 579) (by decide +kernel)
theorem w_579 : (Cond.instanceMethod ({ cls := "LoadChecks", name := "has", desc := "(III)I" } : MethodName)) ∈ xT := List.mem_filter.mpr ⟨m_579, by decide +kernel⟩
theorem m_580 : (Cond.selects "LoadChecks" ({ cls := "LoadChecks", name := "has", desc := "(III)I" } : MethodName) ({ cls := "LoadChecks", name := "has", desc := "(III)I" } : MethodName)) ∈ lw_tbl := List.mem_of_getElem? (i := 580) (by decide +kernel)
theorem w_580 : (Cond.selects "LoadChecks" ({ cls := "LoadChecks", name := "has", desc := "(III)I" } : MethodName) ({ cls := "LoadChecks", name := "has", desc := "(III)I" } : MethodName)) ∈ xT := List.mem_filter.mpr ⟨m_580, by decide +kernel⟩
theorem m_581 : (Cond.code ({ cls := "LoadChecks", name := "has", desc := "(III)I" } : MethodName) prog_1_method_22_code (5 : Nat) (Option.some FieldType.int)) ∈ lw_tbl := List.mem_of_getElem? (i := 581) (by decide +kernel)
theorem w_581 : (Cond.code ({ cls := "LoadChecks", name := "has", desc := "(III)I" } : MethodName) prog_1_method_22_code (5 : Nat) (Option.some FieldType.int)) ∈ xT := List.mem_filter.mpr ⟨m_581, by decide +kernel⟩
theorem m_585 : (Cond.methodLink "LoadChecksLaw" (93 : Nat) ({ cls := "LoadChecks", name := "stocked", desc := "(I)I" } : MethodName)) ∈ lw_tbl := List.mem_of_getElem? (i := 585) (by decide +kernel)
theorem w_585 : (Cond.methodLink "LoadChecksLaw" (93 : Nat) ({ cls := "LoadChecks", name := "stocked", desc := "(I)I" } : MethodName)) ∈ xT := List.mem_filter.mpr ⟨m_585, by decide +kernel⟩
theorem m_586 : (Cond.instanceMethod ({ cls := "LoadChecks", name := "stocked", desc := "(I)I" } : MethodName)) ∈ lw_tbl := List.mem_of_getElem? (i := 586) (by decide +kernel)
theorem w_586 : (Cond.instanceMethod ({ cls := "LoadChecks", name := "stocked", desc := "(I)I" } : MethodName)) ∈ xT := List.mem_filter.mpr ⟨m_586, by decide +kernel⟩
theorem m_587 : (Cond.selects "LoadChecks" ({ cls := "LoadChecks", name := "stocked", desc := "(I)I" } : MethodName) ({ cls := "LoadChecks", name := "stocked", desc := "(I)I" } : MethodName)) ∈ lw_tbl := List.mem_of_getElem? (i := 587) (by decide +kernel)
theorem w_587 : (Cond.selects "LoadChecks" ({ cls := "LoadChecks", name := "stocked", desc := "(I)I" } : MethodName) ({ cls := "LoadChecks", name := "stocked", desc := "(I)I" } : MethodName)) ∈ xT := List.mem_filter.mpr ⟨m_587, by decide +kernel⟩
theorem m_588 : (Cond.code ({ cls := "LoadChecks", name := "stocked", desc := "(I)I" } : MethodName) prog_1_method_23_code (2 : Nat) (Option.some FieldType.int)) ∈ lw_tbl := List.mem_of_getElem? (i := 588) (by decide +kernel)
theorem w_588 : (Cond.code ({ cls := "LoadChecks", name := "stocked", desc := "(I)I" } : MethodName) prog_1_method_23_code (2 : Nat) (Option.some FieldType.int)) ∈ xT := List.mem_filter.mpr ⟨m_588, by decide +kernel⟩
theorem m_594 : (Cond.methodLink "LoadChecksModel" (1 : Nat) ({ cls := "java/lang/Object", name := "<init>", desc := "()V" } : MethodName)) ∈ lw_tbl := List.mem_of_getElem? (i := 594) (by decide +kernel)
theorem w_594 : (Cond.methodLink "LoadChecksModel" (1 : Nat) ({ cls := "java/lang/Object", name := "<init>", desc := "()V" } : MethodName)) ∈ xT := List.mem_filter.mpr ⟨m_594, by decide +kernel⟩
theorem m_595 : (Cond.fieldLink "LoadChecksModel" (56 : Nat) "LoadChecksModel" "thrown" "I") ∈ lw_tbl := List.mem_of_getElem? (i := 595) (by decide +kernel)
theorem w_595 : (Cond.fieldLink "LoadChecksModel" (56 : Nat) "LoadChecksModel" "thrown" "I") ∈ xT := List.mem_filter.mpr ⟨m_595, by decide +kernel⟩
theorem m_596 : (Cond.fieldLink "LoadChecksModel" (126 : Nat) "LoadChecksModel" "day" "I") ∈ lw_tbl := List.mem_of_getElem? (i := 596) (by decide +kernel)
theorem w_596 : (Cond.fieldLink "LoadChecksModel" (126 : Nat) "LoadChecksModel" "day" "I") ∈ xT := List.mem_filter.mpr ⟨m_596, by decide +kernel⟩
theorem m_597 : (Cond.fieldLink "LoadChecksModel" (129 : Nat) "LoadChecksModel" "shift" "I") ∈ lw_tbl := List.mem_of_getElem? (i := 597) (by decide +kernel)
theorem w_597 : (Cond.fieldLink "LoadChecksModel" (129 : Nat) "LoadChecksModel" "shift" "I") ∈ xT := List.mem_filter.mpr ⟨m_597, by decide +kernel⟩
theorem m_598 : (Cond.fieldLink "LoadChecksModel" (7 : Nat) "LoadChecksModel" "weight" "[I") ∈ lw_tbl := List.mem_of_getElem? (i := 598) (by decide +kernel)
theorem w_598 : (Cond.fieldLink "LoadChecksModel" (7 : Nat) "LoadChecksModel" "weight" "[I") ∈ xT := List.mem_filter.mpr ⟨m_598, by decide +kernel⟩
theorem m_599 : (Cond.fieldLink "LoadChecksModel" (13 : Nat) "LoadChecksModel" "least" "[I") ∈ lw_tbl := List.mem_of_getElem? (i := 599) (by decide +kernel)
theorem w_599 : (Cond.fieldLink "LoadChecksModel" (13 : Nat) "LoadChecksModel" "least" "[I") ∈ xT := List.mem_filter.mpr ⟨m_599, by decide +kernel⟩
theorem m_600 : (Cond.fieldLink "LoadChecksModel" (16 : Nat) "LoadChecksModel" "stock" "[I") ∈ lw_tbl := List.mem_of_getElem? (i := 600) (by decide +kernel)
theorem w_600 : (Cond.fieldLink "LoadChecksModel" (16 : Nat) "LoadChecksModel" "stock" "[I") ∈ xT := List.mem_filter.mpr ⟨m_600, by decide +kernel⟩
theorem m_601 : (Cond.fieldLink "LoadChecksModel" (60 : Nat) "LoadChecksModel" "vehicles" "I") ∈ lw_tbl := List.mem_of_getElem? (i := 601) (by decide +kernel)
theorem w_601 : (Cond.fieldLink "LoadChecksModel" (60 : Nat) "LoadChecksModel" "vehicles" "I") ∈ xT := List.mem_filter.mpr ⟨m_601, by decide +kernel⟩
theorem m_602 : (Cond.fieldLink "LoadChecksModel" (19 : Nat) "LoadChecksModel" "kind" "[I") ∈ lw_tbl := List.mem_of_getElem? (i := 602) (by decide +kernel)
theorem w_602 : (Cond.fieldLink "LoadChecksModel" (19 : Nat) "LoadChecksModel" "kind" "[I") ∈ xT := List.mem_filter.mpr ⟨m_602, by decide +kernel⟩
theorem m_603 : (Cond.fieldLink "LoadChecksModel" (22 : Nat) "LoadChecksModel" "base" "[I") ∈ lw_tbl := List.mem_of_getElem? (i := 603) (by decide +kernel)
theorem w_603 : (Cond.fieldLink "LoadChecksModel" (22 : Nat) "LoadChecksModel" "base" "[I") ∈ xT := List.mem_filter.mpr ⟨m_603, by decide +kernel⟩
theorem m_604 : (Cond.fieldLink "LoadChecksModel" (25 : Nat) "LoadChecksModel" "front" "[I") ∈ lw_tbl := List.mem_of_getElem? (i := 604) (by decide +kernel)
theorem w_604 : (Cond.fieldLink "LoadChecksModel" (25 : Nat) "LoadChecksModel" "front" "[I") ∈ xT := List.mem_filter.mpr ⟨m_604, by decide +kernel⟩
theorem m_605 : (Cond.fieldLink "LoadChecksModel" (28 : Nat) "LoadChecksModel" "rear" "[I") ∈ lw_tbl := List.mem_of_getElem? (i := 605) (by decide +kernel)
theorem w_605 : (Cond.fieldLink "LoadChecksModel" (28 : Nat) "LoadChecksModel" "rear" "[I") ∈ xT := List.mem_filter.mpr ⟨m_605, by decide +kernel⟩
theorem m_606 : (Cond.fieldLink "LoadChecksModel" (31 : Nat) "LoadChecksModel" "checked" "[I") ∈ lw_tbl := List.mem_of_getElem? (i := 606) (by decide +kernel)
theorem w_606 : (Cond.fieldLink "LoadChecksModel" (31 : Nat) "LoadChecksModel" "checked" "[I") ∈ xT := List.mem_filter.mpr ⟨m_606, by decide +kernel⟩
theorem m_607 : (Cond.fieldLink "LoadChecksModel" (34 : Nat) "LoadChecksModel" "places" "[I") ∈ lw_tbl := List.mem_of_getElem? (i := 607) (by decide +kernel)
theorem w_607 : (Cond.fieldLink "LoadChecksModel" (34 : Nat) "LoadChecksModel" "places" "[I") ∈ xT := List.mem_filter.mpr ⟨m_607, by decide +kernel⟩
theorem m_608 : (Cond.fieldLink "LoadChecksModel" (37 : Nat) "LoadChecksModel" "broken" "[Z") ∈ lw_tbl := List.mem_of_getElem? (i := 608) (by decide +kernel)
theorem w_608 : (Cond.fieldLink "LoadChecksModel" (37 : Nat) "LoadChecksModel" "broken" "[Z") ∈ xT := List.mem_filter.mpr ⟨m_608, by decide +kernel⟩
theorem m_609 : (Cond.fieldLink "LoadChecksModel" (41 : Nat) "LoadChecksModel" "end" "[I") ∈ lw_tbl := List.mem_of_getElem? (i := 609) (by decide +kernel)
theorem w_609 : (Cond.fieldLink "LoadChecksModel" (41 : Nat) "LoadChecksModel" "end" "[I") ∈ xT := List.mem_filter.mpr ⟨m_609, by decide +kernel⟩
theorem m_610 : (Cond.fieldLink "LoadChecksModel" (44 : Nat) "LoadChecksModel" "battery" "[I") ∈ lw_tbl := List.mem_of_getElem? (i := 610) (by decide +kernel)
theorem w_610 : (Cond.fieldLink "LoadChecksModel" (44 : Nat) "LoadChecksModel" "battery" "[I") ∈ xT := List.mem_filter.mpr ⟨m_610, by decide +kernel⟩
theorem m_611 : (Cond.fieldLink "LoadChecksModel" (47 : Nat) "LoadChecksModel" "count" "[I") ∈ lw_tbl := List.mem_of_getElem? (i := 611) (by decide +kernel)
theorem w_611 : (Cond.fieldLink "LoadChecksModel" (47 : Nat) "LoadChecksModel" "count" "[I") ∈ xT := List.mem_filter.mpr ⟨m_611, by decide +kernel⟩
theorem m_612 : (Cond.fieldLink "LoadChecksModel" (50 : Nat) "LoadChecksModel" "needs" "[I") ∈ lw_tbl := List.mem_of_getElem? (i := 612) (by decide +kernel)
theorem w_612 : (Cond.fieldLink "LoadChecksModel" (50 : Nat) "LoadChecksModel" "needs" "[I") ∈ xT := List.mem_filter.mpr ⟨m_612, by decide +kernel⟩
theorem m_613 : (Cond.fieldLink "LoadChecksModel" (119 : Nat) "LoadChecksModel" "rows" "I") ∈ lw_tbl := List.mem_of_getElem? (i := 613) (by decide +kernel)
theorem w_613 : (Cond.fieldLink "LoadChecksModel" (119 : Nat) "LoadChecksModel" "rows" "I") ∈ xT := List.mem_filter.mpr ⟨m_613, by decide +kernel⟩
theorem m_614 : (Cond.fieldLink "LoadChecksModel" (53 : Nat) "LoadChecksModel" "told" "[I") ∈ lw_tbl := List.mem_of_getElem? (i := 614) (by decide +kernel)
theorem w_614 : (Cond.fieldLink "LoadChecksModel" (53 : Nat) "LoadChecksModel" "told" "[I") ∈ xT := List.mem_filter.mpr ⟨m_614, by decide +kernel⟩
theorem m_664 : (Cond.methodLink "LoadChecksModel" (63 : Nat) ({ cls := "LoadChecksModel", name := "in", desc := "(III)Z" } : MethodName)) ∈ lw_tbl := List.mem_of_getElem? (i := 664) (by decide +kernel)
theorem w_664 : (Cond.methodLink "LoadChecksModel" (63 : Nat) ({ cls := "LoadChecksModel", name := "in", desc := "(III)Z" } : MethodName)) ∈ xT := List.mem_filter.mpr ⟨m_664, by decide +kernel⟩
theorem m_665 : (Cond.static ({ cls := "LoadChecksModel", name := "in", desc := "(III)Z" } : MethodName)) ∈ lw_tbl := List.mem_of_getElem? (i := 665) (by decide +kernel)
theorem w_665 : (Cond.static ({ cls := "LoadChecksModel", name := "in", desc := "(III)Z" } : MethodName)) ∈ xT := List.mem_filter.mpr ⟨m_665, by decide +kernel⟩
theorem m_666 : (Cond.code ({ cls := "LoadChecksModel", name := "in", desc := "(III)Z" } : MethodName) prog_5_method_4_code (3 : Nat) (Option.some FieldType.boolean)) ∈ lw_tbl := List.mem_of_getElem? (i := 666) (by decide +kernel)
theorem w_666 : (Cond.code ({ cls := "LoadChecksModel", name := "in", desc := "(III)Z" } : MethodName) prog_5_method_4_code (3 : Nat) (Option.some FieldType.boolean)) ∈ xT := List.mem_filter.mpr ⟨m_666, by decide +kernel⟩
theorem m_667 : (Cond.methodLink "LoadChecksModel" (78 : Nat) ({ cls := "LoadChecksModel", name := "isLimit", desc := "(I)Z" } : MethodName)) ∈ lw_tbl := List.mem_of_getElem? (i := 667) (by decide +kernel)
theorem w_667 : (Cond.methodLink "LoadChecksModel" (78 : Nat) ({ cls := "LoadChecksModel", name := "isLimit", desc := "(I)Z" } : MethodName)) ∈ xT := List.mem_filter.mpr ⟨m_667, by decide +kernel⟩
theorem m_668 : (Cond.static ({ cls := "LoadChecksModel", name := "isLimit", desc := "(I)Z" } : MethodName)) ∈ lw_tbl := List.mem_of_getElem? (i := 668) (by decide +kernel)
theorem w_668 : (Cond.static ({ cls := "LoadChecksModel", name := "isLimit", desc := "(I)Z" } : MethodName)) ∈ xT := List.mem_filter.mpr ⟨m_668, by decide +kernel⟩
theorem m_669 : (Cond.code ({ cls := "LoadChecksModel", name := "isLimit", desc := "(I)Z" } : MethodName) prog_5_method_9_code (1 : Nat) (Option.some FieldType.boolean)) ∈ lw_tbl := List.mem_of_getElem? (i := 669) (by decide +kernel)
theorem w_669 : (Cond.code ({ cls := "LoadChecksModel", name := "isLimit", desc := "(I)Z" } : MethodName) prog_5_method_9_code (1 : Nat) (Option.some FieldType.boolean)) ∈ xT := List.mem_filter.mpr ⟨m_669, by decide +kernel⟩
theorem m_670 : (Cond.constant "LoadChecksModel" (77 : Nat) (20000000 : Int32)) ∈ lw_tbl := List.mem_of_getElem? (i := 670) (by decide +kernel)
theorem w_670 : (Cond.constant "LoadChecksModel" (77 : Nat) (20000000 : Int32)) ∈ xT := List.mem_filter.mpr ⟨m_670, by decide +kernel⟩
theorem m_671 : (Cond.methodLink "LoadChecksModel" (81 : Nat) ({ cls := "LoadChecksModel", name := "throwing", desc := "(ZZZZ)Z" } : MethodName)) ∈ lw_tbl := List.mem_of_getElem? (i := 671) (by decide +kernel)
theorem w_671 : (Cond.methodLink "LoadChecksModel" (81 : Nat) ({ cls := "LoadChecksModel", name := "throwing", desc := "(ZZZZ)Z" } : MethodName)) ∈ xT := List.mem_filter.mpr ⟨m_671, by decide +kernel⟩
theorem m_673 : (Cond.instanceMethod ({ cls := "LoadChecksModel", name := "throwing", desc := "(ZZZZ)Z" } : MethodName)) ∈ lw_tbl := List.mem_of_getElem? (i := 673) (by decide +kernel)
theorem w_673 : (Cond.instanceMethod ({ cls := "LoadChecksModel", name := "throwing", desc := "(ZZZZ)Z" } : MethodName)) ∈ xT := List.mem_filter.mpr ⟨m_673, by decide +kernel⟩
theorem m_674 : (Cond.code ({ cls := "LoadChecksModel", name := "throwing", desc := "(ZZZZ)Z" } : MethodName) prog_5_method_3_code (5 : Nat) (Option.some FieldType.boolean)) ∈ lw_tbl := List.mem_of_getElem? (i := 674) (by decide +kernel)
theorem w_674 : (Cond.code ({ cls := "LoadChecksModel", name := "throwing", desc := "(ZZZZ)Z" } : MethodName) prog_5_method_3_code (5 : Nat) (Option.some FieldType.boolean)) ∈ xT := List.mem_filter.mpr ⟨m_674, by decide +kernel⟩
theorem m_679 : (Cond.methodLink "LoadChecksModel" (67 : Nat) ({ cls := "LoadChecksModel", name := "isVehicle", desc := "(I)Z" } : MethodName)) ∈ lw_tbl := List.mem_of_getElem? (i := 679) (by decide +kernel)
theorem w_679 : (Cond.methodLink "LoadChecksModel" (67 : Nat) ({ cls := "LoadChecksModel", name := "isVehicle", desc := "(I)Z" } : MethodName)) ∈ xT := List.mem_filter.mpr ⟨m_679, by decide +kernel⟩
theorem m_681 : (Cond.instanceMethod ({ cls := "LoadChecksModel", name := "isVehicle", desc := "(I)Z" } : MethodName)) ∈ lw_tbl := List.mem_of_getElem? (i := 681) (by decide +kernel)
theorem w_681 : (Cond.instanceMethod ({ cls := "LoadChecksModel", name := "isVehicle", desc := "(I)Z" } : MethodName)) ∈ xT := List.mem_filter.mpr ⟨m_681, by decide +kernel⟩
theorem m_682 : (Cond.code ({ cls := "LoadChecksModel", name := "isVehicle", desc := "(I)Z" } : MethodName) prog_5_method_5_code (2 : Nat) (Option.some FieldType.boolean)) ∈ lw_tbl := List.mem_of_getElem? (i := 682) (by decide +kernel)
theorem w_682 : (Cond.code ({ cls := "LoadChecksModel", name := "isVehicle", desc := "(I)Z" } : MethodName) prog_5_method_5_code (2 : Nat) (Option.some FieldType.boolean)) ∈ xT := List.mem_filter.mpr ⟨m_682, by decide +kernel⟩
theorem m_687 : (Cond.methodLink "LoadChecksModel" (71 : Nat) ({ cls := "LoadChecksModel", name := "isCupboard", desc := "(I)Z" } : MethodName)) ∈ lw_tbl := List.mem_of_getElem? (i := 687) (by decide +kernel)
theorem w_687 : (Cond.methodLink "LoadChecksModel" (71 : Nat) ({ cls := "LoadChecksModel", name := "isCupboard", desc := "(I)Z" } : MethodName)) ∈ xT := List.mem_filter.mpr ⟨m_687, by decide +kernel⟩
theorem m_688 : (Cond.static ({ cls := "LoadChecksModel", name := "isCupboard", desc := "(I)Z" } : MethodName)) ∈ lw_tbl := List.mem_of_getElem? (i := 688) (by decide +kernel)
theorem w_688 : (Cond.static ({ cls := "LoadChecksModel", name := "isCupboard", desc := "(I)Z" } : MethodName)) ∈ xT := List.mem_filter.mpr ⟨m_688, by decide +kernel⟩
theorem m_689 : (Cond.code ({ cls := "LoadChecksModel", name := "isCupboard", desc := "(I)Z" } : MethodName) prog_5_method_6_code (1 : Nat) (Option.some FieldType.boolean)) ∈ lw_tbl := List.mem_of_getElem? (i := 689) (by decide +kernel)
theorem w_689 : (Cond.code ({ cls := "LoadChecksModel", name := "isCupboard", desc := "(I)Z" } : MethodName) prog_5_method_6_code (1 : Nat) (Option.some FieldType.boolean)) ∈ xT := List.mem_filter.mpr ⟨m_689, by decide +kernel⟩
theorem m_690 : (Cond.methodLink "LoadChecksModel" (85 : Nat) ({ cls := "LoadChecksModel", name := "isEmpty", desc := "(II)Z" } : MethodName)) ∈ lw_tbl := List.mem_of_getElem? (i := 690) (by decide +kernel)
theorem w_690 : (Cond.methodLink "LoadChecksModel" (85 : Nat) ({ cls := "LoadChecksModel", name := "isEmpty", desc := "(II)Z" } : MethodName)) ∈ xT := List.mem_filter.mpr ⟨m_690, by decide +kernel⟩
theorem m_692 : (Cond.instanceMethod ({ cls := "LoadChecksModel", name := "isEmpty", desc := "(II)Z" } : MethodName)) ∈ lw_tbl := List.mem_of_getElem? (i := 692) (by decide +kernel)
theorem w_692 : (Cond.instanceMethod ({ cls := "LoadChecksModel", name := "isEmpty", desc := "(II)Z" } : MethodName)) ∈ xT := List.mem_filter.mpr ⟨m_692, by decide +kernel⟩
theorem m_693 : (Cond.code ({ cls := "LoadChecksModel", name := "isEmpty", desc := "(II)Z" } : MethodName) prog_5_method_12_code (5 : Nat) (Option.some FieldType.boolean)) ∈ lw_tbl := List.mem_of_getElem? (i := 693) (by decide +kernel)
theorem w_693 : (Cond.code ({ cls := "LoadChecksModel", name := "isEmpty", desc := "(II)Z" } : MethodName) prog_5_method_12_code (5 : Nat) (Option.some FieldType.boolean)) ∈ xT := List.mem_filter.mpr ⟨m_693, by decide +kernel⟩
theorem m_698 : (Cond.methodLink "LoadChecksModel" (74 : Nat) ({ cls := "LoadChecksModel", name := "isItem", desc := "(I)Z" } : MethodName)) ∈ lw_tbl := List.mem_of_getElem? (i := 698) (by decide +kernel)
theorem w_698 : (Cond.methodLink "LoadChecksModel" (74 : Nat) ({ cls := "LoadChecksModel", name := "isItem", desc := "(I)Z" } : MethodName)) ∈ xT := List.mem_filter.mpr ⟨m_698, by decide +kernel⟩
theorem m_699 : (Cond.static ({ cls := "LoadChecksModel", name := "isItem", desc := "(I)Z" } : MethodName)) ∈ lw_tbl := List.mem_of_getElem? (i := 699) (by decide +kernel)
theorem w_699 : (Cond.static ({ cls := "LoadChecksModel", name := "isItem", desc := "(I)Z" } : MethodName)) ∈ xT := List.mem_filter.mpr ⟨m_699, by decide +kernel⟩
theorem m_700 : (Cond.code ({ cls := "LoadChecksModel", name := "isItem", desc := "(I)Z" } : MethodName) prog_5_method_7_code (1 : Nat) (Option.some FieldType.boolean)) ∈ lw_tbl := List.mem_of_getElem? (i := 700) (by decide +kernel)
theorem w_700 : (Cond.code ({ cls := "LoadChecksModel", name := "isItem", desc := "(I)Z" } : MethodName) prog_5_method_7_code (1 : Nat) (Option.some FieldType.boolean)) ∈ xT := List.mem_filter.mpr ⟨m_700, by decide +kernel⟩
theorem m_701 : (Cond.constant "LoadChecksModel" (89 : Nat) (500000 : Int32)) ∈ lw_tbl := List.mem_of_getElem? (i := 701) (by decide +kernel)
theorem w_701 : (Cond.constant "LoadChecksModel" (89 : Nat) (500000 : Int32)) ∈ xT := List.mem_filter.mpr ⟨m_701, by decide +kernel⟩
theorem m_702 : (Cond.methodLink "LoadChecksModel" (90 : Nat) ({ cls := "LoadChecksModel", name := "isSomewhere", desc := "(I)Z" } : MethodName)) ∈ lw_tbl := List.mem_of_getElem? (i := 702) (by decide +kernel)
theorem w_702 : (Cond.methodLink "LoadChecksModel" (90 : Nat) ({ cls := "LoadChecksModel", name := "isSomewhere", desc := "(I)Z" } : MethodName)) ∈ xT := List.mem_filter.mpr ⟨m_702, by decide +kernel⟩
theorem m_704 : (Cond.instanceMethod ({ cls := "LoadChecksModel", name := "isSomewhere", desc := "(I)Z" } : MethodName)) ∈ lw_tbl := List.mem_of_getElem? (i := 704) (by decide +kernel)
theorem w_704 : (Cond.instanceMethod ({ cls := "LoadChecksModel", name := "isSomewhere", desc := "(I)Z" } : MethodName)) ∈ xT := List.mem_filter.mpr ⟨m_704, by decide +kernel⟩
theorem m_705 : (Cond.code ({ cls := "LoadChecksModel", name := "isSomewhere", desc := "(I)Z" } : MethodName) prog_5_method_14_code (4 : Nat) (Option.some FieldType.boolean)) ∈ lw_tbl := List.mem_of_getElem? (i := 705) (by decide +kernel)
theorem w_705 : (Cond.code ({ cls := "LoadChecksModel", name := "isSomewhere", desc := "(I)Z" } : MethodName) prog_5_method_14_code (4 : Nat) (Option.some FieldType.boolean)) ∈ xT := List.mem_filter.mpr ⟨m_705, by decide +kernel⟩
theorem m_718 : (Cond.methodLink "LoadChecksModel" (108 : Nat) ({ cls := "LoadChecksModel", name := "isThing", desc := "(III)Z" } : MethodName)) ∈ lw_tbl := List.mem_of_getElem? (i := 718) (by decide +kernel)
theorem w_718 : (Cond.methodLink "LoadChecksModel" (108 : Nat) ({ cls := "LoadChecksModel", name := "isThing", desc := "(III)Z" } : MethodName)) ∈ xT := List.mem_filter.mpr ⟨m_718, by decide +kernel⟩
theorem m_720 : (Cond.instanceMethod ({ cls := "LoadChecksModel", name := "isThing", desc := "(III)Z" } : MethodName)) ∈ lw_tbl := List.mem_of_getElem? (i := 720) (by decide +kernel)
theorem w_720 : (Cond.instanceMethod ({ cls := "LoadChecksModel", name := "isThing", desc := "(III)Z" } : MethodName)) ∈ xT := List.mem_filter.mpr ⟨m_720, by decide +kernel⟩
theorem m_721 : (Cond.code ({ cls := "LoadChecksModel", name := "isThing", desc := "(III)Z" } : MethodName) prog_5_method_8_code (4 : Nat) (Option.some FieldType.boolean)) ∈ lw_tbl := List.mem_of_getElem? (i := 721) (by decide +kernel)
theorem w_721 : (Cond.code ({ cls := "LoadChecksModel", name := "isThing", desc := "(III)Z" } : MethodName) prog_5_method_8_code (4 : Nat) (Option.some FieldType.boolean)) ∈ xT := List.mem_filter.mpr ⟨m_721, by decide +kernel⟩
theorem m_722 : (Cond.methodLink "LoadChecksModel" (111 : Nat) ({ cls := "LoadChecksModel", name := "isTooMuch", desc := "(IIII)Z" } : MethodName)) ∈ lw_tbl := List.mem_of_getElem? (i := 722) (by decide +kernel)
theorem w_722 : (Cond.methodLink "LoadChecksModel" (111 : Nat) ({ cls := "LoadChecksModel", name := "isTooMuch", desc := "(IIII)Z" } : MethodName)) ∈ xT := List.mem_filter.mpr ⟨m_722, by decide +kernel⟩
theorem m_724 : (Cond.instanceMethod ({ cls := "LoadChecksModel", name := "isTooMuch", desc := "(IIII)Z" } : MethodName)) ∈ lw_tbl := List.mem_of_getElem? (i := 724) (by decide +kernel)
theorem w_724 : (Cond.instanceMethod ({ cls := "LoadChecksModel", name := "isTooMuch", desc := "(IIII)Z" } : MethodName)) ∈ xT := List.mem_filter.mpr ⟨m_724, by decide +kernel⟩
theorem m_725 : (Cond.code ({ cls := "LoadChecksModel", name := "isTooMuch", desc := "(IIII)Z" } : MethodName) prog_5_method_22_code (10 : Nat) (Option.some FieldType.boolean)) ∈ lw_tbl := List.mem_of_getElem? (i := 725) (by decide +kernel)
theorem w_725 : (Cond.code ({ cls := "LoadChecksModel", name := "isTooMuch", desc := "(IIII)Z" } : MethodName) prog_5_method_22_code (10 : Nat) (Option.some FieldType.boolean)) ∈ xT := List.mem_filter.mpr ⟨m_725, by decide +kernel⟩
theorem m_726 : (Cond.methodLink "LoadChecksModel" (100 : Nat) ({ cls := "LoadChecksModel", name := "bears", desc := "(IZ)J" } : MethodName)) ∈ lw_tbl := List.mem_of_getElem? (i := 726) (by decide +kernel)
theorem w_726 : (Cond.methodLink "LoadChecksModel" (100 : Nat) ({ cls := "LoadChecksModel", name := "bears", desc := "(IZ)J" } : MethodName)) ∈ xT := List.mem_filter.mpr ⟨m_726, by decide +kernel⟩
theorem m_728 : (Cond.instanceMethod ({ cls := "LoadChecksModel", name := "bears", desc := "(IZ)J" } : MethodName)) ∈ lw_tbl := List.mem_of_getElem? (i := 728) (by decide +kernel)
theorem w_728 : (Cond.instanceMethod ({ cls := "LoadChecksModel", name := "bears", desc := "(IZ)J" } : MethodName)) ∈ xT := List.mem_filter.mpr ⟨m_728, by decide +kernel⟩
theorem m_729 : (Cond.code ({ cls := "LoadChecksModel", name := "bears", desc := "(IZ)J" } : MethodName) prog_5_method_20_code (3 : Nat) (Option.some FieldType.long)) ∈ lw_tbl := List.mem_of_getElem? (i := 729) (by decide +kernel)
theorem w_729 : (Cond.code ({ cls := "LoadChecksModel", name := "bears", desc := "(IZ)J" } : MethodName) prog_5_method_20_code (3 : Nat) (Option.some FieldType.long)) ∈ xT := List.mem_filter.mpr ⟨m_729, by decide +kernel⟩
theorem m_730 : (Cond.methodLink "LoadChecksModel" (93 : Nat) ({ cls := "LoadChecksModel", name := "momentOf", desc := "(I)J" } : MethodName)) ∈ lw_tbl := List.mem_of_getElem? (i := 730) (by decide +kernel)
theorem w_730 : (Cond.methodLink "LoadChecksModel" (93 : Nat) ({ cls := "LoadChecksModel", name := "momentOf", desc := "(I)J" } : MethodName)) ∈ xT := List.mem_filter.mpr ⟨m_730, by decide +kernel⟩
theorem m_732 : (Cond.instanceMethod ({ cls := "LoadChecksModel", name := "momentOf", desc := "(I)J" } : MethodName)) ∈ lw_tbl := List.mem_of_getElem? (i := 732) (by decide +kernel)
theorem w_732 : (Cond.instanceMethod ({ cls := "LoadChecksModel", name := "momentOf", desc := "(I)J" } : MethodName)) ∈ xT := List.mem_filter.mpr ⟨m_732, by decide +kernel⟩
theorem m_733 : (Cond.code ({ cls := "LoadChecksModel", name := "momentOf", desc := "(I)J" } : MethodName) prog_5_method_19_code (5 : Nat) (Option.some FieldType.long)) ∈ lw_tbl := List.mem_of_getElem? (i := 733) (by decide +kernel)
theorem w_733 : (Cond.code ({ cls := "LoadChecksModel", name := "momentOf", desc := "(I)J" } : MethodName) prog_5_method_19_code (5 : Nat) (Option.some FieldType.long)) ∈ xT := List.mem_filter.mpr ⟨m_733, by decide +kernel⟩
theorem m_734 : (Cond.methodLink "LoadChecksModel" (97 : Nat) ({ cls := "LoadChecksModel", name := "sumOf", desc := "(I)J" } : MethodName)) ∈ lw_tbl := List.mem_of_getElem? (i := 734) (by decide +kernel)
theorem w_734 : (Cond.methodLink "LoadChecksModel" (97 : Nat) ({ cls := "LoadChecksModel", name := "sumOf", desc := "(I)J" } : MethodName)) ∈ xT := List.mem_filter.mpr ⟨m_734, by decide +kernel⟩
theorem m_736 : (Cond.instanceMethod ({ cls := "LoadChecksModel", name := "sumOf", desc := "(I)J" } : MethodName)) ∈ lw_tbl := List.mem_of_getElem? (i := 736) (by decide +kernel)
theorem w_736 : (Cond.instanceMethod ({ cls := "LoadChecksModel", name := "sumOf", desc := "(I)J" } : MethodName)) ∈ xT := List.mem_filter.mpr ⟨m_736, by decide +kernel⟩
theorem m_737 : (Cond.code ({ cls := "LoadChecksModel", name := "sumOf", desc := "(I)J" } : MethodName) prog_5_method_18_code (5 : Nat) (Option.some FieldType.long)) ∈ lw_tbl := List.mem_of_getElem? (i := 737) (by decide +kernel)
theorem w_737 : (Cond.code ({ cls := "LoadChecksModel", name := "sumOf", desc := "(I)J" } : MethodName) prog_5_method_18_code (5 : Nat) (Option.some FieldType.long)) ∈ xT := List.mem_filter.mpr ⟨m_737, by decide +kernel⟩
theorem m_738 : (Cond.methodLink "LoadChecksModel" (104 : Nat) ({ cls := "LoadChecksModel", name := "isBeyond", desc := "(IZ)Z" } : MethodName)) ∈ lw_tbl := List.mem_of_getElem? (i := 738) (by decide +kernel)
theorem w_738 : (Cond.methodLink "LoadChecksModel" (104 : Nat) ({ cls := "LoadChecksModel", name := "isBeyond", desc := "(IZ)Z" } : MethodName)) ∈ xT := List.mem_filter.mpr ⟨m_738, by decide +kernel⟩
theorem m_740 : (Cond.instanceMethod ({ cls := "LoadChecksModel", name := "isBeyond", desc := "(IZ)Z" } : MethodName)) ∈ lw_tbl := List.mem_of_getElem? (i := 740) (by decide +kernel)
theorem w_740 : (Cond.instanceMethod ({ cls := "LoadChecksModel", name := "isBeyond", desc := "(IZ)Z" } : MethodName)) ∈ xT := List.mem_filter.mpr ⟨m_740, by decide +kernel⟩
theorem m_741 : (Cond.code ({ cls := "LoadChecksModel", name := "isBeyond", desc := "(IZ)Z" } : MethodName) prog_5_method_21_code (3 : Nat) (Option.some FieldType.boolean)) ∈ lw_tbl := List.mem_of_getElem? (i := 741) (by decide +kernel)
theorem w_741 : (Cond.code ({ cls := "LoadChecksModel", name := "isBeyond", desc := "(IZ)Z" } : MethodName) prog_5_method_21_code (3 : Nat) (Option.some FieldType.boolean)) ∈ xT := List.mem_filter.mpr ⟨m_741, by decide +kernel⟩
theorem m_750 : (Cond.methodLink "LoadChecksModel" (115 : Nat) ({ cls := "LoadChecksModel", name := "missingOf", desc := "(II)I" } : MethodName)) ∈ lw_tbl := List.mem_of_getElem? (i := 750) (by decide +kernel)
theorem w_750 : (Cond.methodLink "LoadChecksModel" (115 : Nat) ({ cls := "LoadChecksModel", name := "missingOf", desc := "(II)I" } : MethodName)) ∈ xT := List.mem_filter.mpr ⟨m_750, by decide +kernel⟩
theorem m_752 : (Cond.instanceMethod ({ cls := "LoadChecksModel", name := "missingOf", desc := "(II)I" } : MethodName)) ∈ lw_tbl := List.mem_of_getElem? (i := 752) (by decide +kernel)
theorem w_752 : (Cond.instanceMethod ({ cls := "LoadChecksModel", name := "missingOf", desc := "(II)I" } : MethodName)) ∈ xT := List.mem_filter.mpr ⟨m_752, by decide +kernel⟩
theorem m_753 : (Cond.code ({ cls := "LoadChecksModel", name := "missingOf", desc := "(II)I" } : MethodName) prog_5_method_25_code (4 : Nat) (Option.some FieldType.int)) ∈ lw_tbl := List.mem_of_getElem? (i := 753) (by decide +kernel)
theorem w_753 : (Cond.code ({ cls := "LoadChecksModel", name := "missingOf", desc := "(II)I" } : MethodName) prog_5_method_25_code (4 : Nat) (Option.some FieldType.int)) ∈ xT := List.mem_filter.mpr ⟨m_753, by decide +kernel⟩
theorem m_758 : (Cond.methodLink "LoadChecksModel" (122 : Nat) ({ cls := "LoadChecksModel", name := "tell", desc := "(III)V" } : MethodName)) ∈ lw_tbl := List.mem_of_getElem? (i := 758) (by decide +kernel)
theorem w_758 : (Cond.methodLink "LoadChecksModel" (122 : Nat) ({ cls := "LoadChecksModel", name := "tell", desc := "(III)V" } : MethodName)) ∈ xT := List.mem_filter.mpr ⟨m_758, by decide +kernel⟩
theorem m_760 : (Cond.instanceMethod ({ cls := "LoadChecksModel", name := "tell", desc := "(III)V" } : MethodName)) ∈ lw_tbl := List.mem_of_getElem? (i := 760) (by decide +kernel)
theorem w_760 : (Cond.instanceMethod ({ cls := "LoadChecksModel", name := "tell", desc := "(III)V" } : MethodName)) ∈ xT := List.mem_filter.mpr ⟨m_760, by decide +kernel⟩
theorem m_761 : (Cond.code ({ cls := "LoadChecksModel", name := "tell", desc := "(III)V" } : MethodName) prog_5_method_27_code (5 : Nat) (Option.none : Option FieldType)) ∈ lw_tbl := List.mem_of_getElem? (i := 761) (by decide +kernel)
theorem w_761 : (Cond.code ({ cls := "LoadChecksModel", name := "tell", desc := "(III)V" } : MethodName) prog_5_method_27_code (5 : Nat) (Option.none : Option FieldType)) ∈ xT := List.mem_filter.mpr ⟨m_761, by decide +kernel⟩
theorem m_786 : (Cond.methodLink "LoadChecksModel" (132 : Nat) ({ cls := "LoadChecksModel", name := "isNeeded", desc := "(II)Z" } : MethodName)) ∈ lw_tbl := List.mem_of_getElem? (i := 786) (by decide +kernel)
theorem w_786 : (Cond.methodLink "LoadChecksModel" (132 : Nat) ({ cls := "LoadChecksModel", name := "isNeeded", desc := "(II)Z" } : MethodName)) ∈ xT := List.mem_filter.mpr ⟨m_786, by decide +kernel⟩
theorem m_788 : (Cond.instanceMethod ({ cls := "LoadChecksModel", name := "isNeeded", desc := "(II)Z" } : MethodName)) ∈ lw_tbl := List.mem_of_getElem? (i := 788) (by decide +kernel)
theorem w_788 : (Cond.instanceMethod ({ cls := "LoadChecksModel", name := "isNeeded", desc := "(II)Z" } : MethodName)) ∈ xT := List.mem_filter.mpr ⟨m_788, by decide +kernel⟩
theorem m_789 : (Cond.code ({ cls := "LoadChecksModel", name := "isNeeded", desc := "(II)Z" } : MethodName) prog_5_method_34_code (5 : Nat) (Option.some FieldType.boolean)) ∈ lw_tbl := List.mem_of_getElem? (i := 789) (by decide +kernel)
theorem w_789 : (Cond.code ({ cls := "LoadChecksModel", name := "isNeeded", desc := "(II)Z" } : MethodName) prog_5_method_34_code (5 : Nat) (Option.some FieldType.boolean)) ∈ xT := List.mem_filter.mpr ⟨m_789, by decide +kernel⟩
