theorem m_4 : Cond.selects "LoadChecks$Vehicle" ⟨"LoadChecks$Vehicle", "carries", "(I)Z"⟩ ⟨"LoadChecks$Vehicle", "carries", "(I)Z"⟩ ∈ lw_tbl := List.mem_of_getElem? (i := 4) (by decide +kernel)
theorem w_4 : Cond.selects "LoadChecks$Vehicle" ⟨"LoadChecks$Vehicle", "carries", "(I)Z"⟩ ⟨"LoadChecks$Vehicle", "carries", "(I)Z"⟩ ∈ xT := List.mem_filter.mpr ⟨m_4, by decide +kernel⟩
theorem m_6 : Cond.selects "LoadChecks$Vehicle" ⟨"LoadChecks$Vehicle", "bears", "(III)Z"⟩ ⟨"LoadChecks$Vehicle", "bears", "(III)Z"⟩ ∈ lw_tbl := List.mem_of_getElem? (i := 6) (by decide +kernel)
theorem w_6 : Cond.selects "LoadChecks$Vehicle" ⟨"LoadChecks$Vehicle", "bears", "(III)Z"⟩ ⟨"LoadChecks$Vehicle", "bears", "(III)Z"⟩ ∈ xT := List.mem_filter.mpr ⟨m_6, by decide +kernel⟩
theorem m_7 : Cond.selects "LoadChecks$Vehicle" ⟨"LoadChecks$Vehicle", "frontMoment", "()J"⟩ ⟨"LoadChecks$Vehicle", "frontMoment", "()J"⟩ ∈ lw_tbl := List.mem_of_getElem? (i := 7) (by decide +kernel)
theorem w_7 : Cond.selects "LoadChecks$Vehicle" ⟨"LoadChecks$Vehicle", "frontMoment", "()J"⟩ ⟨"LoadChecks$Vehicle", "frontMoment", "()J"⟩ ∈ xT := List.mem_filter.mpr ⟨m_7, by decide +kernel⟩
theorem m_8 : Cond.selects "LoadChecks$Vehicle" ⟨"LoadChecks$Vehicle", "exceeds", "(JI)Z"⟩ ⟨"LoadChecks$Vehicle", "exceeds", "(JI)Z"⟩ ∈ lw_tbl := List.mem_of_getElem? (i := 8) (by decide +kernel)
theorem w_8 : Cond.selects "LoadChecks$Vehicle" ⟨"LoadChecks$Vehicle", "exceeds", "(JI)Z"⟩ ⟨"LoadChecks$Vehicle", "exceeds", "(JI)Z"⟩ ∈ xT := List.mem_filter.mpr ⟨m_8, by decide +kernel⟩
theorem m_9 : Cond.selects "LoadChecks$Vehicle" ⟨"LoadChecks$Vehicle", "rearMoment", "()J"⟩ ⟨"LoadChecks$Vehicle", "rearMoment", "()J"⟩ ∈ lw_tbl := List.mem_of_getElem? (i := 9) (by decide +kernel)
theorem w_9 : Cond.selects "LoadChecks$Vehicle" ⟨"LoadChecks$Vehicle", "rearMoment", "()J"⟩ ⟨"LoadChecks$Vehicle", "rearMoment", "()J"⟩ ∈ xT := List.mem_filter.mpr ⟨m_9, by decide +kernel⟩
theorem m_11 : Cond.selects "LoadChecks$Vehicle" ⟨"LoadChecks$Vehicle", "lackOf", "(II)I"⟩ ⟨"LoadChecks$Vehicle", "lackOf", "(II)I"⟩ ∈ lw_tbl := List.mem_of_getElem? (i := 11) (by decide +kernel)
theorem w_11 : Cond.selects "LoadChecks$Vehicle" ⟨"LoadChecks$Vehicle", "lackOf", "(II)I"⟩ ⟨"LoadChecks$Vehicle", "lackOf", "(II)I"⟩ ∈ xT := List.mem_filter.mpr ⟨m_11, by decide +kernel⟩
theorem m_34 : (Cond.initialized "LoadChecks") ∈ lw_tbl := List.mem_of_getElem? (i := 34) (by decide +kernel)
theorem w_34 : (Cond.initialized "LoadChecks") ∈ xT := List.mem_filter.mpr ⟨m_34, by decide +kernel⟩
theorem m_36 : (Cond.initialized "LoadChecks$Vehicle") ∈ lw_tbl := List.mem_of_getElem? (i := 36) (by decide +kernel)
theorem w_36 : (Cond.initialized "LoadChecks$Vehicle") ∈ xT := List.mem_filter.mpr ⟨m_36, by decide +kernel⟩
theorem m_42 : (Cond.initialized "java/lang/IllegalArgumentException") ∈ lw_tbl := List.mem_of_getElem? (i := 42) (by decide +kernel)
theorem w_42 : (Cond.initialized "java/lang/IllegalArgumentException") ∈ xT := List.mem_filter.mpr ⟨m_42, by decide +kernel⟩
theorem m_43 : (Cond.initialized "java/lang/IndexOutOfBoundsException") ∈ lw_tbl := List.mem_of_getElem? (i := 43) (by decide +kernel)
theorem w_43 : (Cond.initialized "java/lang/IndexOutOfBoundsException") ∈ xT := List.mem_filter.mpr ⟨m_43, by decide +kernel⟩
theorem m_44 : (Cond.initialized "java/lang/UnsupportedOperationException") ∈ lw_tbl := List.mem_of_getElem? (i := 44) (by decide +kernel)
theorem w_44 : (Cond.initialized "java/lang/UnsupportedOperationException") ∈ xT := List.mem_filter.mpr ⟨m_44, by decide +kernel⟩
theorem m_45 : (Cond.initialized "java/lang/IllegalStateException") ∈ lw_tbl := List.mem_of_getElem? (i := 45) (by decide +kernel)
theorem w_45 : (Cond.initialized "java/lang/IllegalStateException") ∈ xT := List.mem_filter.mpr ⟨m_45, by decide +kernel⟩
theorem m_46 : (Cond.initialized "java/lang/Math") ∈ lw_tbl := List.mem_of_getElem? (i := 46) (by decide +kernel)
theorem w_46 : (Cond.initialized "java/lang/Math") ∈ xT := List.mem_filter.mpr ⟨m_46, by decide +kernel⟩
theorem m_66 : (Cond.fieldLink "LoadChecks$Rows" (9 : Nat) "LoadChecks$Rows" "numbers" "[I") ∈ lw_tbl := List.mem_of_getElem? (i := 66) (by decide +kernel)
theorem w_66 : (Cond.fieldLink "LoadChecks$Rows" (9 : Nat) "LoadChecks$Rows" "numbers" "[I") ∈ xT := List.mem_filter.mpr ⟨m_66, by decide +kernel⟩
theorem m_67 : (Cond.fieldLink "LoadChecks$Rows" (13 : Nat) "LoadChecks$Rows" "made" "J") ∈ lw_tbl := List.mem_of_getElem? (i := 67) (by decide +kernel)
theorem w_67 : (Cond.fieldLink "LoadChecks$Rows" (13 : Nat) "LoadChecks$Rows" "made" "J") ∈ xT := List.mem_filter.mpr ⟨m_67, by decide +kernel⟩
theorem m_82 : (Cond.fieldLink "LoadChecks$Vehicle" (9 : Nat) "LoadChecks$Vehicle" "places" "[I") ∈ lw_tbl := List.mem_of_getElem? (i := 82) (by decide +kernel)
theorem w_82 : (Cond.fieldLink "LoadChecks$Vehicle" (9 : Nat) "LoadChecks$Vehicle" "places" "[I") ∈ xT := List.mem_filter.mpr ⟨m_82, by decide +kernel⟩
theorem m_84 : (Cond.fieldLink "LoadChecks$Vehicle" (15 : Nat) "LoadChecks$Vehicle" "brokenSeals" "[Z") ∈ lw_tbl := List.mem_of_getElem? (i := 84) (by decide +kernel)
theorem w_84 : (Cond.fieldLink "LoadChecks$Vehicle" (15 : Nat) "LoadChecks$Vehicle" "brokenSeals" "[Z") ∈ xT := List.mem_filter.mpr ⟨m_84, by decide +kernel⟩
theorem m_86 : (Cond.fieldLink "LoadChecks$Vehicle" (19 : Nat) "LoadChecks$Vehicle" "counts" "[I") ∈ lw_tbl := List.mem_of_getElem? (i := 86) (by decide +kernel)
theorem w_86 : (Cond.fieldLink "LoadChecks$Vehicle" (19 : Nat) "LoadChecks$Vehicle" "counts" "[I") ∈ xT := List.mem_filter.mpr ⟨m_86, by decide +kernel⟩
theorem m_87 : (Cond.fieldLinkNest "LoadChecks" (117 : Nat) "LoadChecks$Vehicle" "counts" "[I" "LoadChecks") ∈ lw_tbl := List.mem_of_getElem? (i := 87) (by decide +kernel)
theorem m_88 : (Cond.fieldLink "LoadChecks$Vehicle" (22 : Nat) "LoadChecks$Vehicle" "endDays" "[I") ∈ lw_tbl := List.mem_of_getElem? (i := 88) (by decide +kernel)
theorem w_88 : (Cond.fieldLink "LoadChecks$Vehicle" (22 : Nat) "LoadChecks$Vehicle" "endDays" "[I") ∈ xT := List.mem_filter.mpr ⟨m_88, by decide +kernel⟩
theorem m_90 : (Cond.fieldLink "LoadChecks$Vehicle" (25 : Nat) "LoadChecks$Vehicle" "batteries" "[I") ∈ lw_tbl := List.mem_of_getElem? (i := 90) (by decide +kernel)
theorem w_90 : (Cond.fieldLink "LoadChecks$Vehicle" (25 : Nat) "LoadChecks$Vehicle" "batteries" "[I") ∈ xT := List.mem_filter.mpr ⟨m_90, by decide +kernel⟩
theorem m_93 : (Cond.fieldLink "LoadChecks$Vehicle" (28 : Nat) "LoadChecks$Vehicle" "wheelbase" "I") ∈ lw_tbl := List.mem_of_getElem? (i := 93) (by decide +kernel)
theorem w_93 : (Cond.fieldLink "LoadChecks$Vehicle" (28 : Nat) "LoadChecks$Vehicle" "wheelbase" "I") ∈ xT := List.mem_filter.mpr ⟨m_93, by decide +kernel⟩
theorem m_96 : (Cond.fieldLink "LoadChecks$Vehicle" (55 : Nat) "LoadChecks$Vehicle" "frontLimit" "I") ∈ lw_tbl := List.mem_of_getElem? (i := 96) (by decide +kernel)
theorem w_96 : (Cond.fieldLink "LoadChecks$Vehicle" (55 : Nat) "LoadChecks$Vehicle" "frontLimit" "I") ∈ xT := List.mem_filter.mpr ⟨m_96, by decide +kernel⟩
theorem m_98 : (Cond.fieldLink "LoadChecks$Vehicle" (65 : Nat) "LoadChecks$Vehicle" "rearLimit" "I") ∈ lw_tbl := List.mem_of_getElem? (i := 98) (by decide +kernel)
theorem w_98 : (Cond.fieldLink "LoadChecks$Vehicle" (65 : Nat) "LoadChecks$Vehicle" "rearLimit" "I") ∈ xT := List.mem_filter.mpr ⟨m_98, by decide +kernel⟩
theorem m_103 : (Cond.fieldLink "LoadChecks$Vehicle" (44 : Nat) "LoadChecks$Vehicle" "grams" "J") ∈ lw_tbl := List.mem_of_getElem? (i := 103) (by decide +kernel)
theorem w_103 : (Cond.fieldLink "LoadChecks$Vehicle" (44 : Nat) "LoadChecks$Vehicle" "grams" "J") ∈ xT := List.mem_filter.mpr ⟨m_103, by decide +kernel⟩
theorem m_104 : (Cond.fieldLink "LoadChecks$Vehicle" (48 : Nat) "LoadChecks$Vehicle" "moment" "J") ∈ lw_tbl := List.mem_of_getElem? (i := 104) (by decide +kernel)
theorem w_104 : (Cond.fieldLink "LoadChecks$Vehicle" (48 : Nat) "LoadChecks$Vehicle" "moment" "J") ∈ xT := List.mem_filter.mpr ⟨m_104, by decide +kernel⟩
theorem m_133 : (Cond.fieldLink "LoadChecks" (9 : Nat) "LoadChecks" "weights" "[I") ∈ lw_tbl := List.mem_of_getElem? (i := 133) (by decide +kernel)
theorem w_133 : (Cond.fieldLink "LoadChecks" (9 : Nat) "LoadChecks" "weights" "[I") ∈ xT := List.mem_filter.mpr ⟨m_133, by decide +kernel⟩
theorem m_135 : (Cond.fieldLink "LoadChecks" (16 : Nat) "LoadChecks" "stocks" "[I") ∈ lw_tbl := List.mem_of_getElem? (i := 135) (by decide +kernel)
theorem w_135 : (Cond.fieldLink "LoadChecks" (16 : Nat) "LoadChecks" "stocks" "[I") ∈ xT := List.mem_filter.mpr ⟨m_135, by decide +kernel⟩
theorem m_137 : (Cond.fieldLink "LoadChecks" (26 : Nat) "LoadChecks" "vehicles" "[LLoadChecks$Vehicle;") ∈ lw_tbl := List.mem_of_getElem? (i := 137) (by decide +kernel)
theorem w_137 : (Cond.fieldLink "LoadChecks" (26 : Nat) "LoadChecks" "vehicles" "[LLoadChecks$Vehicle;") ∈ xT := List.mem_filter.mpr ⟨m_137, by decide +kernel⟩
theorem m_139 : (Cond.fieldLink "LoadChecks" (50 : Nat) "LoadChecks" "vehicleCount" "I") ∈ lw_tbl := List.mem_of_getElem? (i := 139) (by decide +kernel)
theorem w_139 : (Cond.fieldLink "LoadChecks" (50 : Nat) "LoadChecks" "vehicleCount" "I") ∈ xT := List.mem_filter.mpr ⟨m_139, by decide +kernel⟩
theorem m_174 : (Cond.classLink "LoadChecks" (135 : Nat) "java/lang/IllegalArgumentException") ∈ lw_tbl := List.mem_of_getElem? (i := 174) (by decide +kernel)
theorem w_174 : (Cond.classLink "LoadChecks" (135 : Nat) "java/lang/IllegalArgumentException") ∈ xT := List.mem_filter.mpr ⟨m_174, by decide +kernel⟩
theorem m_244 : (Cond.methodLink "LoadChecks" (42 : Nat) ({ cls := "LoadChecks", name := "requireRange", desc := "(III)V" } : MethodName)) ∈ lw_tbl := List.mem_of_getElem? (i := 244) (by decide +kernel)
theorem w_244 : (Cond.methodLink "LoadChecks" (42 : Nat) ({ cls := "LoadChecks", name := "requireRange", desc := "(III)V" } : MethodName)) ∈ xT := List.mem_filter.mpr ⟨m_244, by decide +kernel⟩
theorem m_245 : (Cond.static ({ cls := "LoadChecks", name := "requireRange", desc := "(III)V" } : MethodName)) ∈ lw_tbl := List.mem_of_getElem? (i := 245) (by decide +kernel)
theorem w_245 : (Cond.static ({ cls := "LoadChecks", name := "requireRange", desc := "(III)V" } : MethodName)) ∈ xT := List.mem_filter.mpr ⟨m_245, by decide +kernel⟩
theorem m_246 : (Cond.code ({ cls := "LoadChecks", name := "requireRange", desc := "(III)V" } : MethodName) prog_1_method_28_code (3 : Nat) (Option.none : Option FieldType)) ∈ lw_tbl := List.mem_of_getElem? (i := 246) (by decide +kernel)
theorem w_246 : (Cond.code ({ cls := "LoadChecks", name := "requireRange", desc := "(III)V" } : MethodName) prog_1_method_28_code (3 : Nat) (Option.none : Option FieldType)) ∈ xT := List.mem_filter.mpr ⟨m_246, by decide +kernel⟩
theorem m_247 : (Cond.classLink "LoadChecks" (186 : Nat) "java/lang/IndexOutOfBoundsException") ∈ lw_tbl := List.mem_of_getElem? (i := 247) (by decide +kernel)
theorem w_247 : (Cond.classLink "LoadChecks" (186 : Nat) "java/lang/IndexOutOfBoundsException") ∈ xT := List.mem_filter.mpr ⟨m_247, by decide +kernel⟩
theorem m_266 : (Cond.constant "LoadChecks" (227 : Nat) (20000000 : Int32)) ∈ lw_tbl := List.mem_of_getElem? (i := 266) (by decide +kernel)
theorem w_266 : (Cond.constant "LoadChecks" (227 : Nat) (20000000 : Int32)) ∈ xT := List.mem_filter.mpr ⟨m_266, by decide +kernel⟩
theorem m_267 : (Cond.classLink "LoadChecks" (54 : Nat) "java/lang/UnsupportedOperationException") ∈ lw_tbl := List.mem_of_getElem? (i := 267) (by decide +kernel)
theorem w_267 : (Cond.classLink "LoadChecks" (54 : Nat) "java/lang/UnsupportedOperationException") ∈ xT := List.mem_filter.mpr ⟨m_267, by decide +kernel⟩
theorem m_311 : (Cond.methodLinkNest "LoadChecks$Vehicle" (68 : Nat) ({ cls := "LoadChecks", name := "cellOf", desc := "(II)I" } : MethodName) "LoadChecks") ∈ lw_tbl := List.mem_of_getElem? (i := 311) (by decide +kernel)
theorem m_312 : (Cond.static ({ cls := "LoadChecks", name := "cellOf", desc := "(II)I" } : MethodName)) ∈ lw_tbl := List.mem_of_getElem? (i := 312) (by decide +kernel)
theorem w_312 : (Cond.static ({ cls := "LoadChecks", name := "cellOf", desc := "(II)I" } : MethodName)) ∈ xT := List.mem_filter.mpr ⟨m_312, by decide +kernel⟩
theorem m_313 : (Cond.code ({ cls := "LoadChecks", name := "cellOf", desc := "(II)I" } : MethodName) prog_1_method_33_code (2 : Nat) (Option.some FieldType.int)) ∈ lw_tbl := List.mem_of_getElem? (i := 313) (by decide +kernel)
theorem w_313 : (Cond.code ({ cls := "LoadChecks", name := "cellOf", desc := "(II)I" } : MethodName) prog_1_method_33_code (2 : Nat) (Option.some FieldType.int)) ∈ xT := List.mem_filter.mpr ⟨m_313, by decide +kernel⟩
theorem m_314 : (Cond.classLink "LoadChecks" (84 : Nat) "java/lang/IllegalStateException") ∈ lw_tbl := List.mem_of_getElem? (i := 314) (by decide +kernel)
theorem w_314 : (Cond.classLink "LoadChecks" (84 : Nat) "java/lang/IllegalStateException") ∈ xT := List.mem_filter.mpr ⟨m_314, by decide +kernel⟩
theorem m_346 : (Cond.methodLinkNest "LoadChecks" (234 : Nat) ({ cls := "LoadChecks$Vehicle", name := "carries", desc := "(I)Z" } : MethodName) "LoadChecks") ∈ lw_tbl := List.mem_of_getElem? (i := 346) (by decide +kernel)
theorem m_348 : (Cond.instanceMethod ({ cls := "LoadChecks$Vehicle", name := "carries", desc := "(I)Z" } : MethodName)) ∈ lw_tbl := List.mem_of_getElem? (i := 348) (by decide +kernel)
theorem w_348 : (Cond.instanceMethod ({ cls := "LoadChecks$Vehicle", name := "carries", desc := "(I)Z" } : MethodName)) ∈ xT := List.mem_filter.mpr ⟨m_348, by decide +kernel⟩
theorem m_349 : (Cond.code ({ cls := "LoadChecks$Vehicle", name := "carries", desc := "(I)Z" } : MethodName) prog_3_method_9_code (3 : Nat) (Option.some FieldType.boolean)) ∈ lw_tbl := List.mem_of_getElem? (i := 349) (by decide +kernel)
theorem w_349 : (Cond.code ({ cls := "LoadChecks$Vehicle", name := "carries", desc := "(I)Z" } : MethodName) prog_3_method_9_code (3 : Nat) (Option.some FieldType.boolean)) ∈ xT := List.mem_filter.mpr ⟨m_349, by decide +kernel⟩
theorem m_378 : (Cond.methodLinkNest "LoadChecks" (131 : Nat) ({ cls := "LoadChecks$Vehicle", name := "bears", desc := "(III)Z" } : MethodName) "LoadChecks") ∈ lw_tbl := List.mem_of_getElem? (i := 378) (by decide +kernel)
theorem m_380 : (Cond.instanceMethod ({ cls := "LoadChecks$Vehicle", name := "bears", desc := "(III)Z" } : MethodName)) ∈ lw_tbl := List.mem_of_getElem? (i := 380) (by decide +kernel)
theorem w_380 : (Cond.instanceMethod ({ cls := "LoadChecks$Vehicle", name := "bears", desc := "(III)Z" } : MethodName)) ∈ xT := List.mem_filter.mpr ⟨m_380, by decide +kernel⟩
theorem m_381 : (Cond.code ({ cls := "LoadChecks$Vehicle", name := "bears", desc := "(III)Z" } : MethodName) prog_3_method_6_code (12 : Nat) (Option.some FieldType.boolean)) ∈ lw_tbl := List.mem_of_getElem? (i := 381) (by decide +kernel)
theorem w_381 : (Cond.code ({ cls := "LoadChecks$Vehicle", name := "bears", desc := "(III)Z" } : MethodName) prog_3_method_6_code (12 : Nat) (Option.some FieldType.boolean)) ∈ xT := List.mem_filter.mpr ⟨m_381, by decide +kernel⟩
theorem m_382 : (Cond.methodLink "LoadChecks$Vehicle" (51 : Nat) ({ cls := "LoadChecks$Vehicle", name := "frontMoment", desc := "()J" } : MethodName)) ∈ lw_tbl := List.mem_of_getElem? (i := 382) (by decide +kernel)
theorem w_382 : (Cond.methodLink "LoadChecks$Vehicle" (51 : Nat) ({ cls := "LoadChecks$Vehicle", name := "frontMoment", desc := "()J" } : MethodName)) ∈ xT := List.mem_filter.mpr ⟨m_382, by decide +kernel⟩
theorem m_384 : (Cond.instanceMethod ({ cls := "LoadChecks$Vehicle", name := "frontMoment", desc := "()J" } : MethodName)) ∈ lw_tbl := List.mem_of_getElem? (i := 384) (by decide +kernel)
theorem w_384 : (Cond.instanceMethod ({ cls := "LoadChecks$Vehicle", name := "frontMoment", desc := "()J" } : MethodName)) ∈ xT := List.mem_filter.mpr ⟨m_384, by decide +kernel⟩
theorem m_385 : (Cond.code ({ cls := "LoadChecks$Vehicle", name := "frontMoment", desc := "()J" } : MethodName) prog_3_method_2_code (1 : Nat) (Option.some FieldType.long)) ∈ lw_tbl := List.mem_of_getElem? (i := 385) (by decide +kernel)
theorem w_385 : (Cond.code ({ cls := "LoadChecks$Vehicle", name := "frontMoment", desc := "()J" } : MethodName) prog_3_method_2_code (1 : Nat) (Option.some FieldType.long)) ∈ xT := List.mem_filter.mpr ⟨m_385, by decide +kernel⟩
theorem m_386 : (Cond.methodLink "LoadChecks$Vehicle" (58 : Nat) ({ cls := "LoadChecks$Vehicle", name := "exceeds", desc := "(JI)Z" } : MethodName)) ∈ lw_tbl := List.mem_of_getElem? (i := 386) (by decide +kernel)
theorem w_386 : (Cond.methodLink "LoadChecks$Vehicle" (58 : Nat) ({ cls := "LoadChecks$Vehicle", name := "exceeds", desc := "(JI)Z" } : MethodName)) ∈ xT := List.mem_filter.mpr ⟨m_386, by decide +kernel⟩
theorem m_388 : (Cond.instanceMethod ({ cls := "LoadChecks$Vehicle", name := "exceeds", desc := "(JI)Z" } : MethodName)) ∈ lw_tbl := List.mem_of_getElem? (i := 388) (by decide +kernel)
theorem w_388 : (Cond.instanceMethod ({ cls := "LoadChecks$Vehicle", name := "exceeds", desc := "(JI)Z" } : MethodName)) ∈ xT := List.mem_filter.mpr ⟨m_388, by decide +kernel⟩
theorem m_389 : (Cond.code ({ cls := "LoadChecks$Vehicle", name := "exceeds", desc := "(JI)Z" } : MethodName) prog_3_method_5_code (4 : Nat) (Option.some FieldType.boolean)) ∈ lw_tbl := List.mem_of_getElem? (i := 389) (by decide +kernel)
theorem w_389 : (Cond.code ({ cls := "LoadChecks$Vehicle", name := "exceeds", desc := "(JI)Z" } : MethodName) prog_3_method_5_code (4 : Nat) (Option.some FieldType.boolean)) ∈ xT := List.mem_filter.mpr ⟨m_389, by decide +kernel⟩
theorem m_390 : (Cond.methodLink "LoadChecks$Vehicle" (62 : Nat) ({ cls := "LoadChecks$Vehicle", name := "rearMoment", desc := "()J" } : MethodName)) ∈ lw_tbl := List.mem_of_getElem? (i := 390) (by decide +kernel)
theorem w_390 : (Cond.methodLink "LoadChecks$Vehicle" (62 : Nat) ({ cls := "LoadChecks$Vehicle", name := "rearMoment", desc := "()J" } : MethodName)) ∈ xT := List.mem_filter.mpr ⟨m_390, by decide +kernel⟩
theorem m_392 : (Cond.instanceMethod ({ cls := "LoadChecks$Vehicle", name := "rearMoment", desc := "()J" } : MethodName)) ∈ lw_tbl := List.mem_of_getElem? (i := 392) (by decide +kernel)
theorem w_392 : (Cond.instanceMethod ({ cls := "LoadChecks$Vehicle", name := "rearMoment", desc := "()J" } : MethodName)) ∈ xT := List.mem_filter.mpr ⟨m_392, by decide +kernel⟩
theorem m_393 : (Cond.code ({ cls := "LoadChecks$Vehicle", name := "rearMoment", desc := "()J" } : MethodName) prog_3_method_3_code (1 : Nat) (Option.some FieldType.long)) ∈ lw_tbl := List.mem_of_getElem? (i := 393) (by decide +kernel)
theorem w_393 : (Cond.code ({ cls := "LoadChecks$Vehicle", name := "rearMoment", desc := "()J" } : MethodName) prog_3_method_3_code (1 : Nat) (Option.some FieldType.long)) ∈ xT := List.mem_filter.mpr ⟨m_393, by decide +kernel⟩
theorem m_423 : (Cond.instanceMethod ({ cls := "LoadChecks$Vehicle", name := "lackOf", desc := "(II)I" } : MethodName)) ∈ lw_tbl := List.mem_of_getElem? (i := 423) (by decide +kernel)
theorem w_423 : (Cond.instanceMethod ({ cls := "LoadChecks$Vehicle", name := "lackOf", desc := "(II)I" } : MethodName)) ∈ xT := List.mem_filter.mpr ⟨m_423, by decide +kernel⟩
theorem m_424 : (Cond.code ({ cls := "LoadChecks$Vehicle", name := "lackOf", desc := "(II)I" } : MethodName) prog_3_method_10_code (3 : Nat) (Option.some FieldType.int)) ∈ lw_tbl := List.mem_of_getElem? (i := 424) (by decide +kernel)
theorem w_424 : (Cond.code ({ cls := "LoadChecks$Vehicle", name := "lackOf", desc := "(II)I" } : MethodName) prog_3_method_10_code (3 : Nat) (Option.some FieldType.int)) ∈ xT := List.mem_filter.mpr ⟨m_424, by decide +kernel⟩
theorem m_425 : (Cond.methodLink "LoadChecks$Vehicle" (72 : Nat) ({ cls := "java/lang/Math", name := "max", desc := "(II)I" } : MethodName)) ∈ lw_tbl := List.mem_of_getElem? (i := 425) (by decide +kernel)
theorem w_425 : (Cond.methodLink "LoadChecks$Vehicle" (72 : Nat) ({ cls := "java/lang/Math", name := "max", desc := "(II)I" } : MethodName)) ∈ xT := List.mem_filter.mpr ⟨m_425, by decide +kernel⟩
theorem m_426 : (Cond.static ({ cls := "java/lang/Math", name := "max", desc := "(II)I" } : MethodName)) ∈ lw_tbl := List.mem_of_getElem? (i := 426) (by decide +kernel)
theorem w_426 : (Cond.static ({ cls := "java/lang/Math", name := "max", desc := "(II)I" } : MethodName)) ∈ xT := List.mem_filter.mpr ⟨m_426, by decide +kernel⟩
theorem m_427 : (Cond.code ({ cls := "java/lang/Math", name := "max", desc := "(II)I" } : MethodName) prog_11_method_65_code (2 : Nat) (Option.some FieldType.int)) ∈ lw_tbl := List.mem_of_getElem? (i := 427) (by decide +kernel)
theorem w_427 : (Cond.code ({ cls := "java/lang/Math", name := "max", desc := "(II)I" } : MethodName) prog_11_method_65_code (2 : Nat) (Option.some FieldType.int)) ∈ xT := List.mem_filter.mpr ⟨m_427, by decide +kernel⟩
theorem m_443 : (Cond.constantLong "LoadChecks$Rows" (17 : Nat) (100 : Int64)) ∈ lw_tbl := List.mem_of_getElem? (i := 443) (by decide +kernel)
theorem w_443 : (Cond.constantLong "LoadChecks$Rows" (17 : Nat) (100 : Int64)) ∈ xT := List.mem_filter.mpr ⟨m_443, by decide +kernel⟩
theorem m_491 : (Cond.methodLink "LoadChecks$Vehicle" (77 : Nat) ({ cls := "LoadChecks$Vehicle", name := "lackOf", desc := "(II)I" } : MethodName)) ∈ lw_tbl := List.mem_of_getElem? (i := 491) (by decide +kernel)
theorem w_491 : (Cond.methodLink "LoadChecks$Vehicle" (77 : Nat) ({ cls := "LoadChecks$Vehicle", name := "lackOf", desc := "(II)I" } : MethodName)) ∈ xT := List.mem_filter.mpr ⟨m_491, by decide +kernel⟩
theorem m_553 : (Cond.methodLink "LoadChecks" (237 : Nat) ({ cls := "java/lang/Math", name := "abs", desc := "(J)J" } : MethodName)) ∈ lw_tbl := List.mem_of_getElem? (i := 553) (by decide +kernel)
theorem w_553 : (Cond.methodLink "LoadChecks" (237 : Nat) ({ cls := "java/lang/Math", name := "abs", desc := "(J)J" } : MethodName)) ∈ xT := List.mem_filter.mpr ⟨m_553, by decide +kernel⟩
theorem m_554 : (Cond.static ({ cls := "java/lang/Math", name := "abs", desc := "(J)J" } : MethodName)) ∈ lw_tbl := List.mem_of_getElem? (i := 554) (by decide +kernel)
theorem w_554 : (Cond.static ({ cls := "java/lang/Math", name := "abs", desc := "(J)J" } : MethodName)) ∈ xT := List.mem_filter.mpr ⟨m_554, by decide +kernel⟩
theorem m_555 : (Cond.code ({ cls := "java/lang/Math", name := "abs", desc := "(J)J" } : MethodName) prog_11_method_61_code (2 : Nat) (Option.some FieldType.long)) ∈ lw_tbl := List.mem_of_getElem? (i := 555) (by decide +kernel)
theorem w_555 : (Cond.code ({ cls := "java/lang/Math", name := "abs", desc := "(J)J" } : MethodName) prog_11_method_61_code (2 : Nat) (Option.some FieldType.long)) ∈ xT := List.mem_filter.mpr ⟨m_555, by decide +kernel⟩
theorem m_556 : (Cond.methodLink "LoadChecks" (241 : Nat) ({ cls := "java/lang/Math", name := "max", desc := "(JJ)J" } : MethodName)) ∈ lw_tbl := List.mem_of_getElem? (i := 556) (by decide +kernel)
theorem w_556 : (Cond.methodLink "LoadChecks" (241 : Nat) ({ cls := "java/lang/Math", name := "max", desc := "(JJ)J" } : MethodName)) ∈ xT := List.mem_filter.mpr ⟨m_556, by decide +kernel⟩
theorem m_557 : (Cond.static ({ cls := "java/lang/Math", name := "max", desc := "(JJ)J" } : MethodName)) ∈ lw_tbl := List.mem_of_getElem? (i := 557) (by decide +kernel)
theorem w_557 : (Cond.static ({ cls := "java/lang/Math", name := "max", desc := "(JJ)J" } : MethodName)) ∈ xT := List.mem_filter.mpr ⟨m_557, by decide +kernel⟩
theorem m_558 : (Cond.code ({ cls := "java/lang/Math", name := "max", desc := "(JJ)J" } : MethodName) prog_11_method_66_code (4 : Nat) (Option.some FieldType.long)) ∈ lw_tbl := List.mem_of_getElem? (i := 558) (by decide +kernel)
theorem w_558 : (Cond.code ({ cls := "java/lang/Math", name := "max", desc := "(JJ)J" } : MethodName) prog_11_method_66_code (4 : Nat) (Option.some FieldType.long)) ∈ xT := List.mem_filter.mpr ⟨m_558, by decide +kernel⟩
