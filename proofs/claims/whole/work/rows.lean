section
-- ===== PART A: goes FIRST, ahead of the names: the tables' words, and 'selects' of the private methods out of them =====
/-- a private method of a class that the tables say can be made, by its rows of tables_1 -/
def lw_okq (q : MethodName × Nat) : Prop := (q.1.cls ≠ "java/lang/invoke/MethodHandle" ∧ q.1.cls ≠ "java/lang/invoke/VarHandle") ∧ Cond.instantiable q.1.cls q.2 ∈ tables_1 ∧ Cond.privateMethod q.1 ∈ tables_1 ∧ Cond.instanceMethod q.1 ∈ tables_1
theorem lw_p0 : lw_okq (⟨"java/lang/Throwable", "fillInStackTrace", "(I)Ljava/lang/Throwable;"⟩, 6) := ⟨⟨by decide +kernel, by decide +kernel⟩, List.mem_of_getElem? (i := 182) (by decide +kernel), List.mem_of_getElem? (i := 180) (by decide +kernel), List.mem_of_getElem? (i := 181) (by decide +kernel)⟩
theorem lw_p1 : lw_okq (⟨"LoadChecks", "knownVehicle", "(I)LLoadChecks$Vehicle;"⟩, 9) := ⟨⟨by decide +kernel, by decide +kernel⟩, List.mem_of_getElem? (i := 16) (by decide +kernel), List.mem_of_getElem? (i := 258) (by decide +kernel), List.mem_of_getElem? (i := 259) (by decide +kernel)⟩
theorem lw_p2 : lw_okq (⟨"LoadChecks$Vehicle", "isEmpty", "(I)Z"⟩, 13) := ⟨⟨by decide +kernel, by decide +kernel⟩, List.mem_of_getElem? (i := 41) (by decide +kernel), List.mem_of_getElem? (i := 275) (by decide +kernel), List.mem_of_getElem? (i := 276) (by decide +kernel)⟩
theorem lw_p3 : lw_okq (⟨"LoadChecks", "isAnywhere", "(I)Z"⟩, 9) := ⟨⟨by decide +kernel, by decide +kernel⟩, List.mem_of_getElem? (i := 16) (by decide +kernel), List.mem_of_getElem? (i := 310) (by decide +kernel), List.mem_of_getElem? (i := 311) (by decide +kernel)⟩
theorem lw_p4 : lw_okq (⟨"LoadChecks$Vehicle", "carries", "(I)Z"⟩, 13) := ⟨⟨by decide +kernel, by decide +kernel⟩, List.mem_of_getElem? (i := 41) (by decide +kernel), List.mem_of_getElem? (i := 314) (by decide +kernel), List.mem_of_getElem? (i := 315) (by decide +kernel)⟩
theorem lw_p5 : lw_okq (⟨"LoadChecks", "requireBearable", "(LLoadChecks$Vehicle;II)V"⟩, 9) := ⟨⟨by decide +kernel, by decide +kernel⟩, List.mem_of_getElem? (i := 16) (by decide +kernel), List.mem_of_getElem? (i := 342) (by decide +kernel), List.mem_of_getElem? (i := 343) (by decide +kernel)⟩
theorem lw_p6 : lw_okq (⟨"LoadChecks$Vehicle", "bears", "(III)Z"⟩, 13) := ⟨⟨by decide +kernel, by decide +kernel⟩, List.mem_of_getElem? (i := 41) (by decide +kernel), List.mem_of_getElem? (i := 346) (by decide +kernel), List.mem_of_getElem? (i := 347) (by decide +kernel)⟩
theorem lw_p7 : lw_okq (⟨"LoadChecks$Vehicle", "frontMoment", "()J"⟩, 13) := ⟨⟨by decide +kernel, by decide +kernel⟩, List.mem_of_getElem? (i := 41) (by decide +kernel), List.mem_of_getElem? (i := 350) (by decide +kernel), List.mem_of_getElem? (i := 351) (by decide +kernel)⟩
theorem lw_p8 : lw_okq (⟨"LoadChecks$Vehicle", "exceeds", "(JI)Z"⟩, 13) := ⟨⟨by decide +kernel, by decide +kernel⟩, List.mem_of_getElem? (i := 41) (by decide +kernel), List.mem_of_getElem? (i := 354) (by decide +kernel), List.mem_of_getElem? (i := 355) (by decide +kernel)⟩
theorem lw_p9 : lw_okq (⟨"LoadChecks$Vehicle", "rearMoment", "()J"⟩, 13) := ⟨⟨by decide +kernel, by decide +kernel⟩, List.mem_of_getElem? (i := 41) (by decide +kernel), List.mem_of_getElem? (i := 358) (by decide +kernel), List.mem_of_getElem? (i := 359) (by decide +kernel)⟩
theorem lw_p10 : lw_okq (⟨"LoadChecks$Vehicle", "load", "(III)V"⟩, 13) := ⟨⟨by decide +kernel, by decide +kernel⟩, List.mem_of_getElem? (i := 41) (by decide +kernel), List.mem_of_getElem? (i := 367) (by decide +kernel), List.mem_of_getElem? (i := 368) (by decide +kernel)⟩
theorem lw_p11 : lw_okq (⟨"LoadChecks$Vehicle", "lackOf", "(II)I"⟩, 13) := ⟨⟨by decide +kernel, by decide +kernel⟩, List.mem_of_getElem? (i := 41) (by decide +kernel), List.mem_of_getElem? (i := 389) (by decide +kernel), List.mem_of_getElem? (i := 390) (by decide +kernel)⟩
theorem lw_p12 : lw_okq (⟨"LoadChecks$Rows", "add", "(III)V"⟩, 2) := ⟨⟨by decide +kernel, by decide +kernel⟩, List.mem_of_getElem? (i := 28) (by decide +kernel), List.mem_of_getElem? (i := 407) (by decide +kernel), List.mem_of_getElem? (i := 408) (by decide +kernel)⟩
theorem lw_p13 : lw_okq (⟨"LoadChecks$Vehicle", "missingCell", "([II)I"⟩, 13) := ⟨⟨by decide +kernel, by decide +kernel⟩, List.mem_of_getElem? (i := 41) (by decide +kernel), List.mem_of_getElem? (i := 455) (by decide +kernel), List.mem_of_getElem? (i := 456) (by decide +kernel)⟩
theorem lw_p14 : lw_okq (⟨"LoadChecks$Vehicle", "hasBrokenSeal", "()Z"⟩, 13) := ⟨⟨by decide +kernel, by decide +kernel⟩, List.mem_of_getElem? (i := 41) (by decide +kernel), List.mem_of_getElem? (i := 460) (by decide +kernel), List.mem_of_getElem? (i := 461) (by decide +kernel)⟩
theorem lw_p15 : lw_okq (⟨"LoadChecks$Vehicle", "needsPastItem", "([II)Z"⟩, 13) := ⟨⟨by decide +kernel, by decide +kernel⟩, List.mem_of_getElem? (i := 41) (by decide +kernel), List.mem_of_getElem? (i := 464) (by decide +kernel), List.mem_of_getElem? (i := 465) (by decide +kernel)⟩
def lw_privs_1 : List (MethodName × Nat) := [(⟨"java/lang/Throwable", "fillInStackTrace", "(I)Ljava/lang/Throwable;"⟩, 6), (⟨"LoadChecks", "knownVehicle", "(I)LLoadChecks$Vehicle;"⟩, 9), (⟨"LoadChecks$Vehicle", "isEmpty", "(I)Z"⟩, 13), (⟨"LoadChecks", "isAnywhere", "(I)Z"⟩, 9), (⟨"LoadChecks$Vehicle", "carries", "(I)Z"⟩, 13), (⟨"LoadChecks", "requireBearable", "(LLoadChecks$Vehicle;II)V"⟩, 9), (⟨"LoadChecks$Vehicle", "bears", "(III)Z"⟩, 13), (⟨"LoadChecks$Vehicle", "frontMoment", "()J"⟩, 13), (⟨"LoadChecks$Vehicle", "exceeds", "(JI)Z"⟩, 13), (⟨"LoadChecks$Vehicle", "rearMoment", "()J"⟩, 13), (⟨"LoadChecks$Vehicle", "load", "(III)V"⟩, 13), (⟨"LoadChecks$Vehicle", "lackOf", "(II)I"⟩, 13), (⟨"LoadChecks$Rows", "add", "(III)V"⟩, 2), (⟨"LoadChecks$Vehicle", "missingCell", "([II)I"⟩, 13), (⟨"LoadChecks$Vehicle", "hasBrokenSeal", "()Z"⟩, 13), (⟨"LoadChecks$Vehicle", "needsPastItem", "([II)Z"⟩, 13)]
theorem lw_r1 : ∀ q ∈ lw_privs_1, lw_okq q := List.forall_mem_cons.mpr ⟨lw_p0, List.forall_mem_cons.mpr ⟨lw_p1, List.forall_mem_cons.mpr ⟨lw_p2, List.forall_mem_cons.mpr ⟨lw_p3, List.forall_mem_cons.mpr ⟨lw_p4, List.forall_mem_cons.mpr ⟨lw_p5, List.forall_mem_cons.mpr ⟨lw_p6, List.forall_mem_cons.mpr ⟨lw_p7, List.forall_mem_cons.mpr ⟨lw_p8, List.forall_mem_cons.mpr ⟨lw_p9, List.forall_mem_cons.mpr ⟨lw_p10, List.forall_mem_cons.mpr ⟨lw_p11, List.forall_mem_cons.mpr ⟨lw_p12, List.forall_mem_cons.mpr ⟨lw_p13, List.forall_mem_cons.mpr ⟨lw_p14, List.forall_mem_cons.mpr ⟨lw_p15, fun _ h => absurd h List.not_mem_nil⟩⟩⟩⟩⟩⟩⟩⟩⟩⟩⟩⟩⟩⟩⟩⟩
theorem lw_p16 : lw_okq (⟨"LoadChecks$Vehicle", "needsWeakItem", "([I[I)Z"⟩, 13) := ⟨⟨by decide +kernel, by decide +kernel⟩, List.mem_of_getElem? (i := 41) (by decide +kernel), List.mem_of_getElem? (i := 468) (by decide +kernel), List.mem_of_getElem? (i := 469) (by decide +kernel)⟩
theorem lw_p17 : lw_okq (⟨"LoadChecks$Vehicle", "isBeyond", "()Z"⟩, 13) := ⟨⟨by decide +kernel, by decide +kernel⟩, List.mem_of_getElem? (i := 41) (by decide +kernel), List.mem_of_getElem? (i := 472) (by decide +kernel), List.mem_of_getElem? (i := 473) (by decide +kernel)⟩
theorem lw_p18 : lw_okq (⟨"LoadChecks$Rows", "keeps", "(I)Z"⟩, 2) := ⟨⟨by decide +kernel, by decide +kernel⟩, List.mem_of_getElem? (i := 28) (by decide +kernel), List.mem_of_getElem? (i := 534) (by decide +kernel), List.mem_of_getElem? (i := 535) (by decide +kernel)⟩
theorem lw_p19 : lw_okq (⟨"LoadChecks$Rows", "number", "(II)I"⟩, 2) := ⟨⟨by decide +kernel, by decide +kernel⟩, List.mem_of_getElem? (i := 28) (by decide +kernel), List.mem_of_getElem? (i := 539) (by decide +kernel), List.mem_of_getElem? (i := 540) (by decide +kernel)⟩
theorem lw_p20 : lw_okq (⟨"LoadChecksModel", "throwing", "(ZZZZ)Z"⟩, 20) := ⟨⟨by decide +kernel, by decide +kernel⟩, List.mem_of_getElem? (i := 557) (by decide +kernel), List.mem_of_getElem? (i := 639) (by decide +kernel), List.mem_of_getElem? (i := 640) (by decide +kernel)⟩
theorem lw_p21 : lw_okq (⟨"LoadChecksModel", "isVehicle", "(I)Z"⟩, 20) := ⟨⟨by decide +kernel, by decide +kernel⟩, List.mem_of_getElem? (i := 557) (by decide +kernel), List.mem_of_getElem? (i := 647) (by decide +kernel), List.mem_of_getElem? (i := 648) (by decide +kernel)⟩
theorem lw_p22 : lw_okq (⟨"LoadChecksModel", "isEmpty", "(II)Z"⟩, 20) := ⟨⟨by decide +kernel, by decide +kernel⟩, List.mem_of_getElem? (i := 557) (by decide +kernel), List.mem_of_getElem? (i := 658) (by decide +kernel), List.mem_of_getElem? (i := 659) (by decide +kernel)⟩
theorem lw_p23 : lw_okq (⟨"LoadChecksModel", "isSomewhere", "(I)Z"⟩, 20) := ⟨⟨by decide +kernel, by decide +kernel⟩, List.mem_of_getElem? (i := 557) (by decide +kernel), List.mem_of_getElem? (i := 670) (by decide +kernel), List.mem_of_getElem? (i := 671) (by decide +kernel)⟩
theorem lw_p24 : lw_okq (⟨"LoadChecksModel", "isThing", "(III)Z"⟩, 20) := ⟨⟨by decide +kernel, by decide +kernel⟩, List.mem_of_getElem? (i := 557) (by decide +kernel), List.mem_of_getElem? (i := 686) (by decide +kernel), List.mem_of_getElem? (i := 687) (by decide +kernel)⟩
theorem lw_p25 : lw_okq (⟨"LoadChecksModel", "isTooMuch", "(IIII)Z"⟩, 20) := ⟨⟨by decide +kernel, by decide +kernel⟩, List.mem_of_getElem? (i := 557) (by decide +kernel), List.mem_of_getElem? (i := 690) (by decide +kernel), List.mem_of_getElem? (i := 691) (by decide +kernel)⟩
theorem lw_p26 : lw_okq (⟨"LoadChecksModel", "bears", "(IZ)J"⟩, 20) := ⟨⟨by decide +kernel, by decide +kernel⟩, List.mem_of_getElem? (i := 557) (by decide +kernel), List.mem_of_getElem? (i := 694) (by decide +kernel), List.mem_of_getElem? (i := 695) (by decide +kernel)⟩
theorem lw_p27 : lw_okq (⟨"LoadChecksModel", "momentOf", "(I)J"⟩, 20) := ⟨⟨by decide +kernel, by decide +kernel⟩, List.mem_of_getElem? (i := 557) (by decide +kernel), List.mem_of_getElem? (i := 698) (by decide +kernel), List.mem_of_getElem? (i := 699) (by decide +kernel)⟩
theorem lw_p28 : lw_okq (⟨"LoadChecksModel", "sumOf", "(I)J"⟩, 20) := ⟨⟨by decide +kernel, by decide +kernel⟩, List.mem_of_getElem? (i := 557) (by decide +kernel), List.mem_of_getElem? (i := 702) (by decide +kernel), List.mem_of_getElem? (i := 703) (by decide +kernel)⟩
theorem lw_p29 : lw_okq (⟨"LoadChecksModel", "isBeyond", "(IZ)Z"⟩, 20) := ⟨⟨by decide +kernel, by decide +kernel⟩, List.mem_of_getElem? (i := 557) (by decide +kernel), List.mem_of_getElem? (i := 706) (by decide +kernel), List.mem_of_getElem? (i := 707) (by decide +kernel)⟩
theorem lw_p30 : lw_okq (⟨"LoadChecksModel", "missingOf", "(II)I"⟩, 20) := ⟨⟨by decide +kernel, by decide +kernel⟩, List.mem_of_getElem? (i := 557) (by decide +kernel), List.mem_of_getElem? (i := 718) (by decide +kernel), List.mem_of_getElem? (i := 719) (by decide +kernel)⟩
theorem lw_p31 : lw_okq (⟨"LoadChecksModel", "tell", "(III)V"⟩, 20) := ⟨⟨by decide +kernel, by decide +kernel⟩, List.mem_of_getElem? (i := 557) (by decide +kernel), List.mem_of_getElem? (i := 726) (by decide +kernel), List.mem_of_getElem? (i := 727) (by decide +kernel)⟩
def lw_privs_2 : List (MethodName × Nat) := [(⟨"LoadChecks$Vehicle", "needsWeakItem", "([I[I)Z"⟩, 13), (⟨"LoadChecks$Vehicle", "isBeyond", "()Z"⟩, 13), (⟨"LoadChecks$Rows", "keeps", "(I)Z"⟩, 2), (⟨"LoadChecks$Rows", "number", "(II)I"⟩, 2), (⟨"LoadChecksModel", "throwing", "(ZZZZ)Z"⟩, 20), (⟨"LoadChecksModel", "isVehicle", "(I)Z"⟩, 20), (⟨"LoadChecksModel", "isEmpty", "(II)Z"⟩, 20), (⟨"LoadChecksModel", "isSomewhere", "(I)Z"⟩, 20), (⟨"LoadChecksModel", "isThing", "(III)Z"⟩, 20), (⟨"LoadChecksModel", "isTooMuch", "(IIII)Z"⟩, 20), (⟨"LoadChecksModel", "bears", "(IZ)J"⟩, 20), (⟨"LoadChecksModel", "momentOf", "(I)J"⟩, 20), (⟨"LoadChecksModel", "sumOf", "(I)J"⟩, 20), (⟨"LoadChecksModel", "isBeyond", "(IZ)Z"⟩, 20), (⟨"LoadChecksModel", "missingOf", "(II)I"⟩, 20), (⟨"LoadChecksModel", "tell", "(III)V"⟩, 20)]
theorem lw_r2 : ∀ q ∈ lw_privs_2, lw_okq q := List.forall_mem_cons.mpr ⟨lw_p16, List.forall_mem_cons.mpr ⟨lw_p17, List.forall_mem_cons.mpr ⟨lw_p18, List.forall_mem_cons.mpr ⟨lw_p19, List.forall_mem_cons.mpr ⟨lw_p20, List.forall_mem_cons.mpr ⟨lw_p21, List.forall_mem_cons.mpr ⟨lw_p22, List.forall_mem_cons.mpr ⟨lw_p23, List.forall_mem_cons.mpr ⟨lw_p24, List.forall_mem_cons.mpr ⟨lw_p25, List.forall_mem_cons.mpr ⟨lw_p26, List.forall_mem_cons.mpr ⟨lw_p27, List.forall_mem_cons.mpr ⟨lw_p28, List.forall_mem_cons.mpr ⟨lw_p29, List.forall_mem_cons.mpr ⟨lw_p30, List.forall_mem_cons.mpr ⟨lw_p31, fun _ h => absurd h List.not_mem_nil⟩⟩⟩⟩⟩⟩⟩⟩⟩⟩⟩⟩⟩⟩⟩⟩
theorem lw_p32 : lw_okq (⟨"LoadChecksModel", "isNeeded", "(II)Z"⟩, 20) := ⟨⟨by decide +kernel, by decide +kernel⟩, List.mem_of_getElem? (i := 557) (by decide +kernel), List.mem_of_getElem? (i := 754) (by decide +kernel), List.mem_of_getElem? (i := 755) (by decide +kernel)⟩
def lw_privs_3 : List (MethodName × Nat) := [(⟨"LoadChecksModel", "isNeeded", "(II)Z"⟩, 20)]
theorem lw_r3 : ∀ q ∈ lw_privs_3, lw_okq q := List.forall_mem_cons.mpr ⟨lw_p32, fun _ h => absurd h List.not_mem_nil⟩
def lw_privs : List (MethodName × Nat) := lw_privs_1 ++ (lw_privs_2 ++ (lw_privs_3))
def lw_tbl : List Cond := k2_sels lw_privs ++ tables_1
theorem lw_privs_ok : ∀ q ∈ lw_privs, lw_okq q := by
  show ∀ q ∈ lw_privs_1 ++ (lw_privs_2 ++ (lw_privs_3)), lw_okq q
  exact List.forall_mem_append.mpr ⟨lw_r1, List.forall_mem_append.mpr ⟨lw_r2, lw_r3⟩⟩
end
section
/-! names: classes, fields in the order of the slots -/
def R_LC : String := "LoadChecks"
def F_LC : u_T := fun k => match k with
  | 0 => ("LoadChecks", "weights", "[I", true)
  | 1 => ("LoadChecks", "leastBatteries", "[I", true)
  | 2 => ("LoadChecks", "stocks", "[I", true)
  | 3 => ("LoadChecks", "needs", "[[I", true)
  | 4 => ("LoadChecks", "vehicles", "[LLoadChecks$Vehicle;", true)
  | 5 => ("LoadChecks", "rows", "LLoadChecks$Rows;", true)
  | 6 => ("LoadChecks", "vehicleCount", "I", false)
  | 7 => ("LoadChecks", "presentDay", "I", false)
  | _ => ("LoadChecks", "presentShift", "I", false)
def t_LC : Nat → FieldType := fun k => match k with
  | 0 => .array .int
  | 1 => .array .int
  | 2 => .array .int
  | 3 => .array (.array .int)
  | 4 => .array (.object "LoadChecks$Vehicle")
  | 5 => .object "LoadChecks$Rows"
  | 6 => .int
  | 7 => .int
  | _ => .int
theorem n_LC : ∀ a, a < 9 → ∀ b, b < 9 → a ≠ b → (F_LC a).2.1 ≠ (F_LC b).2.1 := by decide +kernel
theorem t_LC_ok : ∀ k, k < 9 → parseFieldDescriptor (F_LC k).2.2.1 = some (t_LC k) := by decide +kernel
def R_VE : String := "LoadChecks$Vehicle"
def F_VE : u_T := fun k => match k with
  | 0 => ("LoadChecks$Vehicle", "places", "[I", true)
  | 1 => ("LoadChecks$Vehicle", "brokenSeals", "[Z", true)
  | 2 => ("LoadChecks$Vehicle", "counts", "[I", true)
  | 3 => ("LoadChecks$Vehicle", "endDays", "[I", true)
  | 4 => ("LoadChecks$Vehicle", "batteries", "[I", true)
  | 5 => ("LoadChecks$Vehicle", "kind", "I", false)
  | 6 => ("LoadChecks$Vehicle", "wheelbase", "I", false)
  | 7 => ("LoadChecks$Vehicle", "frontLimit", "I", false)
  | 8 => ("LoadChecks$Vehicle", "rearLimit", "I", false)
  | 9 => ("LoadChecks$Vehicle", "checkedDay", "I", false)
  | 10 => ("LoadChecks$Vehicle", "checkedShift", "I", false)
  | 11 => ("LoadChecks$Vehicle", "grams", "J", false)
  | _ => ("LoadChecks$Vehicle", "moment", "J", false)
def t_VE : Nat → FieldType := fun k => match k with
  | 0 => .array .int
  | 1 => .array .boolean
  | 2 => .array .int
  | 3 => .array .int
  | 4 => .array .int
  | 5 => .int
  | 6 => .int
  | 7 => .int
  | 8 => .int
  | 9 => .int
  | 10 => .int
  | 11 => .long
  | _ => .long
theorem n_VE : ∀ a, a < 13 → ∀ b, b < 13 → a ≠ b → (F_VE a).2.1 ≠ (F_VE b).2.1 := by decide +kernel
theorem t_VE_ok : ∀ k, k < 13 → parseFieldDescriptor (F_VE k).2.2.1 = some (t_VE k) := by decide +kernel
def R_RW : String := "LoadChecks$Rows"
def F_RW : u_T := fun k => match k with
  | 0 => ("LoadChecks$Rows", "numbers", "[I", true)
  | _ => ("LoadChecks$Rows", "made", "J", false)
def t_RW : Nat → FieldType := fun k => match k with
  | 0 => .array .int
  | _ => .long
theorem n_RW : ∀ a, a < 2 → ∀ b, b < 2 → a ≠ b → (F_RW a).2.1 ≠ (F_RW b).2.1 := by decide +kernel
theorem t_RW_ok : ∀ k, k < 2 → parseFieldDescriptor (F_RW k).2.2.1 = some (t_RW k) := by decide +kernel
def R_MO : String := "LoadChecksModel"
def F_MO : u_T := fun k => match k with
  | 0 => ("LoadChecksModel", "thrown", "I", false)
  | 1 => ("LoadChecksModel", "day", "I", false)
  | 2 => ("LoadChecksModel", "shift", "I", false)
  | 3 => ("LoadChecksModel", "weight", "[I", true)
  | 4 => ("LoadChecksModel", "least", "[I", true)
  | 5 => ("LoadChecksModel", "stock", "[I", true)
  | 6 => ("LoadChecksModel", "vehicles", "I", false)
  | 7 => ("LoadChecksModel", "kind", "[I", true)
  | 8 => ("LoadChecksModel", "base", "[I", true)
  | 9 => ("LoadChecksModel", "front", "[I", true)
  | 10 => ("LoadChecksModel", "rear", "[I", true)
  | 11 => ("LoadChecksModel", "checked", "[I", true)
  | 12 => ("LoadChecksModel", "places", "[I", true)
  | 13 => ("LoadChecksModel", "broken", "[Z", true)
  | 14 => ("LoadChecksModel", "end", "[I", true)
  | 15 => ("LoadChecksModel", "battery", "[I", true)
  | 16 => ("LoadChecksModel", "count", "[I", true)
  | 17 => ("LoadChecksModel", "needs", "[I", true)
  | 18 => ("LoadChecksModel", "rows", "I", false)
  | _ => ("LoadChecksModel", "told", "[I", true)
def t_MO : Nat → FieldType := fun k => match k with
  | 0 => .int
  | 1 => .int
  | 2 => .int
  | 3 => .array .int
  | 4 => .array .int
  | 5 => .array .int
  | 6 => .int
  | 7 => .array .int
  | 8 => .array .int
  | 9 => .array .int
  | 10 => .array .int
  | 11 => .array .int
  | 12 => .array .int
  | 13 => .array .boolean
  | 14 => .array .int
  | 15 => .array .int
  | 16 => .array .int
  | 17 => .array .int
  | 18 => .int
  | _ => .array .int
theorem n_MO : ∀ a, a < 20 → ∀ b, b < 20 → a ≠ b → (F_MO a).2.1 ≠ (F_MO b).2.1 := by decide +kernel
theorem t_MO_ok : ∀ k, k < 20 → parseFieldDescriptor (F_MO k).2.2.1 = some (t_MO k) := by decide +kernel
abbrev vwCl : List vw_C := [(R_LC, F_LC, 9), (R_VE, F_VE, 13), (R_RW, F_RW, 2), (R_MO, F_MO, 20)]
/-! methods -/
abbrev b_LC_init : ByteArray := prog_1_method_1_code
abbrev y_LC_init : MethodName := ⟨"LoadChecks", "<init>", "()V"⟩
abbrev cw_LC_init : Cond := .code y_LC_init b_LC_init 2 none
abbrev b_LC_vehicle : ByteArray := prog_1_method_2_code
abbrev y_LC_vehicle : MethodName := ⟨"LoadChecks", "vehicle", "(IIII)I"⟩
abbrev cw_LC_vehicle : Cond := .code y_LC_vehicle b_LC_vehicle 6 (some .int)
abbrev b_LC_limits : ByteArray := prog_1_method_3_code
abbrev y_LC_limits : MethodName := ⟨"LoadChecks", "limits", "(III)V"⟩
abbrev cw_LC_limits : Cond := .code y_LC_limits b_LC_limits 5 none
abbrev b_LC_place : ByteArray := prog_1_method_4_code
abbrev y_LC_place : MethodName := ⟨"LoadChecks", "place", "(III)V"⟩
abbrev cw_LC_place : Cond := .code y_LC_place b_LC_place 5 none
abbrev b_LC_item : ByteArray := prog_1_method_5_code
abbrev y_LC_item : MethodName := ⟨"LoadChecks", "item", "(III)V"⟩
abbrev cw_LC_item : Cond := .code y_LC_item b_LC_item 4 none
abbrev b_LC_list : ByteArray := prog_1_method_6_code
abbrev y_LC_list : MethodName := ⟨"LoadChecks", "list", "(IIII)V"⟩
abbrev cw_LC_list : Cond := .code y_LC_list b_LC_list 5 none
abbrev b_LC_stock : ByteArray := prog_1_method_7_code
abbrev y_LC_stock : MethodName := ⟨"LoadChecks", "stock", "(II)I"⟩
abbrev cw_LC_stock : Cond := .code y_LC_stock b_LC_stock 3 (some .int)
abbrev b_LC_put : ByteArray := prog_1_method_8_code
abbrev y_LC_put : MethodName := ⟨"LoadChecks", "put", "(IIII)I"⟩
abbrev cw_LC_put : Cond := .code y_LC_put b_LC_put 7 (some .int)
abbrev b_LC_use : ByteArray := prog_1_method_9_code
abbrev y_LC_use : MethodName := ⟨"LoadChecks", "use", "(IIII)I"⟩
abbrev cw_LC_use : Cond := .code y_LC_use b_LC_use 7 (some .int)
abbrev b_LC_replace : ByteArray := prog_1_method_10_code
abbrev y_LC_replace : MethodName := ⟨"LoadChecks", "replace", "(I)I"⟩
abbrev cw_LC_replace : Cond := .code y_LC_replace b_LC_replace 8 (some .int)
abbrev b_LC_swap : ByteArray := prog_1_method_11_code
abbrev y_LC_swap : MethodName := ⟨"LoadChecks", "swap", "(IIIII)V"⟩
abbrev cw_LC_swap : Cond := .code y_LC_swap b_LC_swap 9 none
abbrev b_LC_ends : ByteArray := prog_1_method_12_code
abbrev y_LC_ends : MethodName := ⟨"LoadChecks", "ends", "(III)V"⟩
abbrev cw_LC_ends : Cond := .code y_LC_ends b_LC_ends 5 none
abbrev b_LC_battery : ByteArray := prog_1_method_13_code
abbrev y_LC_battery : MethodName := ⟨"LoadChecks", "battery", "(III)V"⟩
abbrev cw_LC_battery : Cond := .code y_LC_battery b_LC_battery 5 none
abbrev b_LC_seal : ByteArray := prog_1_method_14_code
abbrev y_LC_seal : MethodName := ⟨"LoadChecks", "seal", "(IIZ)V"⟩
abbrev cw_LC_seal : Cond := .code y_LC_seal b_LC_seal 6 none
abbrev b_LC_check : ByteArray := prog_1_method_15_code
abbrev y_LC_check : MethodName := ⟨"LoadChecks", "check", "(I)V"⟩
abbrev cw_LC_check : Cond := .code y_LC_check b_LC_check 3 none
abbrev b_LC_now : ByteArray := prog_1_method_16_code
abbrev y_LC_now : MethodName := ⟨"LoadChecks", "now", "(II)V"⟩
abbrev cw_LC_now : Cond := .code y_LC_now b_LC_now 4 none
abbrev b_LC_ready : ByteArray := prog_1_method_17_code
abbrev y_LC_ready : MethodName := ⟨"LoadChecks", "ready", "(I)I"⟩
abbrev cw_LC_ready : Cond := .code y_LC_ready b_LC_ready 4 (some .int)
abbrev b_LC_missing : ByteArray := prog_1_method_18_code
abbrev y_LC_missing : MethodName := ⟨"LoadChecks", "missing", "(II)I"⟩
abbrev cw_LC_missing : Cond := .code y_LC_missing b_LC_missing 6 (some .int)
abbrev b_LC_share : ByteArray := prog_1_method_19_code
abbrev y_LC_share : MethodName := ⟨"LoadChecks", "share", "(I)I"⟩
abbrev cw_LC_share : Cond := .code y_LC_share b_LC_share 7 (some .int)
abbrev b_LC_axle : ByteArray := prog_1_method_20_code
abbrev y_LC_axle : MethodName := ⟨"LoadChecks", "axle", "(II)J"⟩
abbrev cw_LC_axle : Cond := .code y_LC_axle b_LC_axle 10 (some .long)
abbrev b_LC_row : ByteArray := prog_1_method_21_code
abbrev y_LC_row : MethodName := ⟨"LoadChecks", "row", "(II)I"⟩
abbrev cw_LC_row : Cond := .code y_LC_row b_LC_row 3 (some .int)
abbrev b_LC_has : ByteArray := prog_1_method_22_code
abbrev y_LC_has : MethodName := ⟨"LoadChecks", "has", "(III)I"⟩
abbrev cw_LC_has : Cond := .code y_LC_has b_LC_has 5 (some .int)
abbrev b_LC_stocked : ByteArray := prog_1_method_23_code
abbrev y_LC_stocked : MethodName := ⟨"LoadChecks", "stocked", "(I)I"⟩
abbrev cw_LC_stocked : Cond := .code y_LC_stocked b_LC_stocked 2 (some .int)
abbrev b_LC_knownVehicle : ByteArray := prog_1_method_24_code
abbrev y_LC_knownVehicle : MethodName := ⟨"LoadChecks", "knownVehicle", "(I)LLoadChecks$Vehicle;"⟩
abbrev cw_LC_knownVehicle : Cond := .code y_LC_knownVehicle b_LC_knownVehicle 2 (some (.object "LoadChecks$Vehicle"))
abbrev b_LC_requireKind : ByteArray := prog_1_method_25_code
abbrev y_LC_requireKind : MethodName := ⟨"LoadChecks", "requireKind", "(I)V"⟩
abbrev cw_LC_requireKind : Cond := .code y_LC_requireKind b_LC_requireKind 1 none
abbrev b_LC_requireCupboard : ByteArray := prog_1_method_26_code
abbrev y_LC_requireCupboard : MethodName := ⟨"LoadChecks", "requireCupboard", "(I)V"⟩
abbrev cw_LC_requireCupboard : Cond := .code y_LC_requireCupboard b_LC_requireCupboard 1 none
abbrev b_LC_requireItem : ByteArray := prog_1_method_27_code
abbrev y_LC_requireItem : MethodName := ⟨"LoadChecks", "requireItem", "(I)V"⟩
abbrev cw_LC_requireItem : Cond := .code y_LC_requireItem b_LC_requireItem 1 none
abbrev b_LC_requireRange : ByteArray := prog_1_method_28_code
abbrev y_LC_requireRange : MethodName := ⟨"LoadChecks", "requireRange", "(III)V"⟩
abbrev cw_LC_requireRange : Cond := .code y_LC_requireRange b_LC_requireRange 3 none
abbrev b_LC_requireLimits : ByteArray := prog_1_method_29_code
abbrev y_LC_requireLimits : MethodName := ⟨"LoadChecks", "requireLimits", "(II)V"⟩
abbrev cw_LC_requireLimits : Cond := .code y_LC_requireLimits b_LC_requireLimits 2 none
abbrev b_LC_requireSoMany : ByteArray := prog_1_method_30_code
abbrev y_LC_requireSoMany : MethodName := ⟨"LoadChecks", "requireSoMany", "(LLoadChecks$Vehicle;II)V"⟩
abbrev cw_LC_requireSoMany : Cond := .code y_LC_requireSoMany b_LC_requireSoMany 3 none
abbrev b_LC_requireBearable : ByteArray := prog_1_method_31_code
abbrev y_LC_requireBearable : MethodName := ⟨"LoadChecks", "requireBearable", "(LLoadChecks$Vehicle;II)V"⟩
abbrev cw_LC_requireBearable : Cond := .code y_LC_requireBearable b_LC_requireBearable 4 none
abbrev b_LC_requireRoom : ByteArray := prog_1_method_32_code
abbrev y_LC_requireRoom : MethodName := ⟨"LoadChecks", "requireRoom", "(LLoadChecks$Vehicle;II)V"⟩
abbrev cw_LC_requireRoom : Cond := .code y_LC_requireRoom b_LC_requireRoom 3 none
abbrev b_LC_cellOf : ByteArray := prog_1_method_33_code
abbrev y_LC_cellOf : MethodName := ⟨"LoadChecks", "cellOf", "(II)I"⟩
abbrev cw_LC_cellOf : Cond := .code y_LC_cellOf b_LC_cellOf 2 (some .int)
abbrev b_LC_isAnywhere : ByteArray := prog_1_method_34_code
abbrev y_LC_isAnywhere : MethodName := ⟨"LoadChecks", "isAnywhere", "(I)Z"⟩
abbrev cw_LC_isAnywhere : Cond := .code y_LC_isAnywhere b_LC_isAnywhere 3 (some .boolean)
abbrev b_LC_commonDivisor : ByteArray := prog_1_method_35_code
abbrev y_LC_commonDivisor : MethodName := ⟨"LoadChecks", "commonDivisor", "(JJ)J"⟩
abbrev cw_LC_commonDivisor : Cond := .code y_LC_commonDivisor b_LC_commonDivisor 11 (some .long)
abbrev b_VE_init : ByteArray := prog_3_method_1_code
abbrev y_VE_init : MethodName := ⟨"LoadChecks$Vehicle", "<init>", "()V"⟩
abbrev cw_VE_init : Cond := .code y_VE_init b_VE_init 1 none
abbrev b_VE_frontMoment : ByteArray := prog_3_method_2_code
abbrev y_VE_frontMoment : MethodName := ⟨"LoadChecks$Vehicle", "frontMoment", "()J"⟩
abbrev cw_VE_frontMoment : Cond := .code y_VE_frontMoment b_VE_frontMoment 1 (some .long)
abbrev b_VE_rearMoment : ByteArray := prog_3_method_3_code
abbrev y_VE_rearMoment : MethodName := ⟨"LoadChecks$Vehicle", "rearMoment", "()J"⟩
abbrev cw_VE_rearMoment : Cond := .code y_VE_rearMoment b_VE_rearMoment 1 (some .long)
abbrev b_VE_isBeyond : ByteArray := prog_3_method_4_code
abbrev y_VE_isBeyond : MethodName := ⟨"LoadChecks$Vehicle", "isBeyond", "()Z"⟩
abbrev cw_VE_isBeyond : Cond := .code y_VE_isBeyond b_VE_isBeyond 1 (some .boolean)
abbrev b_VE_exceeds : ByteArray := prog_3_method_5_code
abbrev y_VE_exceeds : MethodName := ⟨"LoadChecks$Vehicle", "exceeds", "(JI)Z"⟩
abbrev cw_VE_exceeds : Cond := .code y_VE_exceeds b_VE_exceeds 4 (some .boolean)
abbrev b_VE_bears : ByteArray := prog_3_method_6_code
abbrev y_VE_bears : MethodName := ⟨"LoadChecks$Vehicle", "bears", "(III)Z"⟩
abbrev cw_VE_bears : Cond := .code y_VE_bears b_VE_bears 12 (some .boolean)
abbrev b_VE_load : ByteArray := prog_3_method_7_code
abbrev y_VE_load : MethodName := ⟨"LoadChecks$Vehicle", "load", "(III)V"⟩
abbrev cw_VE_load : Cond := .code y_VE_load b_VE_load 6 none
abbrev b_VE_isEmpty : ByteArray := prog_3_method_8_code
abbrev y_VE_isEmpty : MethodName := ⟨"LoadChecks$Vehicle", "isEmpty", "(I)Z"⟩
abbrev cw_VE_isEmpty : Cond := .code y_VE_isEmpty b_VE_isEmpty 3 (some .boolean)
abbrev b_VE_carries : ByteArray := prog_3_method_9_code
abbrev y_VE_carries : MethodName := ⟨"LoadChecks$Vehicle", "carries", "(I)Z"⟩
abbrev cw_VE_carries : Cond := .code y_VE_carries b_VE_carries 3 (some .boolean)
abbrev b_VE_lackOf : ByteArray := prog_3_method_10_code
abbrev y_VE_lackOf : MethodName := ⟨"LoadChecks$Vehicle", "lackOf", "(II)I"⟩
abbrev cw_VE_lackOf : Cond := .code y_VE_lackOf b_VE_lackOf 3 (some .int)
abbrev b_VE_missingCell : ByteArray := prog_3_method_11_code
abbrev y_VE_missingCell : MethodName := ⟨"LoadChecks$Vehicle", "missingCell", "([II)I"⟩
abbrev cw_VE_missingCell : Cond := .code y_VE_missingCell b_VE_missingCell 5 (some .int)
abbrev b_VE_hasBrokenSeal : ByteArray := prog_3_method_12_code
abbrev y_VE_hasBrokenSeal : MethodName := ⟨"LoadChecks$Vehicle", "hasBrokenSeal", "()Z"⟩
abbrev cw_VE_hasBrokenSeal : Cond := .code y_VE_hasBrokenSeal b_VE_hasBrokenSeal 2 (some .boolean)
abbrev b_VE_needsPastItem : ByteArray := prog_3_method_13_code
abbrev y_VE_needsPastItem : MethodName := ⟨"LoadChecks$Vehicle", "needsPastItem", "([II)Z"⟩
abbrev cw_VE_needsPastItem : Cond := .code y_VE_needsPastItem b_VE_needsPastItem 5 (some .boolean)
abbrev b_VE_needsWeakItem : ByteArray := prog_3_method_14_code
abbrev y_VE_needsWeakItem : MethodName := ⟨"LoadChecks$Vehicle", "needsWeakItem", "([I[I)Z"⟩
abbrev cw_VE_needsWeakItem : Cond := .code y_VE_needsWeakItem b_VE_needsWeakItem 5 (some .boolean)
abbrev b_RW_init : ByteArray := prog_2_method_1_code
abbrev y_RW_init : MethodName := ⟨"LoadChecks$Rows", "<init>", "()V"⟩
abbrev cw_RW_init : Cond := .code y_RW_init b_RW_init 1 none
abbrev b_RW_add : ByteArray := prog_2_method_2_code
abbrev y_RW_add : MethodName := ⟨"LoadChecks$Rows", "add", "(III)V"⟩
abbrev cw_RW_add : Cond := .code y_RW_add b_RW_add 5 none
abbrev b_RW_keeps : ByteArray := prog_2_method_3_code
abbrev y_RW_keeps : MethodName := ⟨"LoadChecks$Rows", "keeps", "(I)Z"⟩
abbrev cw_RW_keeps : Cond := .code y_RW_keeps b_RW_keeps 2 (some .boolean)
abbrev b_RW_number : ByteArray := prog_2_method_4_code
abbrev y_RW_number : MethodName := ⟨"LoadChecks$Rows", "number", "(II)I"⟩
abbrev cw_RW_number : Cond := .code y_RW_number b_RW_number 3 (some .int)
abbrev b_MO_init : ByteArray := prog_5_method_1_code
abbrev y_MO_init : MethodName := ⟨"LoadChecksModel", "<init>", "()V"⟩
abbrev cw_MO_init : Cond := .code y_MO_init b_MO_init 1 none
abbrev b_MO_thrown : ByteArray := prog_5_method_2_code
abbrev y_MO_thrown : MethodName := ⟨"LoadChecksModel", "thrown", "()I"⟩
abbrev cw_MO_thrown : Cond := .code y_MO_thrown b_MO_thrown 1 (some .int)
abbrev b_MO_throwing : ByteArray := prog_5_method_3_code
abbrev y_MO_throwing : MethodName := ⟨"LoadChecksModel", "throwing", "(ZZZZ)Z"⟩
abbrev cw_MO_throwing : Cond := .code y_MO_throwing b_MO_throwing 5 (some .boolean)
abbrev b_MO_in : ByteArray := prog_5_method_4_code
abbrev y_MO_in : MethodName := ⟨"LoadChecksModel", "in", "(III)Z"⟩
abbrev cw_MO_in : Cond := .code y_MO_in b_MO_in 3 (some .boolean)
abbrev b_MO_isVehicle : ByteArray := prog_5_method_5_code
abbrev y_MO_isVehicle : MethodName := ⟨"LoadChecksModel", "isVehicle", "(I)Z"⟩
abbrev cw_MO_isVehicle : Cond := .code y_MO_isVehicle b_MO_isVehicle 2 (some .boolean)
abbrev b_MO_isCupboard : ByteArray := prog_5_method_6_code
abbrev y_MO_isCupboard : MethodName := ⟨"LoadChecksModel", "isCupboard", "(I)Z"⟩
abbrev cw_MO_isCupboard : Cond := .code y_MO_isCupboard b_MO_isCupboard 1 (some .boolean)
abbrev b_MO_isItem : ByteArray := prog_5_method_7_code
abbrev y_MO_isItem : MethodName := ⟨"LoadChecksModel", "isItem", "(I)Z"⟩
abbrev cw_MO_isItem : Cond := .code y_MO_isItem b_MO_isItem 1 (some .boolean)
abbrev b_MO_isThing : ByteArray := prog_5_method_8_code
abbrev y_MO_isThing : MethodName := ⟨"LoadChecksModel", "isThing", "(III)Z"⟩
abbrev cw_MO_isThing : Cond := .code y_MO_isThing b_MO_isThing 4 (some .boolean)
abbrev b_MO_isLimit : ByteArray := prog_5_method_9_code
abbrev y_MO_isLimit : MethodName := ⟨"LoadChecksModel", "isLimit", "(I)Z"⟩
abbrev cw_MO_isLimit : Cond := .code y_MO_isLimit b_MO_isLimit 1 (some .boolean)
abbrev b_MO_vehicle : ByteArray := prog_5_method_10_code
abbrev y_MO_vehicle : MethodName := ⟨"LoadChecksModel", "vehicle", "(IIII)I"⟩
abbrev cw_MO_vehicle : Cond := .code y_MO_vehicle b_MO_vehicle 7 (some .int)
abbrev b_MO_limits : ByteArray := prog_5_method_11_code
abbrev y_MO_limits : MethodName := ⟨"LoadChecksModel", "limits", "(III)V"⟩
abbrev cw_MO_limits : Cond := .code y_MO_limits b_MO_limits 4 none
abbrev b_MO_isEmpty : ByteArray := prog_5_method_12_code
abbrev y_MO_isEmpty : MethodName := ⟨"LoadChecksModel", "isEmpty", "(II)Z"⟩
abbrev cw_MO_isEmpty : Cond := .code y_MO_isEmpty b_MO_isEmpty 5 (some .boolean)
abbrev b_MO_place : ByteArray := prog_5_method_13_code
abbrev y_MO_place : MethodName := ⟨"LoadChecksModel", "place", "(III)V"⟩
abbrev cw_MO_place : Cond := .code y_MO_place b_MO_place 5 none
abbrev b_MO_isSomewhere : ByteArray := prog_5_method_14_code
abbrev y_MO_isSomewhere : MethodName := ⟨"LoadChecksModel", "isSomewhere", "(I)Z"⟩
abbrev cw_MO_isSomewhere : Cond := .code y_MO_isSomewhere b_MO_isSomewhere 4 (some .boolean)
abbrev b_MO_item : ByteArray := prog_5_method_15_code
abbrev y_MO_item : MethodName := ⟨"LoadChecksModel", "item", "(III)V"⟩
abbrev cw_MO_item : Cond := .code y_MO_item b_MO_item 6 none
abbrev b_MO_list : ByteArray := prog_5_method_16_code
abbrev y_MO_list : MethodName := ⟨"LoadChecksModel", "list", "(IIII)V"⟩
abbrev cw_MO_list : Cond := .code y_MO_list b_MO_list 5 none
abbrev b_MO_stock : ByteArray := prog_5_method_17_code
abbrev y_MO_stock : MethodName := ⟨"LoadChecksModel", "stock", "(II)I"⟩
abbrev cw_MO_stock : Cond := .code y_MO_stock b_MO_stock 5 (some .int)
abbrev b_MO_sumOf : ByteArray := prog_5_method_18_code
abbrev y_MO_sumOf : MethodName := ⟨"LoadChecksModel", "sumOf", "(I)J"⟩
abbrev cw_MO_sumOf : Cond := .code y_MO_sumOf b_MO_sumOf 5 (some .long)
abbrev b_MO_momentOf : ByteArray := prog_5_method_19_code
abbrev y_MO_momentOf : MethodName := ⟨"LoadChecksModel", "momentOf", "(I)J"⟩
abbrev cw_MO_momentOf : Cond := .code y_MO_momentOf b_MO_momentOf 5 (some .long)
abbrev b_MO_bears : ByteArray := prog_5_method_20_code
abbrev y_MO_bears : MethodName := ⟨"LoadChecksModel", "bears", "(IZ)J"⟩
abbrev cw_MO_bears : Cond := .code y_MO_bears b_MO_bears 3 (some .long)
abbrev b_MO_isBeyond : ByteArray := prog_5_method_21_code
abbrev y_MO_isBeyond : MethodName := ⟨"LoadChecksModel", "isBeyond", "(IZ)Z"⟩
abbrev cw_MO_isBeyond : Cond := .code y_MO_isBeyond b_MO_isBeyond 3 (some .boolean)
abbrev b_MO_isTooMuch : ByteArray := prog_5_method_22_code
abbrev y_MO_isTooMuch : MethodName := ⟨"LoadChecksModel", "isTooMuch", "(IIII)Z"⟩
abbrev cw_MO_isTooMuch : Cond := .code y_MO_isTooMuch b_MO_isTooMuch 10 (some .boolean)
abbrev b_MO_put : ByteArray := prog_5_method_23_code
abbrev y_MO_put : MethodName := ⟨"LoadChecksModel", "put", "(IIII)I"⟩
abbrev cw_MO_put : Cond := .code y_MO_put b_MO_put 8 (some .int)
abbrev b_MO_use : ByteArray := prog_5_method_24_code
abbrev y_MO_use : MethodName := ⟨"LoadChecksModel", "use", "(IIII)I"⟩
abbrev cw_MO_use : Cond := .code y_MO_use b_MO_use 6 (some .int)
abbrev b_MO_missingOf : ByteArray := prog_5_method_25_code
abbrev y_MO_missingOf : MethodName := ⟨"LoadChecksModel", "missingOf", "(II)I"⟩
abbrev cw_MO_missingOf : Cond := .code y_MO_missingOf b_MO_missingOf 4 (some .int)
abbrev b_MO_replace : ByteArray := prog_5_method_26_code
abbrev y_MO_replace : MethodName := ⟨"LoadChecksModel", "replace", "(I)I"⟩
abbrev cw_MO_replace : Cond := .code y_MO_replace b_MO_replace 6 (some .int)
abbrev b_MO_tell : ByteArray := prog_5_method_27_code
abbrev y_MO_tell : MethodName := ⟨"LoadChecksModel", "tell", "(III)V"⟩
abbrev cw_MO_tell : Cond := .code y_MO_tell b_MO_tell 5 none
abbrev b_MO_swap : ByteArray := prog_5_method_28_code
abbrev y_MO_swap : MethodName := ⟨"LoadChecksModel", "swap", "(IIIII)V"⟩
abbrev cw_MO_swap : Cond := .code y_MO_swap b_MO_swap 9 none
abbrev b_MO_ends : ByteArray := prog_5_method_29_code
abbrev y_MO_ends : MethodName := ⟨"LoadChecksModel", "ends", "(III)V"⟩
abbrev cw_MO_ends : Cond := .code y_MO_ends b_MO_ends 4 none
abbrev b_MO_battery : ByteArray := prog_5_method_30_code
abbrev y_MO_battery : MethodName := ⟨"LoadChecksModel", "battery", "(III)V"⟩
abbrev cw_MO_battery : Cond := .code y_MO_battery b_MO_battery 4 none
abbrev b_MO_seal : ByteArray := prog_5_method_31_code
abbrev y_MO_seal : MethodName := ⟨"LoadChecksModel", "seal", "(IIZ)V"⟩
abbrev cw_MO_seal : Cond := .code y_MO_seal b_MO_seal 5 none
abbrev b_MO_check : ByteArray := prog_5_method_32_code
abbrev y_MO_check : MethodName := ⟨"LoadChecksModel", "check", "(I)V"⟩
abbrev cw_MO_check : Cond := .code y_MO_check b_MO_check 2 none
abbrev b_MO_now : ByteArray := prog_5_method_33_code
abbrev y_MO_now : MethodName := ⟨"LoadChecksModel", "now", "(II)V"⟩
abbrev cw_MO_now : Cond := .code y_MO_now b_MO_now 4 none
abbrev b_MO_isNeeded : ByteArray := prog_5_method_34_code
abbrev y_MO_isNeeded : MethodName := ⟨"LoadChecksModel", "isNeeded", "(II)Z"⟩
abbrev cw_MO_isNeeded : Cond := .code y_MO_isNeeded b_MO_isNeeded 5 (some .boolean)
abbrev b_MO_ready : ByteArray := prog_5_method_35_code
abbrev y_MO_ready : MethodName := ⟨"LoadChecksModel", "ready", "(I)I"⟩
abbrev cw_MO_ready : Cond := .code y_MO_ready b_MO_ready 3 (some .int)
abbrev b_MO_missing : ByteArray := prog_5_method_36_code
abbrev y_MO_missing : MethodName := ⟨"LoadChecksModel", "missing", "(II)I"⟩
abbrev cw_MO_missing : Cond := .code y_MO_missing b_MO_missing 5 (some .int)
abbrev b_MO_share : ByteArray := prog_5_method_37_code
abbrev y_MO_share : MethodName := ⟨"LoadChecksModel", "share", "(I)I"⟩
abbrev cw_MO_share : Cond := .code y_MO_share b_MO_share 6 (some .int)
abbrev b_MO_axle : ByteArray := prog_5_method_38_code
abbrev y_MO_axle : MethodName := ⟨"LoadChecksModel", "axle", "(II)J"⟩
abbrev cw_MO_axle : Cond := .code y_MO_axle b_MO_axle 11 (some .long)
abbrev b_MO_row : ByteArray := prog_5_method_39_code
abbrev y_MO_row : MethodName := ⟨"LoadChecksModel", "row", "(II)I"⟩
abbrev cw_MO_row : Cond := .code y_MO_row b_MO_row 4 (some .int)
abbrev b_MO_has : ByteArray := prog_5_method_40_code
abbrev y_MO_has : MethodName := ⟨"LoadChecksModel", "has", "(III)I"⟩
abbrev cw_MO_has : Cond := .code y_MO_has b_MO_has 4 (some .int)
abbrev b_MO_stocked : ByteArray := prog_5_method_41_code
abbrev y_MO_stocked : MethodName := ⟨"LoadChecksModel", "stocked", "(I)I"⟩
abbrev cw_MO_stocked : Cond := .code y_MO_stocked b_MO_stocked 2 (some .int)
abbrev b_LW_vehicle : ByteArray := method_3_code
abbrev y_LW_vehicle : MethodName := ⟨"LoadChecksLaw", "vehicle", "(LLoadChecks;IIII[J)I"⟩
abbrev cw_LW_vehicle : Cond := .codeWith y_LW_vehicle b_LW_vehicle 7 (some .int) [(0, 14, 17, 13), (0, 14, 21, 15), (0, 14, 25, 17)]
abbrev b_LW_limits : ByteArray := method_4_code
abbrev y_LW_limits : MethodName := ⟨"LoadChecksLaw", "limits", "(LLoadChecks;III)I"⟩
abbrev cw_LW_limits : Cond := .codeWith y_LW_limits b_LW_limits 5 (some .int) [(0, 7, 10, 13), (0, 7, 14, 15)]
abbrev b_LW_place : ByteArray := method_5_code
abbrev y_LW_place : MethodName := ⟨"LoadChecksLaw", "place", "(LLoadChecks;III)I"⟩
abbrev cw_LW_place : Cond := .codeWith y_LW_place b_LW_place 5 (some .int) [(0, 7, 10, 13), (0, 7, 14, 15), (0, 7, 18, 26)]
abbrev b_LW_item : ByteArray := method_6_code
abbrev y_LW_item : MethodName := ⟨"LoadChecksLaw", "item", "(LLoadChecks;III)I"⟩
abbrev cw_LW_item : Cond := .codeWith y_LW_item b_LW_item 5 (some .int) [(0, 7, 10, 13), (0, 7, 14, 15), (0, 7, 18, 26)]
abbrev b_LW_list : ByteArray := method_7_code
abbrev y_LW_list : MethodName := ⟨"LoadChecksLaw", "list", "(LLoadChecks;IIII)I"⟩
abbrev cw_LW_list : Cond := .codeWith y_LW_list b_LW_list 6 (some .int) [(0, 9, 12, 13), (0, 9, 16, 15)]
abbrev b_LW_stock : ByteArray := method_8_code
abbrev y_LW_stock : MethodName := ⟨"LoadChecksLaw", "stock", "(LLoadChecks;II[J)I"⟩
abbrev cw_LW_stock : Cond := .codeWith y_LW_stock b_LW_stock 5 (some .int) [(0, 10, 13, 13), (0, 10, 17, 15), (0, 10, 21, 17)]
abbrev b_LW_put : ByteArray := method_9_code
abbrev y_LW_put : MethodName := ⟨"LoadChecksLaw", "put", "(LLoadChecks;IIII[J)I"⟩
abbrev cw_LW_put : Cond := .codeWith y_LW_put b_LW_put 7 (some .int) [(0, 14, 17, 13), (0, 14, 21, 15), (0, 14, 25, 26), (0, 14, 29, 17)]
abbrev b_LW_use : ByteArray := method_10_code
abbrev y_LW_use : MethodName := ⟨"LoadChecksLaw", "use", "(LLoadChecks;IIII[J)I"⟩
abbrev cw_LW_use : Cond := .codeWith y_LW_use b_LW_use 7 (some .int) [(0, 14, 17, 13), (0, 14, 21, 15), (0, 14, 25, 26)]
abbrev b_LW_replace : ByteArray := method_11_code
abbrev y_LW_replace : MethodName := ⟨"LoadChecksLaw", "replace", "(LLoadChecks;I[J)I"⟩
abbrev cw_LW_replace : Cond := .codeWith y_LW_replace b_LW_replace 4 (some .int) [(0, 9, 12, 13)]
abbrev b_LW_swap : ByteArray := method_12_code
abbrev y_LW_swap : MethodName := ⟨"LoadChecksLaw", "swap", "(LLoadChecks;IIIII)I"⟩
abbrev cw_LW_swap : Cond := .codeWith y_LW_swap b_LW_swap 7 (some .int) [(0, 11, 14, 13), (0, 11, 18, 15), (0, 11, 22, 26), (0, 11, 26, 17)]
abbrev b_LW_ends : ByteArray := method_13_code
abbrev y_LW_ends : MethodName := ⟨"LoadChecksLaw", "ends", "(LLoadChecks;III)I"⟩
abbrev cw_LW_ends : Cond := .codeWith y_LW_ends b_LW_ends 5 (some .int) [(0, 7, 10, 13), (0, 7, 14, 15)]
abbrev b_LW_battery : ByteArray := method_14_code
abbrev y_LW_battery : MethodName := ⟨"LoadChecksLaw", "battery", "(LLoadChecks;III)I"⟩
abbrev cw_LW_battery : Cond := .codeWith y_LW_battery b_LW_battery 5 (some .int) [(0, 7, 10, 13), (0, 7, 14, 15)]
abbrev b_LW_seal : ByteArray := method_15_code
abbrev y_LW_seal : MethodName := ⟨"LoadChecksLaw", "seal", "(LLoadChecks;IIZ)I"⟩
abbrev cw_LW_seal : Cond := .codeWith y_LW_seal b_LW_seal 5 (some .int) [(0, 7, 10, 13), (0, 7, 14, 26)]
abbrev b_LW_check : ByteArray := method_16_code
abbrev y_LW_check : MethodName := ⟨"LoadChecksLaw", "check", "(LLoadChecks;I)I"⟩
abbrev cw_LW_check : Cond := .codeWith y_LW_check b_LW_check 3 (some .int) [(0, 5, 8, 13)]
abbrev b_LW_now : ByteArray := method_17_code
abbrev y_LW_now : MethodName := ⟨"LoadChecksLaw", "now", "(LLoadChecks;II)I"⟩
abbrev cw_LW_now : Cond := .codeWith y_LW_now b_LW_now 4 (some .int) [(0, 6, 9, 15)]
abbrev b_LW_ready : ByteArray := method_18_code
abbrev y_LW_ready : MethodName := ⟨"LoadChecksLaw", "ready", "(LLoadChecks;I[J)I"⟩
abbrev cw_LW_ready : Cond := .codeWith y_LW_ready b_LW_ready 4 (some .int) [(0, 9, 12, 13)]
abbrev b_LW_missing : ByteArray := method_19_code
abbrev y_LW_missing : MethodName := ⟨"LoadChecksLaw", "missing", "(LLoadChecks;II[J)I"⟩
abbrev cw_LW_missing : Cond := .codeWith y_LW_missing b_LW_missing 5 (some .int) [(0, 10, 13, 13), (0, 10, 17, 15)]
abbrev b_LW_share : ByteArray := method_20_code
abbrev y_LW_share : MethodName := ⟨"LoadChecksLaw", "share", "(LLoadChecks;I[J)I"⟩
abbrev cw_LW_share : Cond := .codeWith y_LW_share b_LW_share 4 (some .int) [(0, 9, 12, 13), (0, 9, 15, 80)]
abbrev b_LW_axle : ByteArray := method_21_code
abbrev y_LW_axle : MethodName := ⟨"LoadChecksLaw", "axle", "(LLoadChecks;II[J)I"⟩
abbrev cw_LW_axle : Cond := .codeWith y_LW_axle b_LW_axle 5 (some .int) [(0, 9, 12, 13)]
abbrev b_LW_row : ByteArray := method_22_code
abbrev y_LW_row : MethodName := ⟨"LoadChecksLaw", "row", "(LLoadChecks;II[J)I"⟩
abbrev cw_LW_row : Cond := .codeWith y_LW_row b_LW_row 5 (some .int) [(0, 10, 13, 13)]
abbrev b_LW_has : ByteArray := method_23_code
abbrev y_LW_has : MethodName := ⟨"LoadChecksLaw", "has", "(LLoadChecks;III[J)I"⟩
abbrev cw_LW_has : Cond := .codeWith y_LW_has b_LW_has 6 (some .int) [(0, 12, 15, 13)]
abbrev b_LW_stocked : ByteArray := method_24_code
abbrev y_LW_stocked : MethodName := ⟨"LoadChecksLaw", "stocked", "(LLoadChecks;I[J)I"⟩
abbrev cw_LW_stocked : Cond := .codeWith y_LW_stocked b_LW_stocked 4 (some .int) [(0, 9, 12, 13)]
abbrev b_AR_fill : ByteArray := prog_16_method_103_code
abbrev y_AR_fill : MethodName := ⟨"java/util/Arrays", "fill", "([II)V"⟩
abbrev cw_AR_fill : Cond := .code y_AR_fill b_AR_fill 4 none
end
section
/-! contracts of methods that may throw -/
def XMet (l : Launch) (y : MethodName) (ws : List Cond) (rm : Room) (Pc : Array Value → State → Prop) (Qc : Array Value → State → Outcome → State → Prop) (mc ms : Nat) (free : Addr → Prop) : Prop :=
  MetFree l y (headSpec ws rm) Pc (fun _ _ _ _ _ => True) (fun a st o t => Qc a st o t ∧ ∃ L, (st.WarmedH t.vm ∧ st.sameButNew ({ t with vm := st.vm } : State) L mc ms) ∧ ∀ q ∈ L, free q.base)
def XMQ (below : List Frame) (Qc : Array Value → State → Outcome → State → Prop) (a : Array Value) (s : State) (mc ms : Nat) (free : Addr → Prop) : State → Prop := fun t =>
  ∃ o, t.status = .running ∧ Ended t below o ∧ Qc a s o t ∧ ∃ L, (s.WarmedH t.vm ∧ s.sameButNew ({ t with vm := s.vm } : State) L mc ms) ∧ ∀ q ∈ L, free q.base
def XPost (Qc : Array Value → State → Outcome → State → Prop) (mc ms : Nat) (free : Addr → Prop) : Pt → Array Value → Outcome → Pt → Prop := fun A a o B =>
  ∃ (g : JFrame) (mk : MethodId) (t : State) (L : List Loc), B.U.heap = t.heap ∧ B.U.vm = t.vm ∧ Qc a (A.U.calling g mk a) o t ∧ B.locs = A.locs ++ L ∧ (∀ q ∈ L, free q.base) ∧ B.cells = A.cells + mc ∧ B.slots = A.slots + ms
def XBack (l : Launch) (R : Room) (p : Program) (e : Env) (below : List Frame) (s : State) (sargs : Array Value) (y : MethodName) (len W : Nat)
    (Pre : Pt → Array Value → Prop) (Post : Pt → Array Value → Outcome → Pt → Prop) : Prop :=
  ∀ (m : MethodId) (meth : Method) (c : Code) (A : Pt) (g : JFrame) (ig : Instr) (mk : MethodId) (a : Array Value),
    Stand p l e R s m sargs below meth c A.U A.locs A.cells A.slots → g.method = m → g.locals.size = c.maxLocals → decode c.code g.pc = .ok (ig, len) →
    2 * g.monitorRoom + (g.stack.map fun v => v.category).sum ≤ W → A.U.methodNamed? y = some mk → Pre A a →
    ∃ (o : Outcome) (B : Pt), Stand p l e R s m sargs below meth c B.U B.locs B.cells B.slots ∧ Post A a o B ∧
      (∀ v, o = .returned v → Steps p.tables e below (doInvoke e (A.U.setTop g) [] mk a).1 (B.U.setTop { g with pc := g.pc + len, stack := v.toList ++ g.stack })) ∧
      (∀ x, o = .threw x → Steps p.tables e below (doInvoke e (A.U.setTop g) [] mk a).1 ((B.U.setTop g).pushFrame (.throwing x)))
section XK1
variable {l : Launch} {R : Room} {p : Program} {e : Env} {below : List Frame} {s : State} {sargs : Array Value} {y : MethodName} {len W : Nat}
theorem x_back {ws : List Cond} {rm : Room} {Pc : Array Value → State → Prop} {Qc : Array Value → State → Outcome → State → Prop} {mc ms : Nat} {free : Addr → Prop} {maxL : Nat}
    (hM : XMet l y ws rm Pc Qc mc ms free) (hblind : FrameBlind Pc) (hrc : rm.cells = mc) (hrs : rm.slots = ms)
    (hframes : rm.frames + 1 ≤ R.frames) (hlocals : W + (maxL + 11) + rm.locals ≤ R.locals)
    (hws : ∀ w ∈ ws, ∀ (a' : Array Value) (U : State), s.WarmedH U.vm → w.before a' U = true)
    (hcd : ∀ (U : State) (mk : MethodId), s.WarmedH U.vm → U.methodNamed? y = some mk → ∃ methY cY, U.vm.method? mk = some methY ∧ methY.code = some cY ∧ cY.maxLocals = maxL)
    (hinit : ∀ (a' : Array Value) (U : State), s.WarmedH U.vm → (Cond.initialized y.cls).before a' U = true) :
    XBack l R p e below s sargs y len W (PreOf R mc ms Pc) (XPost Qc mc ms free) := by
  intro m meth c A g ig mk a X hg hsize hdg hW hn hp
  obtain ⟨U, Ls, c0, s0⟩ := A
  dsimp only [Pt.U, Pt.locs, Pt.cells, Pt.slots] at X hn hp ⊢
  obtain ⟨hp1, hp2, hp3⟩ := hp
  dsimp only [Pt.U, Pt.locs, Pt.cells, Pt.slots] at hp1 hp2 hp3
  obtain ⟨methY, cY, hmY, hcY, hlY⟩ := hcd U mk X.warmed hn
  obtain ⟨kY, hkY, -⟩ := className_of_methodNamed hn
  have hinitY : kY.init = .initialized := Cond.initialized_spec (findClass_of_methodNamed hn) hkY (hinit a U X.warmed)
  have h : At U g.method c below := by rw [hg]; exact X.here
  have happ : (headSpec ws rm).appliesLoose y e.platform (U.calling g mk a) = true :=
    Spec.appliesLoose_calling (g := g) h hdg hn hkY hinitY
      (X.room_calling (g := g) (R' := rm) hsize hmY hcY hframes (by rw [hlY]; omega) (by rw [hrc]; exact hp1) (by rw [hrs]; exact hp2)) (atoms_intro fun w hw => hws w hw _ _ X.warmed)
  obtain ⟨mid, hmid⟩ := h.above
  have hfr : (U.setTop g).frames = (.java g :: mid) ++ below := by rw [State.frames_setTop' g h.top, hmid]; rfl
  obtain ⟨o, s₂, hsteps, -, hend, hq⟩ := Steps.callFree hM p X.admits X.cas X.clock (acts := []) hfr happ (hblind _ _ _ _ hp3) trivial
  have hq' : Qc a (U.calling g mk a) o s₂ ∧ ∃ L, ((U.calling g mk a).WarmedH s₂.vm ∧ (U.calling g mk a).sameButNew ({ s₂ with vm := (U.calling g mk a).vm } : State) L mc ms) ∧ ∀ q ∈ L, free q.base := hq
  rw [State.frames_setTop' g h.top] at hend
  obtain ⟨hQ, L, ⟨hW₂, hsm⟩, hL⟩ := hq'
  cases o with
  | threw x =>
    rw [X.tail] at hend
    obtain ⟨T', X', -, -, ht⟩ := X.outOfThrown hg hend hW₂ hsm
    refine ⟨.threw x, ⟨T', Ls ++ L, c0 + mc, s0 + ms⟩, X', ⟨g, mk, s₂, L, ?_, ?_, hQ, rfl, hL, rfl, rfl⟩, (fun v hv => by cases hv), fun x' hx' => ?_⟩
    · show T'.heap = s₂.heap
      rw [ht, Stand.throwing_heap]
    · show T'.vm = s₂.vm
      rw [ht, Stand.throwing_vm]
    · cases hx'
      show Steps p.tables e below _ ((T'.setTop g).pushFrame (.throwing x))
      rw [← ht]
      exact hsteps
  | returned v =>
    obtain ⟨e2, q2, q3, q4, q5, q6⟩ := id hsm
    have e3 : s₂ = ({ (U.calling g mk a).setFrames s₂.frames with heap := s₂.heap, slotsUsed := s₂.slotsUsed } : State).setVm s₂.vm := by
      have : s₂ = ({ s₂ with vm := (U.calling g mk a).vm } : State).setVm s₂.vm := rfl
      rw [e2] at this
      exact this
    obtain ⟨c₂, i₂, len₂, hc₂, hd₂, hf₂⟩ := hend
    have hW' : U.WarmedH s₂.vm := hW₂
    have hcc : c₂ = c := by
      have h1 : s₂.code? g.method = U.code? g.method := by
        rw [State.code?_eq, State.code?_eq, hW'.alike.method?]
      exact Option.some.inj (hc₂.symm.trans (h1.trans h.code))
    subst hcc
    have hlen : len₂ = len := by rw [hdg] at hd₂; cases hd₂; rfl
    subst hlen
    obtain ⟨g₀, hg0⟩ := Option.isSome_iff_exists.mp h.top
    obtain ⟨r, hr⟩ := State.topJava?_eq_some.mp hg0
    have hs₂ : s₂ = (({ U with heap := s₂.heap, slotsUsed := s₂.slotsUsed } : State).setVm s₂.vm).setTop { g with pc := g.pc + len₂, stack := v.toList ++ g.stack } := by
      have hr' : (({ U with heap := s₂.heap, slotsUsed := s₂.slotsUsed } : State).setVm s₂.vm).frames = .java g₀ :: r := hr
      refine e3.trans ?_
      rw [hf₂, State.calling_eq h.top, State.setFrames_setFrames, State.setTop_of_frames _ hr', hr]
      rfl
    have hsame : U.sameButNew ({ U with heap := s₂.heap, slotsUsed := s₂.slotsUsed } : State) L mc ms := by
      refine ⟨?_, q2, q3, q4, q5, q6⟩
      obtain ⟨t, ht, -⟩ := State.frames_cons hr
      show ({ U with heap := s₂.heap, slotsUsed := s₂.slotsUsed } : State) = { U.setFrames U.frames with heap := s₂.heap, slotsUsed := s₂.slotsUsed }
      rw [State.setFrames_self ht]
    subst hg
    refine ⟨.returned v, ⟨(({ U with heap := s₂.heap, slotsUsed := s₂.slotsUsed } : State).setVm s₂.vm), Ls ++ L, c0 + mc, s0 + ms⟩,
      ⟨X.admits, X.cas, X.clock, X.frames, X.room, X.hears, X.method, X.code, (X.here.setHeapUsed s₂.heap s₂.slotsUsed).setVm hW'.alike, X.tail, State.WarmedH.trans X.warmed hW', X.limits, X.bytes, X.same.trans (hsame.setVm s.vm)⟩,
      ⟨g, mk, s₂, L, rfl, rfl, hQ, rfl, hL, rfl, rfl⟩, fun v' hv' => ?_, (fun x hx => by cases hx)⟩
    cases hv'
    show Steps p.tables e below _ ((({ U with heap := s₂.heap, slotsUsed := s₂.slotsUsed } : State).setVm s₂.vm).setTop { g with pc := g.pc + len₂, stack := v.toList ++ g.stack })
    rw [← hs₂]
    exact hsteps
end XK1
/-- what a call's instruction does ahead of the callee: the entry is linked, the operands are taken off -/
def XInv (p : Program) (l : Launch) (e : Env) (R : Room) (s : State) (m : MethodId) (args : Array Value) (below : List Frame) (meth : Method) (c : Code) (H : Heap) (locs : List Loc) (cells slots : Nat) (g : JFrame) (rest : List Value) (y : MethodName) (av : List Value) : Prop :=
  ∀ T : State, T.heap = H → Stand p l e R s m args below meth c T locs cells slots → ∃ (mk : MethodId) (vm₁ : Vm), s.WarmedH vm₁ ∧ Stand p l e R s m args below meth c (T.setVm vm₁) locs cells slots ∧ s.methodNamed? y = some mk ∧
    ∀ target, (∀ acts, Steps p.tables e below (doInvoke e ((T.setVm vm₁).setTop { g with stack := rest }) acts mk av.toArray).1 target) → Steps p.tables e below (T.setTop g) target
def XCode (y : MethodName) (maxL : Nat) (U : State) : Prop := ∃ mk methY cY, U.methodNamed? y = some mk ∧ U.vm.method? mk = some methY ∧ methY.code = some cY ∧ cY.maxLocals = maxL ∧ parseMethodDescriptor y.desc = some methY.sig
theorem x_code {y : MethodName} {bytes : ByteArray} {maxL : Nat} {ret : Option FieldType} {a : Array Value} {U : State} (h : (Cond.code y bytes maxL ret).before a U = true) : XCode y maxL U := by
  obtain ⟨mk, hn⟩ := Cond.code_named h
  obtain ⟨meth, c, h1, h2, -, h4, -, -, -, h8⟩ := Cond.code_spec hn h
  exact ⟨mk, meth, c, hn, h1, h2, h4, h8⟩
theorem x_codeW {y : MethodName} {bytes : ByteArray} {maxL : Nat} {ret : Option FieldType} {hh : List (Nat × Nat × Nat × Nat)} {a : Array Value} {U : State} (h : (Cond.codeWith y bytes maxL ret hh).before a U = true) : XCode y maxL U := by
  obtain ⟨mk, meth, c, hn, h1, h2, -, h4, -, -, -, h8⟩ := Cond.codeWith_spec h
  exact ⟨mk, meth, c, hn, h1, h2, h4, h8⟩
section XK2
variable {p : Program} {l : Launch} {e : Env} {R : Room} {s : State} {m : MethodId} {args : Array Value} {below : List Frame} {meth : Method} {c : Code} {H : Heap} {locs : List Loc} {cells slots : Nat} {Q : State → Prop}
variable {cc : ByteArray} {own C host : String} {index maxL : Nat} {y : MethodName} {b : Addr} {argsL rest : List Value} {g : JFrame}
theorem x_invV (hexec : p.tables.exec = Jvm.exec) (hb : c.code = cc) (hown : s.vm.findClass own = some m.cls) (hlink : (Cond.methodLink own index y).before args s = true) (hinst : (Cond.instanceMethod y).before args s = true) (hsel : (Cond.selects C y y).before args s = true)
    (hcode : XCode y maxL s) (hy : y.cls ≠ "java/lang/invoke/MethodHandle" ∧ y.cls ≠ "java/lang/invoke/VarHandle")
    {cellB : Cell} (hcell : H[b]? = some cellB) (hobj : cellB.vm.isStatics = false) (hcls : s.vm.findClass C = some cellB.cls)
    (hg : g.method = m) (hlen : (parseMethodDescriptor y.desc).map (fun d => d.parameters.length) = some argsL.length)
    (hstack : g.stack = argsL.reverse ++ .ref b :: rest) (hdg : decode cc g.pc = .ok (.invokevirtual index, 3)) :
    XInv p l e R s m args below meth c H locs cells slots g rest y (.ref b :: argsL) := by
  intro T hT X
  subst hb
  obtain ⟨mk, methM, hnamed, hmethM, hstM, habM⟩ := Cond.instanceMethod_spec hinst
  obtain ⟨mk', methM', cM, hn', hmethM', -, -, hsigM⟩ := hcode
  cases hnamed.symm.trans hn'
  cases hmethM.symm.trans hmethM'
  obtain ⟨c2, r2, m2, q1, q2, q3, q4, kP, hkP, hkPi⟩ := Cond.selects_spec hsel
  cases hcls.symm.trans q1
  cases (State.methodFound?_of_named hnamed hy).symm.trans q2
  cases hnamed.symm.trans q3
  have hselP : selectMethod e.platform s.vm cellB.cls mk = .method mk := by rw [Launch.admits_selectMethod X.admits]; exact q4
  rw [hsigM] at hlen
  obtain ⟨vm₁, X₁, hstep₁⟩ := X.invokevirtual hexec hown hlink hnamed hmethM hstM hkP hkPi hy (a := b) (cell := cellB) (by rw [hT]; exact hcell)
    (fun z h => by rw [h] at hobj; cases hobj) hselP hmethM habM hkP hkPi (g := g) hg (argsL := argsL) (rest := rest) (Option.some.inj hlen).symm hstack hdg
  exact ⟨mk, vm₁, X₁.warmed, X₁, hnamed, hstep₁⟩
theorem x_invVN (hexec : p.tables.exec = Jvm.exec) (hb : c.code = cc) (hown : s.vm.findClass own = some m.cls) (hlink : (Cond.methodLinkNest own index y host).before args s = true) (hinst : (Cond.instanceMethod y).before args s = true) (hsel : (Cond.selects C y y).before args s = true)
    (hcode : XCode y maxL s) (hy : y.cls ≠ "java/lang/invoke/MethodHandle" ∧ y.cls ≠ "java/lang/invoke/VarHandle")
    {cellB : Cell} (hcell : H[b]? = some cellB) (hobj : cellB.vm.isStatics = false) (hcls : s.vm.findClass C = some cellB.cls)
    (hg : g.method = m) (hlen : (parseMethodDescriptor y.desc).map (fun d => d.parameters.length) = some argsL.length)
    (hstack : g.stack = argsL.reverse ++ .ref b :: rest) (hdg : decode cc g.pc = .ok (.invokevirtual index, 3)) :
    XInv p l e R s m args below meth c H locs cells slots g rest y (.ref b :: argsL) := by
  intro T hT X
  subst hb
  obtain ⟨mk, methM, hnamed, hmethM, hstM, habM⟩ := Cond.instanceMethod_spec hinst
  obtain ⟨mk', methM', cM, hn', hmethM', -, -, hsigM⟩ := hcode
  cases hnamed.symm.trans hn'
  cases hmethM.symm.trans hmethM'
  obtain ⟨c2, r2, m2, q1, q2, q3, q4, kP, hkP, hkPi⟩ := Cond.selects_spec hsel
  cases hcls.symm.trans q1
  cases (State.methodFound?_of_named hnamed hy).symm.trans q2
  cases hnamed.symm.trans q3
  have hselP : selectMethod e.platform s.vm cellB.cls mk = .method mk := by rw [Launch.admits_selectMethod X.admits]; exact q4
  rw [hsigM] at hlen
  obtain ⟨vm₁, X₁, hstep₁⟩ := X.invokevirtualNest hexec hown hlink hnamed hmethM hstM hkP hkPi hy (a := b) (cell := cellB) (by rw [hT]; exact hcell)
    (fun z h => by rw [h] at hobj; cases hobj) hselP hmethM habM hkP hkPi (g := g) hg (argsL := argsL) (rest := rest) (Option.some.inj hlen).symm hstack hdg
  exact ⟨mk, vm₁, X₁.warmed, X₁, hnamed, hstep₁⟩
theorem x_invS (hexec : p.tables.exec = Jvm.exec) (hb : c.code = cc) (hown : s.vm.findClass own = some m.cls) (hlink : (Cond.methodLink own index y).before args s = true) (hstat : (Cond.static y).before args s = true) (hinit : (Cond.initialized y.cls).before args s = true)
    (hcode : XCode y maxL s) (hy : y.cls ≠ "java/lang/invoke/MethodHandle" ∧ y.cls ≠ "java/lang/invoke/VarHandle")
    (hg : g.method = m) (hlen : (parseMethodDescriptor y.desc).map (fun d => d.parameters.length) = some argsL.length)
    (hstack : g.stack = argsL.reverse ++ rest) (hdg : decode cc g.pc = .ok (.invokestatic index, 3)) :
    XInv p l e R s m args below meth c H locs cells slots g rest y argsL := by
  intro T hT X
  subst hb
  obtain ⟨mk, methM, cM, hnamed, hmethM, -, -, hsigM⟩ := hcode
  have hstatic : methM.isStatic = true := Cond.static_spec hnamed hmethM hstat
  obtain ⟨kP, hkP, -⟩ := className_of_methodNamed hnamed
  have hinitP : kP.init = .initialized := Cond.initialized_spec (findClass_of_methodNamed hnamed) hkP hinit
  rw [hsigM] at hlen
  obtain ⟨vm₁, X₁, hstep₁⟩ := X.invokestatic hexec hown hlink hnamed hmethM hstatic hkP hinitP hy (g := g) hg (argsL := argsL) (rest := rest) (Option.some.inj hlen).symm hstack hdg
  exact ⟨mk, vm₁, X₁.warmed, X₁, hnamed, hstep₁⟩
theorem x_invSN (hexec : p.tables.exec = Jvm.exec) (hb : c.code = cc) (hown : s.vm.findClass own = some m.cls) (hlink : (Cond.methodLinkNest own index y host).before args s = true) (hstat : (Cond.static y).before args s = true) (hinit : (Cond.initialized y.cls).before args s = true)
    (hcode : XCode y maxL s) (hy : y.cls ≠ "java/lang/invoke/MethodHandle" ∧ y.cls ≠ "java/lang/invoke/VarHandle")
    (hg : g.method = m) (hlen : (parseMethodDescriptor y.desc).map (fun d => d.parameters.length) = some argsL.length)
    (hstack : g.stack = argsL.reverse ++ rest) (hdg : decode cc g.pc = .ok (.invokestatic index, 3)) :
    XInv p l e R s m args below meth c H locs cells slots g rest y argsL := by
  intro T hT X
  subst hb
  obtain ⟨mk, methM, cM, hnamed, hmethM, -, -, hsigM⟩ := hcode
  have hstatic : methM.isStatic = true := Cond.static_spec hnamed hmethM hstat
  obtain ⟨kP, hkP, -⟩ := className_of_methodNamed hnamed
  have hinitP : kP.init = .initialized := Cond.initialized_spec (findClass_of_methodNamed hnamed) hkP hinit
  rw [hsigM] at hlen
  obtain ⟨vm₁, X₁, hstep₁⟩ := X.invokestaticNest hexec hown hlink hnamed hmethM hstatic hkP hinitP hy (g := g) hg (argsL := argsL) (rest := rest) (Option.some.inj hlen).symm hstack hdg
  exact ⟨mk, vm₁, X₁.warmed, X₁, hnamed, hstep₁⟩
theorem x_invI {bytes : ByteArray} (hexec : p.tables.exec = Jvm.exec) (hb : c.code = cc) (hown : s.vm.findClass own = some m.cls) (hy1 : y.name = "<init>") (hlink : (Cond.methodLink own index y).before args s = true) (hinst : (Cond.instanceMethod y).before args s = true)
    (hcode : (Cond.code y bytes maxL none).before args s = true) (hy : y.cls ≠ "java/lang/invoke/MethodHandle" ∧ y.cls ≠ "java/lang/invoke/VarHandle")
    (hg : g.method = m) (hlen : (parseMethodDescriptor y.desc).map (fun d => d.parameters.length) = some argsL.length)
    (hstack : g.stack = argsL.reverse ++ .ref b :: rest) (hdg : decode cc g.pc = .ok (.invokespecial index, 3)) :
    XInv p l e R s m args below meth c H locs cells slots g rest y (.ref b :: argsL) := by
  intro T hT X
  subst hb
  subst hg
  have hpl : e.platform.magicAccessors = ({} : Platform).magicAccessors := by rw [X.admits.platform]
  obtain ⟨mk, methM, cM, kP, vm₁, hnamed, hmethM, hcodeM, -, hlocalsM, -, hkP, -, hW₁, hstep₁⟩ := Steps.initColdArgs (e := e) X.here hexec X.warmed hpl hown hy1 hy hlink hinst hcode (f := g) rfl (fun sig h => by rw [h] at hlen; exact (Option.some.inj hlen).symm) hstack hdg
  exact ⟨mk, vm₁, hW₁, X.noted hW₁, hnamed, hstep₁⟩
theorem x_invIN {bytes : ByteArray} (hexec : p.tables.exec = Jvm.exec) (hb : c.code = cc) (hown : s.vm.findClass own = some m.cls) (hy1 : y.name = "<init>") (hlink : (Cond.methodLinkNest own index y host).before args s = true) (hinst : (Cond.instanceMethod y).before args s = true)
    (hcode : (Cond.code y bytes maxL none).before args s = true) (hy : y.cls ≠ "java/lang/invoke/MethodHandle" ∧ y.cls ≠ "java/lang/invoke/VarHandle")
    (hg : g.method = m) (hlen : (parseMethodDescriptor y.desc).map (fun d => d.parameters.length) = some argsL.length)
    (hstack : g.stack = argsL.reverse ++ .ref b :: rest) (hdg : decode cc g.pc = .ok (.invokespecial index, 3)) :
    XInv p l e R s m args below meth c H locs cells slots g rest y (.ref b :: argsL) := by
  intro T hT X
  subst hb
  subst hg
  have hpl : e.platform.magicAccessors = ({} : Platform).magicAccessors := by rw [X.admits.platform]
  obtain ⟨mk, methM, cM, kP, vm₁, hnamed, hmethM, hcodeM, -, hlocalsM, -, hkP, -, hW₁, hstep₁⟩ := Steps.initColdArgsNest (e := e) X.here hexec X.warmed hpl hown hy1 hy hlink hinst hcode (f := g) rfl (fun sig h => by rw [h] at hlen; exact (Option.some.inj hlen).symm) hstack hdg
  exact ⟨mk, vm₁, hW₁, X.noted hW₁, hnamed, hstep₁⟩
end XK2
/-- as W, from the note that an exception x is on its way over the frame g -/
def XT (p : Program) (l : Launch) (e : Env) (R : Room) (s : State) (m : MethodId) (args : Array Value) (below : List Frame) (meth : Method) (c : Code) (H : Heap) (locs : List Loc) (cells slots : Nat) (Q : State → Prop) (g : JFrame) (x : Addr) : Prop :=
  ∀ T : State, T.heap = H → Stand p l e R s m args below meth c T locs cells slots → ∃ t, Steps p.tables e below ((T.setTop g).pushFrame (.throwing x)) t ∧ Q t
section XK3
variable {p : Program} {l : Launch} {e : Env} {R : Room} {s : State} {m : MethodId} {args : Array Value} {below : List Frame} {meth : Method} {c : Code} {H : Heap} {locs : List Loc} {cells slots : Nat} {Q Q' : State → Prop}
theorem x_mono (h : ∀ t, Q t → Q' t) {g : JFrame} (k : W p l e R s m args below meth c H locs cells slots Q g) : W p l e R s m args below meth c H locs cells slots Q' g := fun T hT X => by
  obtain ⟨t, a, b⟩ := k T hT X
  exact ⟨t, a, h t b⟩
theorem x_ofMQ {Qc : Array Value → State → Outcome → State → Prop} {mc ms : Nat} {free : Addr → Prop} (t : State) (h : MQ below Qc args s mc ms free t) : XMQ below Qc args s mc ms free t := by
  obtain ⟨o, h1, h2, h3, L, ⟨-, h4, h5⟩, h6⟩ := h
  exact ⟨o, h1, h2, h3, L, ⟨h4, h5⟩, h6⟩
theorem XMet.ofW {l : Launch} {y : MethodName} {ws ws' : List Cond} {rm : Room} {Pc : Array Value → State → Prop} {Qc : Array Value → State → Outcome → State → Prop} {mc ms : Nat} {free : Addr → Prop} {cc : ByteArray} {maxL : Nat} {ret : Option FieldType}
    (hy : plainName y.cls = true) (hw : ws = Cond.code y cc maxL ret :: ws')
    (body : ∀ p e s m args below meth c s₁, BodyLoose p l y (headSpec ws rm) cc maxL ret e s m args below meth c s₁ → c.maxLocals = maxL → Pc args s →
      W p l e (headSpec ws rm).room s m args below meth c s.heap [] 0 0 (XMQ below Qc args s mc ms free) (entryFrame m args maxL)) : XMet l y ws rm Pc Qc mc ms free := by
  refine MetFree.of_bodyS (code := cc) (maxLocals := maxL) (ret := ret) hy ?_ ?_
  · intro args s m h hn
    obtain ⟨meth, c, h1, h2, h3, h4, h5, h6, -, -⟩ := Cond.code_spec hn (atoms_spec (ws := ws) h _ (by rw [hw]; exact List.mem_cons_self))
    exact ⟨meth, c, h1, h2, h3, h4, h5, h6⟩
  · intro p e s m args below meth c s₁ B hml hP _
    have hh0 : s₁.heap = s.heap := by rw [B.state]; rfl
    obtain ⟨t, a1, o, b1, b2, b3⟩ := body p e s m args below meth c s₁ B hml hP s₁ hh0 (Stand.of_body B)
    exact ⟨t, o, a1, b1, b2, ⟨b3.1, b3.2⟩⟩
theorem XMet.ofWW {l : Launch} {y : MethodName} {ws ws' : List Cond} {rm : Room} {Pc : Array Value → State → Prop} {Qc : Array Value → State → Outcome → State → Prop} {mc ms : Nat} {free : Addr → Prop} {cc : ByteArray} {maxL : Nat} {ret : Option FieldType} {hh : List (Nat × Nat × Nat × Nat)}
    (hy : plainName y.cls = true) (hw : ws = Cond.codeWith y cc maxL ret hh :: ws')
    (body : ∀ p e s m args below meth c s₁, BodyLoose p l y (headSpec ws rm) cc maxL ret e s m args below meth c s₁ → c.maxLocals = maxL → c.exceptionTable.toList.map (fun h => (h.startPc, h.endPc, h.handlerPc, h.catchType)) = hh → Pc args s →
      W p l e (headSpec ws rm).room s m args below meth c s.heap [] 0 0 (XMQ below Qc args s mc ms free) (entryFrame m args maxL)) : XMet l y ws rm Pc Qc mc ms free := by
  refine MetFree.of_bodyS (code := cc) (maxLocals := maxL) (ret := ret) hy ?_ ?_
  · intro args s m h hn
    obtain ⟨m9, meth, c, hn9, h1, h2, h3, h4, -, h5, h6, -⟩ := Cond.codeWith_spec (atoms_spec (ws := ws) h _ (by rw [hw]; exact List.mem_cons_self))
    cases hn.symm.trans hn9
    exact ⟨meth, c, h1, h2, h3, h4, h5, h6⟩
  · intro p e s m args below meth c s₁ B hml hP _
    have hh0 : s₁.heap = s.heap := by rw [B.state]; rfl
    have hx := atoms_spec (ws := ws) B.pre _ (show Cond.codeWith y cc maxL ret hh ∈ ws by rw [hw]; exact List.mem_cons_self)
    obtain ⟨m9, meth9, c9, hn9, h1, h2, -, -, ht, -⟩ := Cond.codeWith_spec hx
    cases B.named.symm.trans hn9
    cases B.method.symm.trans h1
    have X := Stand.of_body B
    cases X.code.symm.trans h2
    obtain ⟨t, a1, o, b1, b2, b3⟩ := body p e s m args below meth c s₁ B hml ht hP s₁ hh0 X
    exact ⟨t, o, a1, b1, b2, ⟨b3.1, b3.2⟩⟩
/-- nobody here catches it: the method throws it on -/
theorem x_out {Qc : Array Value → State → Outcome → State → Prop} {free : Addr → Prop} {x : Addr} {pc : Nat} {ls : Array Slot} {st : List Value} (hlocks : meth.locks = false) (hout : ∀ y ∈ c.exceptionTable.toList, covers y pc = false)
    (hq : ∀ t : State, t.heap = H → s.WarmedH t.vm → Qc args s (.threw x) t) (hf : ∀ q ∈ locs, free q.base) : XT p l e R s m args below meth c H locs cells slots (XMQ below Qc args s cells slots free) (F0 m pc ls st) x := by
  intro T hT X
  obtain ⟨a1, a2, a3, a4, a5⟩ := X.leaveThrown x (g := F0 m pc ls st) rfl rfl rfl hout hlocks
  exact ⟨_, a1, .threw x, a2, a3, hq _ (by show T.heap = H; exact hT) a4, locs, ⟨a4, a5⟩, hf⟩
/-- a call by contract -/
theorem x_go {y : MethodName} {av rest st0 : List Value} {pc : Nat} {ls : Array Slot} {ig : Instr} {Pc : Array Value → State → Prop} {Qc : Array Value → State → Outcome → State → Prop} {mc ms : Nat} {free : Addr → Prop}
    (I : XInv p l e R s m args below meth c H locs cells slots (F0 m pc ls st0) rest y av) (hK : XBack l R p e below s args y 3 8 (PreOf R mc ms Pc) (XPost Qc mc ms free))
    (hsize : ls.size = c.maxLocals) (hdg : decode c.code pc = .ok (ig, 3)) (hW : (rest.map fun v => v.category).sum ≤ 8) (hroom : cells + mc ≤ R.cells ∧ slots + ms ≤ R.slots)
    (hPc : ∀ U : State, U.heap = H → s.WarmedH U.vm → Pc av.toArray U)
    (kr : ∀ (v : Option Value) (st₀ t : State) (L : List Loc), st₀.heap = H → s.WarmedH st₀.vm → s.WarmedH t.vm → Qc av.toArray st₀ (.returned v) t → (∀ q ∈ L, free q.base) →
      W p l e R s m args below meth c t.heap (locs ++ L) (cells + mc) (slots + ms) Q (F0 m (pc + 3) ls (v.toList ++ rest)))
    (kt : ∀ (x : Addr) (st₀ t : State) (L : List Loc), st₀.heap = H → s.WarmedH st₀.vm → s.WarmedH t.vm → Qc av.toArray st₀ (.threw x) t → (∀ q ∈ L, free q.base) →
      XT p l e R s m args below meth c t.heap (locs ++ L) (cells + mc) (slots + ms) Q (F0 m pc ls rest) x) :
    W p l e R s m args below meth c H locs cells slots Q (F0 m pc ls st0) := by
  intro T hT X
  obtain ⟨mk, vm₁, hW₁, X₁, hnm, hstep⟩ := I T hT X
  obtain ⟨o, ⟨U', l2, c2, s2⟩, X', ⟨g', mk', t, L, e1, e2, hq, h1, hL, h2, h3⟩, hr, ht⟩ := hK m meth c ⟨T.setVm vm₁, locs, cells, slots⟩ (F0 m pc ls rest) ig mk av.toArray X₁ rfl hsize hdg (by show 2 * 0 + (rest.map fun v => v.category).sum ≤ 8; omega) (X₁.named hnm) ⟨hroom.1, hroom.2, hPc (T.setVm vm₁) hT hW₁⟩
  dsimp only [Pt.U, Pt.locs, Pt.cells, Pt.slots] at X' e1 e2 h1 h2 h3 hr ht
  subst h1; subst h2; subst h3
  have hWt : s.WarmedH t.vm := by rw [← e2]; exact X'.warmed
  cases o with
  | returned v =>
    obtain ⟨t2, a1, b1⟩ := kr v ((T.setVm vm₁).calling g' mk' av.toArray) t L hT hW₁ hWt hq hL U' e1 X'
    exact ⟨t2, hstep _ fun acts => by rw [doInvoke_state]; exact (hr v rfl).trans a1, b1⟩
  | threw x =>
    obtain ⟨t2, a1, b1⟩ := kt x ((T.setVm vm₁).calling g' mk' av.toArray) t L hT hW₁ hWt hq hL U' e1 X'
    exact ⟨t2, hstep _ fun acts => by rw [doInvoke_state]; exact (ht x rfl).trans a1, b1⟩
end XK3
/-! the world: region r holds cnt r cells, the i-th at B + adr r i; ent says what stands there -/
def XW (D : va_G) (cl : List vw_C) (adr : Nat → Nat → Nat) (cnt : Nat → Nat) (B : Nat) (ent : Nat → Nat → va_E) (H : Heap) : Prop := ∀ r i, i < cnt r → va_at D cl (B + adr r i, ent r i) H
def XInj (adr : Nat → Nat → Nat) (cnt : Nat → Nat) : Prop := ∀ r i r' i', i < cnt r → i' < cnt r' → adr r i = adr r' i' → r = r' ∧ i = i'
theorem xw_one {D : va_G} {cl : List vw_C} {adr : Nat → Nat → Nat} {cnt : Nat → Nat} {B : Nat} {ent : Nat → Nat → va_E} {H : Heap} (hX : XW D cl adr cnt B ent H) {r i : Nat} (hi : i < cnt r) {e : va_E} (he : ent r i = e) : va_P D cl [(B + adr r i, e)] H := by
  intro k q hk
  cases k with
  | zero => cases hk; rw [← he]; exact hX r i hi
  | succ k => simp at hk
theorem xw_upd {D : va_G} {cl : List vw_C} {adr : Nat → Nat → Nat} {cnt : Nat → Nat} {B : Nat} {ent ent' : Nat → Nat → va_E} {H H1 : Heap} (hX : XW D cl adr cnt B ent H) (hinj : XInj adr cnt) {r i : Nat} (hi : i < cnt r) {e : va_E} (he : ent' r i = e) (hnew : va_at D cl (B + adr r i, e) H1)
    (ho : ∀ q, q ≠ B + adr r i → H1[q]? = H[q]?) (hoth : ∀ r' i', ¬ (r' = r ∧ i' = i) → ent' r' i' = ent r' i') : XW D cl adr cnt B ent' H1 := by
  intro r' i' hi'
  by_cases h : r' = r ∧ i' = i
  · obtain ⟨rfl, rfl⟩ := h
    rw [he]; exact hnew
  · rw [hoth r' i' h]
    refine (hX r' i' hi').kept (ho _ fun q => h ?_)
    have q : B + adr r' i' = B + adr r i := q
    exact hinj r' i' r i hi' hi (by omega)
theorem xw_kept {D : va_G} {cl : List vw_C} {adr : Nat → Nat → Nat} {cnt : Nat → Nat} {B : Nat} {ent : Nat → Nat → va_E} {H H1 : Heap} (hX : XW D cl adr cnt B ent H) (ho : ∀ q, q < H.size → H1[q]? = H[q]?) : XW D cl adr cnt B ent H1 :=
  fun r i hi => (hX r i hi).kept (ho _ (hX r i hi).lt)
section XK4
variable {p : Program} {l : Launch} {e : Env} {R : Room} {s : State} {m : MethodId} {args : Array Value} {below : List Frame} {meth : Method} {c : Code} {H : Heap} {locs : List Loc} {cells slots : Nat} {Q : State → Prop}
variable {cc : ByteArray} {pc : Nat} {ls : Array Slot} {rest : List Value} {D : va_G} {cl : List vw_C} {A : Nat → Prop} {tys : List (ClassId × FieldType)} {H0 : Heap} {adr : Nat → Nat → Nat} {cnt : Nat → Nat} {B : Nat} {ent : Nat → Nat → va_E}
theorem xw_get (hexec : p.tables.exec = Jvm.exec) (hb : c.code = cc) {own ref C : String} {T : u_T} {N ci index : Nat} {Ts : List Cond} (hts : ∀ w ∈ Ts, w.before args s = true) (hin : ∀ w ∈ u_ws C T N, w ∈ Ts) (hown : s.vm.findClass own = some m.cls) (hK : va_K D cl tys s) (hX : XW D cl adr cnt B ent H) {r i : Nat} (hi : i < cnt r) {fs : List Value} (he : ent r i = .inr (ci, fs)) (hc : cl[ci]? = some (C, T, N)) (k : Nat) (hk : k < N) (hlink : (Cond.fieldLink own index ref (T k).2.1 (T k).2.2.1).before args s = true) (hsame : (T k).1 = ref) {v : Value} (hv : fs[k]? = some v) (hdg : decode cc pc = .ok (.getfield index, 3))
    (kk : W p l e R s m args below meth c H locs cells slots Q (F0 m (pc + 3) ls (v :: rest))) : W p l e R s m args below meth c H locs cells slots Q (F0 m pc ls (.ref (B + adr r i) :: rest)) :=
  va_get hexec hb hts hin hown hK (xw_one hX hi he) 0 rfl hc k hk hlink (fun x h => hsame ▸ h) hv hdg kk
theorem xw_getN (hexec : p.tables.exec = Jvm.exec) (hb : c.code = cc) {own ref C host : String} {T : u_T} {N ci index : Nat} {Ts : List Cond} (hts : ∀ w ∈ Ts, w.before args s = true) (hin : ∀ w ∈ u_ws C T N, w ∈ Ts) (hown : s.vm.findClass own = some m.cls) (hK : va_K D cl tys s) (hX : XW D cl adr cnt B ent H) {r i : Nat} (hi : i < cnt r) {fs : List Value} (he : ent r i = .inr (ci, fs)) (hc : cl[ci]? = some (C, T, N)) (k : Nat) (hk : k < N) (hlink : (Cond.fieldLinkNest own index ref (T k).2.1 (T k).2.2.1 host).before args s = true) (hsame : (T k).1 = ref) {v : Value} (hv : fs[k]? = some v) (hdg : decode cc pc = .ok (.getfield index, 3))
    (kk : W p l e R s m args below meth c H locs cells slots Q (F0 m (pc + 3) ls (v :: rest))) : W p l e R s m args below meth c H locs cells slots Q (F0 m pc ls (.ref (B + adr r i) :: rest)) :=
  va_getN hexec hb hts hin hown hK (xw_one hX hi he) 0 rfl hc k hk hlink (fun x h => hsame ▸ h) hv hdg kk
theorem xw_put (hexec : p.tables.exec = Jvm.exec) (hb : c.code = cc) {own ref C : String} {T : u_T} {N ci index : Nat} {Ts : List Cond} (hts : ∀ w ∈ Ts, w.before args s = true) (hin : ∀ w ∈ u_ws C T N, w ∈ Ts) (ty0 : Nat → FieldType) (hty : ∀ k, k < N → parseFieldDescriptor (T k).2.2.1 = some (ty0 k)) (hnm : ∀ a, a < N → ∀ b, b < N → a ≠ b → (T a).2.1 ≠ (T b).2.1) (hown : s.vm.findClass own = some m.cls) (hK : va_K D cl tys s) (hinj : XInj adr cnt) (hX : XW D cl adr cnt B ent H) (hS0 : va_S A H0 H locs) {r i : Nat} (hA : A (B + adr r i)) (hi : i < cnt r) {fs : List Value} (he : ent r i = .inr (ci, fs)) (hc : cl[ci]? = some (C, T, N)) (k : Nat) (hk : k < N) (hlink : (Cond.fieldLink own index ref (T k).2.1 (T k).2.2.1).before args s = true) (hsame : (T k).1 = ref) (hfin : (T k).2.2.2 = false) {v : Value} (hn : narrow (ty0 k) v = v) (hfit : fits (ty0 k) v = true) (hl : k < fs.length)
    {ent' : Nat → Nat → va_E} (he' : ent' r i = .inr (ci, fs.set k v)) (ho : ∀ r' i', ¬ (r' = r ∧ i' = i) → ent' r' i' = ent r' i') (hdg : decode cc pc = .ok (.putfield index, 3))
    (kk : ∀ (H1 : Heap) (locs1 : List Loc), XW D cl adr cnt B ent' H1 → va_S A H0 H1 locs1 → W p l e R s m args below meth c H1 locs1 cells slots Q (F0 m (pc + 3) ls rest)) : W p l e R s m args below meth c H locs cells slots Q (F0 m pc ls (v :: .ref (B + adr r i) :: rest)) := by
  have hap := va_apart (own := own) hts hin ty0 hty hnm hK hc
  obtain ⟨r0, h1, cell, q1, q2, q3, q4⟩ := xw_one hX hi he 0 _ rfl
  have hr : r0 = (C, T, N) := Option.some.inj (h1.symm.trans hc)
  subst hr
  obtain ⟨hS, hfc, kC, hkC, hkind⟩ := hK.1 ci _ hc
  obtain ⟨cf, kf, fi, f, hif, hsl⟩ := hS k hk
  have hlay := hts _ (hin _ (u_in_lay hk))
  unfold u_lay at hlay
  rw [if_neg (by rw [hfin]; decide)] at hlay
  have hst := (u_facts hfc hkC (u_lays hts hin hk) hif).1
  have h6 := u_store hfc hkC hkind hlay hif (hty k hk) hn hfit
  refine W.putK hexec hb (f := f) ⟨hown, hlink, ⟨_, _, _, hsame ▸ hif⟩, hst⟩ (by rw [q2]; exact h6) q1 q3 (by rw [hsl]; exact k2_hasslot (q4 k hk)) rfl rfl hdg fun H' e1 e2 e3 => ?_
  rw [hsl] at e1 ⊢
  exact kk H' _ (xw_upd hX hinj hi he' ⟨_, hc, t_OB.to (V := updV (vp_V fs) k v) ⟨_, e1, q2, q3, t_set q4 hap hk v⟩ (fun j _ => vp_updV_set hl v j)⟩ e3 ho) (hS0.put e2 e3 hA)
theorem xw_putN (hexec : p.tables.exec = Jvm.exec) (hb : c.code = cc) {own ref C host : String} {T : u_T} {N ci index : Nat} {Ts : List Cond} (hts : ∀ w ∈ Ts, w.before args s = true) (hin : ∀ w ∈ u_ws C T N, w ∈ Ts) (ty0 : Nat → FieldType) (hty : ∀ k, k < N → parseFieldDescriptor (T k).2.2.1 = some (ty0 k)) (hnm : ∀ a, a < N → ∀ b, b < N → a ≠ b → (T a).2.1 ≠ (T b).2.1) (hown : s.vm.findClass own = some m.cls) (hK : va_K D cl tys s) (hinj : XInj adr cnt) (hX : XW D cl adr cnt B ent H) (hS0 : va_S A H0 H locs) {r i : Nat} (hA : A (B + adr r i)) (hi : i < cnt r) {fs : List Value} (he : ent r i = .inr (ci, fs)) (hc : cl[ci]? = some (C, T, N)) (k : Nat) (hk : k < N) (hlink : (Cond.fieldLinkNest own index ref (T k).2.1 (T k).2.2.1 host).before args s = true) (hsame : (T k).1 = ref) (hfin : (T k).2.2.2 = false) {v : Value} (hn : narrow (ty0 k) v = v) (hfit : fits (ty0 k) v = true) (hl : k < fs.length)
    {ent' : Nat → Nat → va_E} (he' : ent' r i = .inr (ci, fs.set k v)) (ho : ∀ r' i', ¬ (r' = r ∧ i' = i) → ent' r' i' = ent r' i') (hdg : decode cc pc = .ok (.putfield index, 3))
    (kk : ∀ (H1 : Heap) (locs1 : List Loc), XW D cl adr cnt B ent' H1 → va_S A H0 H1 locs1 → W p l e R s m args below meth c H1 locs1 cells slots Q (F0 m (pc + 3) ls rest)) : W p l e R s m args below meth c H locs cells slots Q (F0 m pc ls (v :: .ref (B + adr r i) :: rest)) := by
  have hap := va_apart (own := own) hts hin ty0 hty hnm hK hc
  obtain ⟨r0, h1, cell, q1, q2, q3, q4⟩ := xw_one hX hi he 0 _ rfl
  have hr : r0 = (C, T, N) := Option.some.inj (h1.symm.trans hc)
  subst hr
  obtain ⟨hS, hfc, kC, hkC, hkind⟩ := hK.1 ci _ hc
  obtain ⟨cf, kf, fi, f, hif, hsl⟩ := hS k hk
  have hlay := hts _ (hin _ (u_in_lay hk))
  unfold u_lay at hlay
  rw [if_neg (by rw [hfin]; decide)] at hlay
  have hst := (u_facts hfc hkC (u_lays hts hin hk) hif).1
  have h6 := u_store hfc hkC hkind hlay hif (hty k hk) hn hfit
  refine va_WputK hexec hb (f := f) hown hlink (hsame ▸ hif) hst (by rw [q2]; exact h6) q1 q3 (by rw [hsl]; exact k2_hasslot (q4 k hk)) rfl rfl hdg fun H' e1 e2 e3 => ?_
  rw [hsl] at e1 ⊢
  exact kk H' _ (xw_upd hX hinj hi he' ⟨_, hc, t_OB.to (V := updV (vp_V fs) k v) ⟨_, e1, q2, q3, t_set q4 hap hk v⟩ (fun j _ => vp_updV_set hl v j)⟩ e3 ho) (hS0.put e2 e3 hA)
theorem xw_iald (hexec : p.tables.exec = Jvm.exec) (hb : c.code = cc) (hK : va_K D cl tys s) (hX : XW D cl adr cnt B ent H) {r i : Nat} (hi : i < cnt r) (t0 : Nat) {cA : ClassId} {n : Nat} {f : Nat → Int32} (he : ent r i = .inl (cA, n, .inl f)) (ht : tys[t0]? = some (cA, .int)) {j : Int32} (hin : vp_in j n) (hdg : decode cc pc = .ok (.iaload, 1))
    (kk : W p l e R s m args below meth c H locs cells slots Q (F0 m (pc + 1) ls (.int (f j.toNatClampNeg) :: rest))) : W p l e R s m args below meth c H locs cells slots Q (F0 m pc ls (.int j :: .ref (B + adr r i) :: rest)) :=
  va_iald hexec hb hK (xw_one hX hi he) 0 t0 rfl ht hin hdg kk
theorem xw_zald (hexec : p.tables.exec = Jvm.exec) (hb : c.code = cc) (hK : va_K D cl tys s) (hX : XW D cl adr cnt B ent H) {r i : Nat} (hi : i < cnt r) (t0 : Nat) {cA : ClassId} {n : Nat} {f : Nat → Int32} (he : ent r i = .inl (cA, n, .inl f)) (ht : tys[t0]? = some (cA, .boolean)) {j : Int32} (hin : vp_in j n) (hdg : decode cc pc = .ok (.baload, 1))
    (kk : W p l e R s m args below meth c H locs cells slots Q (F0 m (pc + 1) ls (.int (f j.toNatClampNeg) :: rest))) : W p l e R s m args below meth c H locs cells slots Q (F0 m pc ls (.int j :: .ref (B + adr r i) :: rest)) :=
  va_zald hexec hb hK (xw_one hX hi he) 0 t0 rfl ht hin hdg kk
theorem xw_lald (hexec : p.tables.exec = Jvm.exec) (hb : c.code = cc) (hK : va_K D cl tys s) (hX : XW D cl adr cnt B ent H) {r i : Nat} (hi : i < cnt r) (t0 : Nat) {cA : ClassId} {n : Nat} {f : Nat → Int64} (he : ent r i = .inl (cA, n, .inr (.inl f))) (ht : tys[t0]? = some (cA, .long)) {j : Int32} (hin : vp_in j n) (hdg : decode cc pc = .ok (.laload, 1))
    (kk : W p l e R s m args below meth c H locs cells slots Q (F0 m (pc + 1) ls (.long (f j.toNatClampNeg) :: rest))) : W p l e R s m args below meth c H locs cells slots Q (F0 m pc ls (.int j :: .ref (B + adr r i) :: rest)) :=
  va_lald hexec hb hK (xw_one hX hi he) 0 t0 rfl ht hin hdg kk
/-- an array of references, to objects or arrays -/
theorem xw_aald (hexec : p.tables.exec = Jvm.exec) (hb : c.code = cc) (hK : va_K D cl tys s) (hX : XW D cl adr cnt B ent H) {r i : Nat} (hi : i < cnt r) (t0 : Nat) {cA : ClassId} {n : Nat} {f : Nat → Option Nat} {ty : FieldType} (he : ent r i = .inl (cA, n, .inr (.inr (.inr (.inr f))))) (ht : tys[t0]? = some (cA, ty)) (href : ty.isReference = true) {j : Int32} (hin : vp_in j n) {a : Nat} (hf : f j.toNatClampNeg = some a) (hdg : decode cc pc = .ok (.aaload, 1))
    (kk : W p l e R s m args below meth c H locs cells slots Q (F0 m (pc + 1) ls (.ref a :: rest))) : W p l e R s m args below meth c H locs cells slots Q (F0 m pc ls (.int j :: .ref (B + adr r i) :: rest)) := by
  have hlt : j.toNatClampNeg < n := Nat.not_le.mp fun q => hin (Or.inr q)
  have hP := xw_one hX hi he 0 _ rfl
  exact W.aald (v := .ref a) (ty := ty) hexec hb hP ((hK.2 t0 _ ht).1 n (fun j => va_rf (f j))) href (fun q => by cases q) (by show ¬ (j < 0 ∨ (arrV _ _ _).slots.size ≤ _); rw [arrV_size]; exact hin) (by show (arrV _ _ _).slots[_]? = _; rw [arrV_read _ _ hlt, hf]; rfl) rfl rfl hdg kk
theorem xw_iast (hexec : p.tables.exec = Jvm.exec) (hb : c.code = cc) (hK : va_K D cl tys s) (hinj : XInj adr cnt) (hX : XW D cl adr cnt B ent H) (hS : va_S A H0 H locs) {r i : Nat} (hA : A (B + adr r i)) (hi : i < cnt r) (t0 : Nat) {cA : ClassId} {n : Nat} {f : Nat → Int32} (he : ent r i = .inl (cA, n, .inl f)) (ht : tys[t0]? = some (cA, .int)) {j x : Int32} (hin : vp_in j n)
    {ent' : Nat → Nat → va_E} (he' : ent' r i = .inl (cA, n, .inl (upd f j.toNatClampNeg x))) (ho : ∀ r' i', ¬ (r' = r ∧ i' = i) → ent' r' i' = ent r' i') (hdg : decode cc pc = .ok (.iastore, 1))
    (kk : ∀ (H1 : Heap) (locs1 : List Loc), XW D cl adr cnt B ent' H1 → va_S A H0 H1 locs1 → W p l e R s m args below meth c H1 locs1 cells slots Q (F0 m (pc + 1) ls rest)) : W p l e R s m args below meth c H locs cells slots Q (F0 m pc ls (.int x :: .int j :: .ref (B + adr r i) :: rest)) := by
  have hP := xw_one hX hi he 0 _ rfl
  refine W.iast hexec hb hP ((hK.2 t0 _ ht).1 n (fun j => .int (f j))) (fun q => by cases q) (by show ¬ (j < 0 ∨ (arrV _ _ _).slots.size ≤ _); rw [arrV_size]; exact hin) rfl rfl hdg fun H1 e z oq => ?_
  refine kk H1 _ (xw_upd hX hinj hi he' ?_ oq ho) (hS.put z oq hA)
  show H1[B + adr r i]? = some (vp_cell _ _)
  rw [e]
  rw [vp_cell_i, vp_cell_i, arrV_store]
  congr 2
  funext q
  by_cases hq : q = j.toNatClampNeg
  · subst hq
    simp [updV, upd]
  · simp [updV, upd, hq]
theorem xw_zast (hexec : p.tables.exec = Jvm.exec) (hb : c.code = cc) (hK : va_K D cl tys s) (hinj : XInj adr cnt) (hX : XW D cl adr cnt B ent H) (hS : va_S A H0 H locs) {r i : Nat} (hA : A (B + adr r i)) (hi : i < cnt r) (t0 : Nat) {cA : ClassId} {n : Nat} {f : Nat → Int32} (he : ent r i = .inl (cA, n, .inl f)) (ht : tys[t0]? = some (cA, .boolean)) {j x : Int32} (hin : vp_in j n)
    {ent' : Nat → Nat → va_E} (he' : ent' r i = .inl (cA, n, .inl (upd f j.toNatClampNeg (vp_nar .boolean x)))) (ho : ∀ r' i', ¬ (r' = r ∧ i' = i) → ent' r' i' = ent r' i') (hdg : decode cc pc = .ok (.bastore, 1))
    (kk : ∀ (H1 : Heap) (locs1 : List Loc), XW D cl adr cnt B ent' H1 → va_S A H0 H1 locs1 → W p l e R s m args below meth c H1 locs1 cells slots Q (F0 m (pc + 1) ls rest)) : W p l e R s m args below meth c H locs cells slots Q (F0 m pc ls (.int x :: .int j :: .ref (B + adr r i) :: rest)) := by
  have hP := xw_one hX hi he 0 _ rfl
  refine W.zast hexec hb hP ((hK.2 t0 _ ht).1 n (fun j => .int (f j))) (fun q => by cases q) (by show ¬ (j < 0 ∨ (arrV _ _ _).slots.size ≤ _); rw [arrV_size]; exact hin) rfl rfl hdg fun H1 e z oq => ?_
  refine kk H1 _ (xw_upd hX hinj hi he' ?_ oq ho) (hS.put z oq hA)
  show H1[B + adr r i]? = some (vp_cell _ _)
  rw [e]
  rw [vp_cell_i, vp_cell_i, arrV_store]
  congr 2
  funext q
  by_cases hq : q = j.toNatClampNeg
  · subst hq
    simp [updV, upd, vp_nar]
    try rfl
  · simp [updV, upd, hq]
theorem xw_last (hexec : p.tables.exec = Jvm.exec) (hb : c.code = cc) (hK : va_K D cl tys s) (hinj : XInj adr cnt) (hX : XW D cl adr cnt B ent H) (hS : va_S A H0 H locs) {r i : Nat} (hA : A (B + adr r i)) (hi : i < cnt r) (t0 : Nat) {cA : ClassId} {n : Nat} {f : Nat → Int64} (he : ent r i = .inl (cA, n, .inr (.inl f))) (ht : tys[t0]? = some (cA, .long)) {j : Int32} {x : Int64} (hin : vp_in j n)
    {ent' : Nat → Nat → va_E} (he' : ent' r i = .inl (cA, n, .inr (.inl (vp_updL f j.toNatClampNeg x)))) (ho : ∀ r' i', ¬ (r' = r ∧ i' = i) → ent' r' i' = ent r' i') (hdg : decode cc pc = .ok (.lastore, 1))
    (kk : ∀ (H1 : Heap) (locs1 : List Loc), XW D cl adr cnt B ent' H1 → va_S A H0 H1 locs1 → W p l e R s m args below meth c H1 locs1 cells slots Q (F0 m (pc + 1) ls rest)) : W p l e R s m args below meth c H locs cells slots Q (F0 m pc ls (.long x :: .int j :: .ref (B + adr r i) :: rest)) := by
  have hP := xw_one hX hi he 0 _ rfl
  refine W.last hexec hb hP ((hK.2 t0 _ ht).1 n (fun j => .long (f j))) (fun q => by cases q) (by show ¬ (j < 0 ∨ (arrV _ _ _).slots.size ≤ _); rw [arrV_size]; exact hin) rfl rfl hdg fun H1 e z oq => ?_
  refine kk H1 _ (xw_upd hX hinj hi he' ?_ oq ho) (hS.put z oq hA)
  show H1[B + adr r i]? = some (vp_cell _ _)
  rw [e]
  rw [vp_cell_l, vp_cell_l, arrV_store]
  congr 2
  funext q
  by_cases hq : q = j.toNatClampNeg
  · subst hq
    simp [updV, vp_updL]
  · simp [updV, vp_updL, hq]
theorem xw_recv {r i : Nat} {ci : Nat} {q : vw_C} {fs : List Value} (hK : va_K D cl tys s) (hX : XW D cl adr cnt B ent H) (hi : i < cnt r) (he : ent r i = .inr (ci, fs)) (hc : cl[ci]? = some q) : ∃ cell : Cell, H[B + adr r i]? = some cell ∧ cell.vm.isStatics = false ∧ s.vm.findClass q.1 = some cell.cls :=
  va_recv hK (xw_one hX hi he) hc (q0 := 0) rfl
end XK4
/-! carrying the tables' words from the law's start s0 to any later state -/
theorem x_word {w : Cond} (hw : w.onTables = true) (hk : w.keepsFace = true) {A A' : Array Value} {s0 U : State} (hW : s0.WarmedH U.vm) (h : w.before A s0 = true) : w.before A' U = true := by
  have h1 : w.before A (s0.setVm U.vm) = true := Cond.before_shiftedFace (State.Shifted.of_warmed hW) w hk h
  exact va_tabs hw (rfl : (s0.setVm U.vm).vm = U.vm) h1
def x_goodW (w : Cond) : Bool := w.onTables && w.keepsFace
def XExt (H H1 : Heap) : Prop := H.size ≤ H1.size ∧ ∀ q : Nat, q < H.size → H1[q]? = H[q]?
theorem XExt.rf {H : Heap} : XExt H H := ⟨Nat.le_refl _, fun _ _ => rfl⟩
theorem XExt.tr {H H1 H2 : Heap} (h : XExt H H1) (h2 : XExt H1 H2) : XExt H H2 := ⟨Nat.le_trans h.1 h2.1, fun q hq => (h2.2 q (Nat.lt_of_lt_of_le hq h.1)).trans (h.2 q hq)⟩
/-- an exception of class E stands at x -/
def XH (E : String) (x : Addr) (H : Heap) (U : State) : Prop := ∃ ce : Cell, H[x]? = some ce ∧ ce.vm = .none ∧ U.vm.findClass E = some ce.cls
theorem XH.moved {E : String} {x : Addr} {H : Heap} {u U : State} (hvm : u.vm.Alike U.vm) (h : XH E x H u) : XH E x H U := by
  obtain ⟨ce, h1, h2, h3⟩ := h
  exact ⟨ce, h1, h2, by rw [hvm.findClass]; exact h3⟩
/-- U is later than s0: its tables are warmer, what was there at s0 is as it was -/
def XO (s0 : State) (U : State) (H : Heap) : Prop := s0.WarmedH U.vm ∧ XExt s0.heap H
theorem XO.ext {s0 U : State} {H H1 : Heap} (h : XO s0 U H) (h2 : XExt H H1) : XO s0 U H1 := ⟨h.1, h.2.tr h2⟩
theorem x_static {C n d : String} {A A' : Array Value} {s0 U : State} (h : XO s0 U U.heap) (hl : (Cond.laysStatic C n d).before A s0 = true) : (Cond.laysStatic C n d).before A' U = true := by
  have h1 : (Cond.laysStatic C n d).before A (s0.setVm U.vm) = true := Cond.before_shiftedFace (State.Shifted.of_warmed h.1) _ rfl hl
  simp only [Cond.before, Cond.holds, Cond.value] at h1 ⊢
  have e1 : (s0.setVm U.vm).vm = U.vm := rfl
  have e2 : (s0.setVm U.vm).fieldFound? C n d = U.fieldFound? C n d := rfl
  rw [e1, e2] at h1
  cases hc : U.vm.findClass C with
  | none => rw [hc] at h1; simp at h1
  | some c =>
    cases hf : U.fieldFound? C n d with
    | none => rw [hc, hf] at h1; simp at h1
    | some q =>
      obtain ⟨c', k, i, f⟩ := q
      rw [hc, hf] at h1
      simp only at h1 ⊢
      cases hs : k.statics with
      | none => rw [hs] at h1; simp at h1
      | some a =>
        rw [hs] at h1
        have e3 : (s0.setVm U.vm).heap = s0.heap := rfl
        simp only [Option.bind_some, e3] at h1 ⊢
        cases hcell : s0.heap[a]? with
        | none => rw [hcell] at h1; simp at h1
        | some cell =>
          rw [h.2.2 a (Array.getElem?_eq_some_iff.mp hcell).1, hcell]
          rw [hcell] at h1
          exact h1
theorem x_isRef {C n d : String} {A A' : Array Value} {s0 U : State} (h : XO s0 U U.heap) (hl : (Cond.isRef (.static C n d)).before A s0 = true) : (Cond.isRef (.static C n d)).before A' U = true := by
  have h1 : (Cond.isRef (.static C n d)).before A (s0.setVm U.vm) = true := Cond.before_shiftedFace (State.Shifted.of_warmed h.1) _ rfl hl
  simp only [Cond.before, Cond.holds, Cond.value, Term.eval] at h1 ⊢
  have e2 : (s0.setVm U.vm).fieldNamed? C n d true = U.fieldNamed? C n d true := rfl
  have e3 : (s0.setVm U.vm).heap = s0.heap := rfl
  rw [e2, e3] at h1
  cases hf : U.fieldNamed? C n d true with
  | none => rw [hf] at h1; simp at h1
  | some q =>
    obtain ⟨c', k, i⟩ := q
    rw [hf] at h1
    cases hs : k.statics with
    | none => simp [hs] at h1
    | some a =>
      cases hcell : s0.heap[a]? with
      | none => simp [hs, hcell] at h1
      | some cell =>
        have e4 : U.heap[a]? = some cell := by rw [h.2.2 a (Array.getElem?_eq_some_iff.mp hcell).1, hcell]
        simp only [hs, hcell, e4, Option.bind_some, Option.bind_eq_bind, Option.pure_def] at h1 ⊢
        exact h1
def x_kd : Cond → Bool
  | .laysStatic .. => true
  | .isRef (.static ..) => true
  | c => c.onTables
theorem x_carry {w : Cond} (hkd : x_kd w = true) (hk : w.keepsFace = true) {A A' : Array Value} {s0 U : State} (hO : XO s0 U U.heap) (h : w.before A s0 = true) : w.before A' U = true := by
  cases w with
  | laysStatic C n d => exact x_static hO h
  | isRef t =>
    cases t with
    | static C n d => exact x_isRef hO h
    | _ => simp [x_kd, Cond.onTables] at hkd
  | _ => exact x_word (by simpa [x_kd] using hkd) hk hO.1 h
theorem x_own {A A' : Array Value} {s0 U : State} {own E : String} {ic : Nat} {names : List String} (hO : XO s0 U U.heap) (hkd : (Bundle.ownAtoms own ic E names).all x_kd = true) (h : ∀ a ∈ Bundle.ownAtoms own ic E names, a.before A s0 = true) : ∀ a ∈ Bundle.ownAtoms own ic E names, a.before A' U = true :=
  fun a ha => x_carry (List.all_eq_true.mp hkd a ha) (Bundle.ownAtoms_keepsFace a ha) hO (h a ha)
theorem x_same {s U : State} {k n : Nat} (h : s.sameButNew ({ U with vm := s.vm } : State) [] k n) : XExt s.heap U.heap := by
  obtain ⟨-, h2, -, -, -, h6⟩ := h
  refine ⟨h2, fun q hq => ?_⟩
  obtain ⟨c', e1, e2, e3, e4⟩ := h6 q s.heap[q] (Array.getElem?_eq_getElem hq)
  have e1 : U.heap[q]? = some c' := e1
  have e5 : c'.slots = s.heap[q].slots := Array.ext_getElem? (fun i => e4 i (fun z => by cases z))
  rw [e1, Array.getElem?_eq_getElem hq, e2, e5]
section XK5
variable {p : Program} {l : Launch} {e : Env} {R : Room} {s : State} {m : MethodId} {args : Array Value} {below : List Frame} {meth : Method} {c : Code} {H : Heap} {locs : List Loc} {cells slots : Nat} {Q : State → Prop}
/-- throw new E("..") in a method that catches nothing and has written nothing -/
theorem x_throw {cc : ByteArray} {own E txt : String} {ia ib ic q : Nat} {names : List String} {pc : Nat} {ls : Array Slot} {rest : List Value} {Qc : Array Value → State → Outcome → State → Prop} {free : Addr → Prop}
    (hx : p.tables.exec = Jvm.exec) (hb : c.code = cc) (hfl : l.flags = pinnedFlags ++ [noTraceFlag]) (hown : s.vm.findClass own = some m.cls) (hlocks : meth.locks = false) (hnt : c.exceptionTable.isEmpty = true) (hsize : ls.size = c.maxLocals)
    (hcl : (Cond.classLink own ia E).before args s = true) (hini : (Cond.initialized E).before args s = true) (hstr : vk_R own ib txt q s) (hat : ∀ a ∈ Bundle.ownAtoms own ic E names, a.before args s = true) (hf1 : Bundle.fit E = true) (hf2 : ∀ n ∈ names, Bundle.fit n = true)
    (d0 : decode cc pc = .ok (.new ia, 3)) (d3 : decode cc (pc + 3) = .ok (.dup, 1)) (d4 : decode cc (pc + 4) = .ok (.ldc ib, 2)) (d6 : decode cc (pc + 6) = .ok (.invokespecial ic, 3)) (d9 : decode cc (pc + 9) = .ok (.athrow, 1))
    (hrf : names.length + 3 < R.frames) (hrl : (rest.map fun v => v.category).sum + 1 + (13 * (names.length + 1) + 42) ≤ R.locals) (hrc : cells + 1 ≤ R.cells) (hrs : slots + 6 ≤ R.slots)
    (hq : ∀ (x : Addr) (t : State), XH E x t.heap s → XExt s.heap t.heap → Qc args s (.threw x) t) :
    W p l e R s m args below meth c s.heap [] cells slots (XMQ below Qc args s (cells + 1) (slots + 6) free) (F0 m pc ls rest) := by
  intro T hT X
  subst hb
  have htr : e.platform.stackTraces = false := Launch.traces_off hfl X.admits
  obtain ⟨vm₁, cX, kX, hfX, hkX, -, -, X₁, st1⟩ := X.newCold hx (own := own) (C := E) (index := ia) (n := 6) hown hcl (hat (.instantiable E 6) (by simp [Bundle.ownAtoms])) hini (g := F0 m pc ls rest) rfl d0 hrc hrs
  generalize hT1 : (T.setVm vm₁).pushCell { cls := cX, slots := kX.instanceTypes.map defaultValue, vm := .none } = T₁ at X₁ st1
  have hcellA : T₁.heap[T.heap.size]? = some (freshCell cX kX) := by rw [← hT1]; exact State.heap_pushCell_size _ _
  obtain ⟨U, hsteps, hrun, hend, hW, hsame, ce, hce, K⟩ := X₁.ctorThrowS hx htr (own := own) (cls := E) (names := names) (ic := ic) hown hf1 hf2 hat (fun y hy => by cases hy) hfX hkX hcellA (by rw [hT]; exact Nat.le_refl _) (msg := .ref q) rfl
    (g := F0 m (pc + 6) ls (.ref q :: .ref T.heap.size :: .ref T.heap.size :: rest)) rfl hsize rfl rfl (rest := rest) rfl d6 d9 (covers_of_empty hnt _) hrf (by
      show 2 * 0 + ((Value.ref T.heap.size :: rest).map fun v => v.category).sum + _ ≤ _
      simp only [List.map_cons, List.sum_cons]
      have : (Value.ref T.heap.size).category = 1 := rfl
      omega)
  refine ⟨U, ?_, .threw T.heap.size, hrun, hend, hq _ _ ⟨ce, hce, K.vm, K.cls⟩ (x_same hsame), [], ⟨hW, hsame⟩, fun q hq => by cases hq⟩
  refine st1 _ ?_
  show Steps p.tables e below (T₁.setTop (F0 m (pc + 3) ls (.ref T.heap.size :: rest))) _
  jvm_step X₁.here [X₁.here.top, hx, d3, Value.category]
  exact X₁.ldcString hx (own := own) (text := txt) (index := ib) (a := q) hown hstr.1 hstr.2 (g := F0 m (pc + 4) ls (.ref T.heap.size :: .ref T.heap.size :: rest)) rfl d4 _ hsteps
/-- caught here: on at the handler, the exception alone on the stack -/
theorem x_caught {x : Addr} {pc hp : Nat} {ls : Array Slot} {st : List Value} (hf : ∀ T : State, T.heap = H → s.WarmedH T.vm → T.vm.method? m = some meth → Finds e ((T.setTop (F0 m pc ls st)).pushFrame (.throwing x)) (F0 m pc ls st) x (.found hp))
    (k : W p l e R s m args below meth c H locs cells slots Q (F0 m hp ls [.ref x])) : XT p l e R s m args below meth c H locs cells slots Q (F0 m pc ls st) x := by
  intro T hT X
  obtain ⟨t, a, b⟩ := k T hT X
  exact ⟨t, X.catchAt x (g := F0 m pc ls st) rfl (hf T hT X.warmed X.method') a, b⟩
end XK5
end
section
/-! the state: ints and longs by region, number, place -/
abbrev XS : Type := (Nat → Nat → Nat → Int32) × (Nat → Nat → Nat → Int64)
def xuI (σ : XS) (r i j : Nat) (v : Int32) : XS := (fun r' i' j' => if r' = r ∧ i' = i ∧ j' = j then v else σ.1 r' i' j', σ.2)
def xuL (σ : XS) (r i j : Nat) (v : Int64) : XS := (σ.1, fun r' i' j' => if r' = r ∧ i' = i ∧ j' = j then v else σ.2 r' i' j')
def XA (r i : Nat) : Nat := match r with
  | 0 => 0
  | 1 => 1
  | 2 => 2
  | 3 => 3
  | 4 => 4
  | 5 => 5 + i
  | 6 => 11
  | 7 => 12
  | 8 => 13
  | 9 => 14 + 6 * i
  | 10 => 15 + 6 * i
  | 11 => 16 + 6 * i
  | 12 => 17 + 6 * i
  | 13 => 18 + 6 * i
  | 14 => 19 + 6 * i
  | 15 => 110
  | 16 => 111
  | 17 => 112
  | 18 => 113
  | 19 => 114
  | 20 => 115
  | 21 => 116
  | 22 => 117
  | 23 => 118
  | 24 => 119
  | 25 => 120
  | 26 => 121
  | 27 => 122
  | 28 => 123
  | 29 => 124
  | 30 => 125
  | 31 => 126
  | _ => 0
def XN (r : Nat) : Nat := match r with
  | 0 => 1
  | 1 => 1
  | 2 => 1
  | 3 => 1
  | 4 => 1
  | 5 => 6
  | 6 => 1
  | 7 => 1
  | 8 => 1
  | 9 => 16
  | 10 => 16
  | 11 => 16
  | 12 => 16
  | 13 => 16
  | 14 => 16
  | 15 => 1
  | 16 => 1
  | 17 => 1
  | 18 => 1
  | 19 => 1
  | 20 => 1
  | 21 => 1
  | 22 => 1
  | 23 => 1
  | 24 => 1
  | 25 => 1
  | 26 => 1
  | 27 => 1
  | 28 => 1
  | 29 => 1
  | 30 => 1
  | 31 => 1
  | _ => 0
def xB (s0 : State) : Nat := s0.heap.size
def XE0 (dA : Nat → ClassId) (B : Nat) (f : Nat → Int32) (g : Nat → Int64) (r i : Nat) : va_E := match r with
  | 0 => .inr (0, [.ref (B + XA 1 0), .ref (B + XA 2 0), .ref (B + XA 3 0), .ref (B + XA 4 0), .ref (B + XA 6 0), .ref (B + XA 7 0), .int (f 6), .int (f 7), .int (f 8)])
  | 1 => .inl (dA 0, 30, .inl f)
  | 2 => .inl (dA 0, 30, .inl f)
  | 3 => .inl (dA 0, 30, .inl f)
  | 4 => .inl (dA 3, 6, .inr (.inr (.inr (.inr fun j => some (B + XA 5 j)))))
  | 5 => .inl (dA 0, 240, .inl f)
  | 6 => .inl (dA 4, 16, .inr (.inr (.inr (.inr fun j => some (B + XA 9 j)))))
  | 7 => .inr (2, [.ref (B + XA 8 0), .long (g 1)])
  | 8 => .inl (dA 0, 300, .inl f)
  | 9 => .inr (1, [.ref (B + XA 10 i), .ref (B + XA 11 i), .ref (B + XA 12 i), .ref (B + XA 13 i), .ref (B + XA 14 i), .int (f 5), .int (f 6), .int (f 7), .int (f 8), .int (f 9), .int (f 10), .long (g 11), .long (g 12)])
  | 10 => .inl (dA 0, 8, .inl f)
  | 11 => .inl (dA 1, 8, .inl f)
  | 12 => .inl (dA 0, 240, .inl f)
  | 13 => .inl (dA 0, 30, .inl f)
  | 14 => .inl (dA 0, 30, .inl f)
  | 15 => .inr (3, [.int (f 0), .int (f 1), .int (f 2), .ref (B + XA 16 0), .ref (B + XA 17 0), .ref (B + XA 18 0), .int (f 6), .ref (B + XA 19 0), .ref (B + XA 20 0), .ref (B + XA 21 0), .ref (B + XA 22 0), .ref (B + XA 23 0), .ref (B + XA 24 0), .ref (B + XA 25 0), .ref (B + XA 26 0), .ref (B + XA 27 0), .ref (B + XA 28 0), .ref (B + XA 29 0), .int (f 18), .ref (B + XA 30 0)])
  | 16 => .inl (dA 0, 30, .inl f)
  | 17 => .inl (dA 0, 30, .inl f)
  | 18 => .inl (dA 0, 30, .inl f)
  | 19 => .inl (dA 0, 16, .inl f)
  | 20 => .inl (dA 0, 16, .inl f)
  | 21 => .inl (dA 0, 16, .inl f)
  | 22 => .inl (dA 0, 16, .inl f)
  | 23 => .inl (dA 0, 16, .inl f)
  | 24 => .inl (dA 0, 128, .inl f)
  | 25 => .inl (dA 1, 128, .inl f)
  | 26 => .inl (dA 0, 480, .inl f)
  | 27 => .inl (dA 0, 480, .inl f)
  | 28 => .inl (dA 0, 3840, .inl f)
  | 29 => .inl (dA 0, 1440, .inl f)
  | 30 => .inl (dA 0, 300, .inl f)
  | 31 => .inl (dA 2, 1, .inr (.inl g))
  | _ => .inr (0, [])
def XE (dA : Nat → ClassId) (B : Nat) (σ : XS) (r i : Nat) : va_E := XE0 dA B (σ.1 r i) (σ.2 r i) r i
theorem xuI_row (σ : XS) (r i j : Nat) (v : Int32) : (xuI σ r i j v).1 r i = upd (σ.1 r i) j v := by
  funext k
  simp [xuI, upd]
theorem xuL_row (σ : XS) (r i j : Nat) (v : Int64) : (xuL σ r i j v).2 r i = vp_updL (σ.2 r i) j v := by
  funext k
  simp [xuL, vp_updL]
theorem xuI_oth (σ : XS) (r i j : Nat) (v : Int32) {r' i' : Nat} (h : ¬ (r' = r ∧ i' = i)) : (xuI σ r i j v).1 r' i' = σ.1 r' i' := by
  funext k
  show (if r' = r ∧ i' = i ∧ k = j then v else σ.1 r' i' k) = _
  rw [if_neg (fun q => h ⟨q.1, q.2.1⟩)]
theorem xuL_oth (σ : XS) (r i j : Nat) (v : Int64) {r' i' : Nat} (h : ¬ (r' = r ∧ i' = i)) : (xuL σ r i j v).2 r' i' = σ.2 r' i' := by
  funext k
  show (if r' = r ∧ i' = i ∧ k = j then v else σ.2 r' i' k) = _
  rw [if_neg (fun q => h ⟨q.1, q.2.1⟩)]
theorem xe_uI (dA : Nat → ClassId) (B : Nat) (σ : XS) (r i j : Nat) (v : Int32) : XE dA B (xuI σ r i j v) r i = XE0 dA B (upd (σ.1 r i) j v) (σ.2 r i) r i := by
  unfold XE
  rw [xuI_row]
  rfl
theorem xe_uL (dA : Nat → ClassId) (B : Nat) (σ : XS) (r i j : Nat) (v : Int64) : XE dA B (xuL σ r i j v) r i = XE0 dA B (σ.1 r i) (vp_updL (σ.2 r i) j v) r i := by
  unfold XE
  rw [xuL_row]
  rfl
theorem xe_oI (dA : Nat → ClassId) (B : Nat) (σ : XS) (r i j : Nat) (v : Int32) : ∀ r' i', ¬ (r' = r ∧ i' = i) → XE dA B (xuI σ r i j v) r' i' = XE dA B σ r' i' := fun r' i' h => by
  unfold XE
  rw [xuI_oth σ r i j v h]
  rfl
theorem xe_oL (dA : Nat → ClassId) (B : Nat) (σ : XS) (r i j : Nat) (v : Int64) : ∀ r' i', ¬ (r' = r ∧ i' = i) → XE dA B (xuL σ r i j v) r' i' = XE dA B σ r' i' := fun r' i' h => by
  unfold XE
  rw [xuL_oth σ r i j v h]
  rfl
def xInvL : List (Nat × Nat) := [(0, 0), (1, 0), (2, 0), (3, 0), (4, 0), (5, 0), (5, 1), (5, 2), (5, 3), (5, 4), (5, 5), (6, 0), (7, 0), (8, 0), (9, 0), (10, 0), (11, 0), (12, 0), (13, 0), (14, 0), (9, 1), (10, 1), (11, 1), (12, 1), (13, 1), (14, 1), (9, 2), (10, 2), (11, 2), (12, 2), (13, 2), (14, 2), (9, 3), (10, 3), (11, 3), (12, 3), (13, 3), (14, 3), (9, 4), (10, 4), (11, 4), (12, 4), (13, 4), (14, 4), (9, 5), (10, 5), (11, 5), (12, 5), (13, 5), (14, 5), (9, 6), (10, 6), (11, 6), (12, 6), (13, 6), (14, 6), (9, 7), (10, 7), (11, 7), (12, 7), (13, 7), (14, 7), (9, 8), (10, 8), (11, 8), (12, 8), (13, 8), (14, 8), (9, 9), (10, 9), (11, 9), (12, 9), (13, 9), (14, 9), (9, 10), (10, 10), (11, 10), (12, 10), (13, 10), (14, 10), (9, 11), (10, 11), (11, 11), (12, 11), (13, 11), (14, 11), (9, 12), (10, 12), (11, 12), (12, 12), (13, 12), (14, 12), (9, 13), (10, 13), (11, 13), (12, 13), (13, 13), (14, 13), (9, 14), (10, 14), (11, 14), (12, 14), (13, 14), (14, 14), (9, 15), (10, 15), (11, 15), (12, 15), (13, 15), (14, 15), (15, 0), (16, 0), (17, 0), (18, 0), (19, 0), (20, 0), (21, 0), (22, 0), (23, 0), (24, 0), (25, 0), (26, 0), (27, 0), (28, 0), (29, 0), (30, 0), (31, 0)]
theorem xInv_all : ((List.range 32).all fun r => (List.range (XN r)).all fun i => decide (xInvL[XA r i]? = some (r, i))) = true := by decide +kernel
theorem xN_lt {r i : Nat} (h : i < XN r) : r < 32 := by
  rcases Nat.lt_or_ge r 32 with q | q
  · exact q
  · exfalso
    have : XN r = 0 := by
      unfold XN
      split <;> first | rfl | omega
    omega
theorem xInv_at {r i : Nat} (h : i < XN r) : xInvL[XA r i]? = some (r, i) := by
  have h1 := List.all_eq_true.mp (List.all_eq_true.mp xInv_all r (List.mem_range.mpr (xN_lt h))) i (List.mem_range.mpr h)
  exact of_decide_eq_true h1
theorem xInj : XInj XA XN := fun r i r' i' h h' he => by
  have h1 := xInv_at h
  rw [he, xInv_at h'] at h1
  have h2 := Option.some.inj h1
  exact ⟨(congrArg Prod.fst h2).symm, (congrArg Prod.snd h2).symm⟩
def xtys (dA : Nat → ClassId) : List (ClassId × FieldType) := [(dA 0, .int), (dA 1, .boolean), (dA 2, .long), (dA 3, .array .int), (dA 4, .object "LoadChecks$Vehicle")]
def xT : List Cond := lw_tbl.filter x_goodW
def xStr : List (String × Nat × String) := [("LoadChecks", 219, "no such kind"), ("LoadChecks", 225, "outside its range"), ("LoadChecks", 56, "no room for one more vehicle"), ("LoadChecks", 217, "no such vehicle"), ("LoadChecks", 221, "no such cupboard"), ("LoadChecks", 86, "the cupboard is not empty"), ("LoadChecks", 223, "no such item"), ("LoadChecks", 99, "a vehicle or the stock has some of the old weight"), ("LoadChecks", 105, "no room in stock"), ("LoadChecks", 230, "an axle would be beyond its limit"), ("LoadChecks", 232, "no room in the cupboard"), ("LoadChecks", 228, "there are not so many"), ("LoadChecks", 137, "a vehicle swaps with another one"), ("LoadChecks", 153, "the seal is so already"), ("LoadChecks", 188, "below the first"), ("LoadChecks", 193, "nothing is needed"), ("LoadChecks", 196, "no such number of an axle"), ("LoadChecks", 212, "no such row or number of it")]
end
section
/-! the contracts' form -/
def XWs (D : va_G) (dA : Nat → ClassId) (s0 : State) (σ : XS) (H : Heap) : Prop := XW D vwCl XA XN (xB s0) (XE dA (xB s0) σ) H
def xAm (s0 : State) : Nat → Prop := fun q => xB s0 ≤ q
theorem xA_in (s0 : State) (r i : Nat) : xAm s0 (xB s0 + XA r i) := Nat.le_add_right _ _
/-- what is fixed from the law's start s0 on -/
def XS0 (l : Launch) (s0 : State) (A0 : Array Value) (D : va_G) (dA : Nat → ClassId) : Prop :=
  l.flags = pinnedFlags ++ [noTraceFlag] ∧ (∀ w ∈ lw_tbl, w.before A0 s0 = true) ∧ va_K D vwCl (xtys dA) s0 ∧ ∀ q ∈ xStr, ∃ a, vk_R q.1 q.2.1 q.2.2 a s0
def XP (D : va_G) (dA : Nat → ClassId) (s0 : State) (σ : XS) (av : List Value) : Array Value → State → Prop := fun v U => v = av.toArray ∧ XWs D dA s0 σ U.heap ∧ XO s0 U U.heap
theorem xp_blind {D : va_G} {dA : Nat → ClassId} {s0 : State} {σ : XS} {av : List Value} : FrameBlind (XP D dA s0 σ av) := fun _ _ _ _ h => ⟨h.1, h.2.1, h.2.2⟩
def XQp {α : Type} (vw : α → Option Value) (res : α ⊕ String) : Array Value → State → Outcome → State → Prop := fun _ st o t =>
  (∃ v, res = .inl v ∧ o = .returned (vw v) ∧ t.heap = st.heap) ∨ (∃ (E : String) (x : Addr), res = .inr E ∧ o = .threw x ∧ XH E x t.heap st ∧ XExt st.heap t.heap)
def XQs (D : va_G) (dA : Nat → ClassId) (s0 : State) {α : Type} (vw : α → Option Value) (res : (α × XS) ⊕ String) : Array Value → State → Outcome → State → Prop := fun _ st o t =>
  (∃ v σ, res = .inl (v, σ) ∧ o = .returned (vw v) ∧ XWs D dA s0 σ t.heap ∧ XExt s0.heap t.heap) ∨ (∃ (E : String) (x : Addr), res = .inr E ∧ o = .threw x ∧ XH E x t.heap st ∧ XExt st.heap t.heap)
def xv_i (v : Int32) : Option Value := some (.int v)
def xv_l (v : Int64) : Option Value := some (.long v)
def xv_v (_ : Unit) : Option Value := none
def xv_r (s0 : State) (r : Nat) (i : Nat) : Option Value := some (.ref (xB s0 + XA r i))
theorem xs_cw {l : Launch} {s0 s : State} {A0 : Array Value} {D : va_G} {dA : Nat → ClassId} {y : MethodName} {bytes : ByteArray} {maxL : Nat} {ret : Option FieldType} (h0 : XS0 l s0 A0 D dA) (hW0 : s0.WarmedH s.vm) (hmem : Cond.code y bytes maxL ret ∈ lw_tbl) :
    ∀ (a : Array Value) (U : State), s.WarmedH U.vm → (Cond.code y bytes maxL ret).before a U = true ∧ XCode y maxL U := fun a U hW => by
  have h : (Cond.code y bytes maxL ret).before a U = true := x_word rfl rfl (State.WarmedH.trans hW0 hW) (h0.2.1 _ hmem)
  exact ⟨h, x_code h⟩
theorem xs_cwW {l : Launch} {s0 s : State} {A0 : Array Value} {D : va_G} {dA : Nat → ClassId} {y : MethodName} {bytes : ByteArray} {maxL : Nat} {ret : Option FieldType} {hh : List (Nat × Nat × Nat × Nat)} (h0 : XS0 l s0 A0 D dA) (hW0 : s0.WarmedH s.vm) (hmem : Cond.codeWith y bytes maxL ret hh ∈ lw_tbl) :
    ∀ (a : Array Value) (U : State), s.WarmedH U.vm → (Cond.codeWith y bytes maxL ret hh).before a U = true ∧ XCode y maxL U := fun a U hW => by
  have h : (Cond.codeWith y bytes maxL ret hh).before a U = true := x_word rfl rfl (State.WarmedH.trans hW0 hW) (h0.2.1 _ hmem)
  exact ⟨h, x_codeW h⟩
/-- any word of the tables, at a later state -/
theorem xs_w {l : Launch} {s0 s : State} {A0 args : Array Value} {D : va_G} {dA : Nat → ClassId} (h0 : XS0 l s0 A0 D dA) (hW0 : s0.WarmedH s.vm) : ∀ w ∈ xT, w.before args s = true := fun w hw => by
  obtain ⟨h1, h2⟩ := List.mem_filter.mp hw
  have h3 : w.onTables = true ∧ w.keepsFace = true := by simpa [x_goodW] using h2
  exact x_word h3.1 h3.2 hW0 (h0.2.1 w h1)
theorem xs_K {l : Launch} {s0 s : State} {A0 : Array Value} {D : va_G} {dA : Nat → ClassId} (h0 : XS0 l s0 A0 D dA) (hW0 : s0.WarmedH s.vm) : va_K D vwCl (xtys dA) s := va_K.moved hW0.alike h0.2.2.1
theorem xs_N {l : Launch} {s0 s : State} {A0 args : Array Value} {D : va_G} {dA : Nat → ClassId} (h0 : XS0 l s0 A0 D dA) (hW0 : s0.WarmedH s.vm) {a : String} {i : Nat} {b n d h : String} (hm : Cond.fieldLinkNest a i b n d h ∈ lw_tbl) : (Cond.fieldLinkNest a i b n d h).before args s = true :=
  va_Nw.use rfl (va_Nw.warmF hW0 (va_Nw.of rfl (h0.2.1 _ hm)))
theorem xs_M {l : Launch} {s0 s : State} {A0 args : Array Value} {D : va_G} {dA : Nat → ClassId} (h0 : XS0 l s0 A0 D dA) (hW0 : s0.WarmedH s.vm) {a : String} {i : Nat} {x : MethodName} {h : String} (hm : Cond.methodLinkNest a i x h ∈ lw_tbl) : (Cond.methodLinkNest a i x h).before args s = true :=
  va_Nw.use rfl (va_Nw.warmM hW0 (va_Nw.of rfl (h0.2.1 _ hm)))
theorem xs_str {l : Launch} {s0 s : State} {A0 : Array Value} {D : va_G} {dA : Nat → ClassId} (h0 : XS0 l s0 A0 D dA) (hW0 : s0.WarmedH s.vm) {own tx : String} {k : Nat} (hm : (own, k, tx) ∈ xStr) : ∃ a, vk_R own k tx a s := by
  obtain ⟨a, h⟩ := h0.2.2.2 _ hm
  exact ⟨a, vk_R.warm hW0 h⟩
theorem vp_lt {j : Int32} {n : Nat} (h : vp_in j n) : j.toNatClampNeg < n := Nat.not_le.mp fun q => h (Or.inr q)
section XK6
variable {p : Program} {l : Launch} {e : Env} {R : Room} {s s0 : State} {m : MethodId} {args : Array Value} {below : List Frame} {meth : Method} {c : Code} {H : Heap} {locs : List Loc} {cells slots : Nat} {Q : State → Prop} {D : va_G} {dA : Nat → ClassId} {σ : XS}
theorem xo_S (hS : va_S (xAm s0) s0.heap H locs) : XExt s0.heap H := ⟨hS.1, fun q hq => hS.2.1 q hq (Nat.not_le.mpr hq)⟩
theorem xo_S0 (hO : XO s0 s s.heap) : va_S (xAm s0) s0.heap s.heap [] := ⟨hO.2.1, fun q hq _ => hO.2.2 q hq, fun q h => by cases h⟩
/-- a call of a method that writes nothing -/
theorem xc_p {α : Type} {vw : α → Option Value} {res : α ⊕ String} {y : MethodName} {av rest st0 : List Value} {pc : Nat} {ls : Array Slot} {ig : Instr} {rm : Room} {mc ms maxL : Nat} {cw : Cond}
    (I : XInv p l e R s m args below meth c H locs cells slots (F0 m pc ls st0) rest y av) (hM : XMet l y [cw] rm (XP D dA s0 σ av) (XQp vw res) mc ms (fun _ => False))
    (hcw : ∀ (a : Array Value) (U : State), s.WarmedH U.vm → cw.before a U = true ∧ XCode y maxL U) (hini : (Cond.initialized y.cls).before args s = true)
    (hr : rm.cells = mc ∧ rm.slots = ms ∧ rm.frames + 1 ≤ R.frames ∧ 8 + (maxL + 11) + rm.locals ≤ R.locals)
    (hsize : ls.size = c.maxLocals) (hdg : decode c.code pc = .ok (ig, 3)) (hWt : (rest.map fun v => v.category).sum ≤ 8) (hroom : cells + mc ≤ R.cells ∧ slots + ms ≤ R.slots)
    (hX : XWs D dA s0 σ H) (hO : XO s0 s H)
    (kr : ∀ v, res = .inl v → W p l e R s m args below meth c H locs (cells + mc) (slots + ms) Q (F0 m (pc + 3) ls ((vw v).toList ++ rest)))
    (kt : ∀ (E : String) (x : Addr) (H1 : Heap), res = .inr E → XH E x H1 s → XExt H H1 → XT p l e R s m args below meth c H1 locs (cells + mc) (slots + ms) Q (F0 m pc ls rest) x) :
    W p l e R s m args below meth c H locs cells slots Q (F0 m pc ls st0) := by
  refine x_go I (x_back hM xp_blind hr.1 hr.2.1 hr.2.2.1 hr.2.2.2 (fun w hw a' U hW => ?_) (fun U mk hW hn => ?_) (fun a' U hW => x_word rfl rfl hW hini)) hsize hdg hWt hroom (fun U hU hW => ⟨rfl, by rw [hU]; exact hX, State.WarmedH.trans hO.1 hW, by rw [hU]; exact hO.2⟩) ?_ ?_
  · cases List.mem_singleton.mp hw
    exact (hcw a' U hW).1
  · obtain ⟨mk', methY, cY, h1, h2, h3, h4, -⟩ := (hcw #[] U hW).2
    cases hn.symm.trans h1
    exact ⟨methY, cY, h2, h3, h4⟩
  · intro v st₀ t L h1 h2 h3 hq hL
    have hL0 : L = [] := List.eq_nil_iff_forall_not_mem.mpr (fun q hq => hL q hq)
    subst hL0
    rw [List.append_nil]
    rcases hq with ⟨v', e1, e2, e3⟩ | ⟨E, x, -, e2, -⟩
    · cases e2
      rw [e3, h1]
      exact kr v' e1
    · cases e2
  · intro x st₀ t L h1 h2 h3 hq hL
    have hL0 : L = [] := List.eq_nil_iff_forall_not_mem.mpr (fun q hq => hL q hq)
    subst hL0
    rw [List.append_nil]
    rcases hq with ⟨v', -, e2, -⟩ | ⟨E, x', e1, e2, e3, e4⟩
    · cases e2
    · cases e2
      exact kt E x t.heap e1 (e3.moved h2.alike.symm) (by rw [← h1]; exact e4)
theorem xc_f {α : Type} {vw : α → Option Value} {v : α} {y : MethodName} {av rest st0 : List Value} {pc : Nat} {ls : Array Slot} {ig : Instr} {rm : Room} {maxL : Nat} {cw : Cond}
    (I : XInv p l e R s m args below meth c H locs cells slots (F0 m pc ls st0) rest y av) (hM : XMet l y [cw] rm (XP D dA s0 σ av) (XQp vw (.inl v)) 0 0 (fun _ => False))
    (hcw : ∀ (a : Array Value) (U : State), s.WarmedH U.vm → cw.before a U = true ∧ XCode y maxL U) (hini : (Cond.initialized y.cls).before args s = true)
    (hr : rm.cells = 0 ∧ rm.slots = 0 ∧ rm.frames + 1 ≤ R.frames ∧ 8 + (maxL + 11) + rm.locals ≤ R.locals)
    (hsize : ls.size = c.maxLocals) (hdg : decode c.code pc = .ok (ig, 3)) (hWt : (rest.map fun v => v.category).sum ≤ 8) (hroom : cells ≤ R.cells ∧ slots ≤ R.slots)
    (hX : XWs D dA s0 σ H) (hO : XO s0 s H)
    (kr : W p l e R s m args below meth c H locs cells slots Q (F0 m (pc + 3) ls ((vw v).toList ++ rest))) :
    W p l e R s m args below meth c H locs cells slots Q (F0 m pc ls st0) :=
  xc_p I hM hcw hini hr hsize hdg hWt hroom hX hO (fun v' h => by cases h; exact kr) (fun E x H1 h => by cases h)
/-- a call of a method that may write and may throw -/
theorem xc_s {α : Type} {vw : α → Option Value} {res : (α × XS) ⊕ String} {y : MethodName} {av rest st0 : List Value} {pc : Nat} {ls : Array Slot} {ig : Instr} {rm : Room} {mc ms maxL : Nat} {cw : Cond}
    (I : XInv p l e R s m args below meth c H locs cells slots (F0 m pc ls st0) rest y av) (hM : XMet l y [cw] rm (XP D dA s0 σ av) (XQs D dA s0 vw res) mc ms (xAm s0))
    (hcw : ∀ (a : Array Value) (U : State), s.WarmedH U.vm → cw.before a U = true ∧ XCode y maxL U) (hini : (Cond.initialized y.cls).before args s = true)
    (hr : rm.cells = mc ∧ rm.slots = ms ∧ rm.frames + 1 ≤ R.frames ∧ 8 + (maxL + 11) + rm.locals ≤ R.locals)
    (hsize : ls.size = c.maxLocals) (hdg : decode c.code pc = .ok (ig, 3)) (hWt : (rest.map fun v => v.category).sum ≤ 8) (hroom : cells + mc ≤ R.cells ∧ slots + ms ≤ R.slots)
    (hX : XWs D dA s0 σ H) (hW0 : s0.WarmedH s.vm) (hS : va_S (xAm s0) s0.heap H locs)
    (kr : ∀ (v : α) (σ1 : XS) (H1 : Heap) (locs1 : List Loc), res = .inl (v, σ1) → XWs D dA s0 σ1 H1 → va_S (xAm s0) s0.heap H1 locs1 → W p l e R s m args below meth c H1 locs1 (cells + mc) (slots + ms) Q (F0 m (pc + 3) ls ((vw v).toList ++ rest)))
    (kt : ∀ (E : String) (x : Addr) (H1 : Heap) (locs1 : List Loc), res = .inr E → XH E x H1 s → XExt H H1 → va_S (xAm s0) s0.heap H1 locs1 → XT p l e R s m args below meth c H1 locs1 (cells + mc) (slots + ms) Q (F0 m pc ls rest) x) :
    W p l e R s m args below meth c H locs cells slots Q (F0 m pc ls st0) := by
  refine x_go I (x_back hM xp_blind hr.1 hr.2.1 hr.2.2.1 hr.2.2.2 (fun w hw a' U hW => ?_) (fun U mk hW hn => ?_) (fun a' U hW => x_word rfl rfl hW hini)) hsize hdg hWt hroom (fun U hU hW => ⟨rfl, by rw [hU]; exact hX, State.WarmedH.trans hW0 hW, by rw [hU]; exact xo_S hS⟩) ?_ ?_
  · cases List.mem_singleton.mp hw
    exact (hcw a' U hW).1
  · obtain ⟨mk', methY, cY, h1, h2, h3, h4, -⟩ := (hcw #[] U hW).2
    cases hn.symm.trans h1
    exact ⟨methY, cY, h2, h3, h4⟩
  · intro v st₀ t L h1 h2 h3 hq hL
    rcases hq with ⟨v', σ1, e1, e2, e3, e4⟩ | ⟨E, x, -, e2, -⟩
    · cases e2
      refine kr v' σ1 t.heap (locs ++ L) e1 e3 ⟨e4.1, fun q hq _ => e4.2 q hq, fun q hq => ?_⟩
      rcases List.mem_append.mp hq with h | h
      · exact hS.2.2 q h
      · exact hL q h
    · cases e2
  · intro x st₀ t L h1 h2 h3 hq hL
    rcases hq with ⟨v', σ1, -, e2, -⟩ | ⟨E, x', e1, e2, e3, e4⟩
    · cases e2
    · cases e2
      rw [h1] at e4
      have e5 := (xo_S hS).tr e4
      refine kt E x t.heap (locs ++ L) e1 (e3.moved h2.alike.symm) e4 ⟨e5.1, fun q hq _ => e5.2 q hq, fun q hq => ?_⟩
      rcases List.mem_append.mp hq with h | h
      · exact hS.2.2 q h
      · exact hL q h
variable {cc : ByteArray} {pc : Nat} {ls : Array Slot} {rest : List Value}
/-! ends -/
theorem xr_i (hexec : p.tables.exec = Jvm.exec) (hb : c.code = cc) (hr : meth.sig.returnType = some .int) (hlocks : meth.locks = false) {v : Int32} (hdg : decode cc pc = .ok (.ireturn, 1)) : W p l e R s m args below meth c s.heap [] cells slots (XMQ below (XQp xv_i (.inl v)) args s cells slots (fun _ => False)) (F0 m pc ls [.int v]) :=
  x_mono x_ofMQ (W.iret hexec hb hr (fun t ht hW => Or.inl ⟨v, rfl, rfl, ht⟩) (fun q h => by cases h) hdg hlocks)
theorem xr_z (hexec : p.tables.exec = Jvm.exec) (hb : c.code = cc) (hr : meth.sig.returnType = some .boolean) (hlocks : meth.locks = false) {v : Int32} (hn : narrow .boolean (.int v) = .int v) (hdg : decode cc pc = .ok (.ireturn, 1)) : W p l e R s m args below meth c s.heap [] cells slots (XMQ below (XQp xv_i (.inl v)) args s cells slots (fun _ => False)) (F0 m pc ls [.int v]) :=
  x_mono x_ofMQ (W.zret hexec hb hr hn (fun t ht hW => Or.inl ⟨v, rfl, rfl, ht⟩) (fun q h => by cases h) hdg hlocks)
theorem xr_l (hexec : p.tables.exec = Jvm.exec) (hb : c.code = cc) (hr : meth.sig.returnType = some .long) (hlocks : meth.locks = false) {v : Int64} (hdg : decode cc pc = .ok (.lreturn, 1)) : W p l e R s m args below meth c s.heap [] cells slots (XMQ below (XQp xv_l (.inl v)) args s cells slots (fun _ => False)) (F0 m pc ls [.long v]) :=
  x_mono x_ofMQ (W.lret hexec hb hr (fun t ht hW => Or.inl ⟨v, rfl, rfl, ht⟩) (fun q h => by cases h) hdg hlocks)
theorem xr_v (hexec : p.tables.exec = Jvm.exec) (hb : c.code = cc) (hr : meth.sig.returnType = none) (hlocks : meth.locks = false) (hdg : decode cc pc = .ok (.return_, 1)) : W p l e R s m args below meth c s.heap [] cells slots (XMQ below (XQp xv_v (.inl ())) args s cells slots (fun _ => False)) (F0 m pc ls []) :=
  x_mono x_ofMQ (W.vret hexec hb hr (fun t ht hW => Or.inl ⟨(), rfl, rfl, ht⟩) (fun q h => by cases h) hdg hlocks)
theorem xr_a (hexec : p.tables.exec = Jvm.exec) (hb : c.code = cc) {rt : FieldType} (hr : meth.sig.returnType = some rt) (hrt : (∃ n, rt = .object n) ∨ ∃ t, rt = .array t) (hlocks : meth.locks = false) {r i : Nat} (hdg : decode cc pc = .ok (.areturn, 1)) : W p l e R s m args below meth c s.heap [] cells slots (XMQ below (XQp (xv_r s0 r) (.inl i)) args s cells slots (fun _ => False)) (F0 m pc ls [.ref (xB s0 + XA r i)]) :=
  x_mono x_ofMQ (W.aret hexec hb hr hrt (Or.inr ⟨_, rfl⟩) (fun t ht hW => Or.inl ⟨i, rfl, rfl, ht⟩) (fun q h => by cases h) hdg hlocks)
theorem xs_i (hexec : p.tables.exec = Jvm.exec) (hb : c.code = cc) (hr : meth.sig.returnType = some .int) (hlocks : meth.locks = false) (hX : XWs D dA s0 σ H) (hS : va_S (xAm s0) s0.heap H locs) {v : Int32} (hdg : decode cc pc = .ok (.ireturn, 1)) : W p l e R s m args below meth c H locs cells slots (XMQ below (XQs D dA s0 xv_i (.inl (v, σ))) args s cells slots (xAm s0)) (F0 m pc ls [.int v]) :=
  x_mono x_ofMQ (W.iret hexec hb hr (fun t ht hW => Or.inl ⟨v, σ, rfl, rfl, by rw [ht]; exact hX, by rw [ht]; exact xo_S hS⟩) hS.2.2 hdg hlocks)
theorem xs_v (hexec : p.tables.exec = Jvm.exec) (hb : c.code = cc) (hr : meth.sig.returnType = none) (hlocks : meth.locks = false) (hX : XWs D dA s0 σ H) (hS : va_S (xAm s0) s0.heap H locs) (hdg : decode cc pc = .ok (.return_, 1)) : W p l e R s m args below meth c H locs cells slots (XMQ below (XQs D dA s0 xv_v (.inl ((), σ))) args s cells slots (xAm s0)) (F0 m pc ls []) :=
  x_mono x_ofMQ (W.vret hexec hb hr (fun t ht hW => Or.inl ⟨(), σ, rfl, rfl, by rw [ht]; exact hX, by rw [ht]; exact xo_S hS⟩) hS.2.2 hdg hlocks)
/-- what a callee threw is thrown on: a method that writes nothing -/
theorem xt_p {α : Type} {vw : α → Option Value} {E : String} {x : Addr} {H1 : Heap} {st : List Value} (hlocks : meth.locks = false) (hnt : c.exceptionTable.isEmpty = true) (hE : XH E x H1 s) (hext : XExt s.heap H1) : XT p l e R s m args below meth c H1 [] cells slots (XMQ below (XQp vw (.inr E)) args s cells slots (fun _ => False)) (F0 m pc ls st) x :=
  x_out hlocks (covers_of_empty hnt _) (fun t ht hW => Or.inr ⟨E, x, rfl, rfl, by rw [ht]; exact hE, by rw [ht]; exact hext⟩) (fun q h => by cases h)
theorem xt_s {α : Type} {vw : α → Option Value} {E : String} {x : Addr} {H1 : Heap} {st : List Value} (hlocks : meth.locks = false) (hnt : c.exceptionTable.isEmpty = true) (hE : XH E x H1 s) (hext : XExt s.heap H1) (hf : ∀ q ∈ locs, xAm s0 q.base) : XT p l e R s m args below meth c H1 locs cells slots (XMQ below (XQs D dA s0 vw (.inr E)) args s cells slots (xAm s0)) (F0 m pc ls st) x :=
  x_out hlocks (covers_of_empty hnt _) (fun t ht hW => Or.inr ⟨E, x, rfl, rfl, by rw [ht]; exact hE, by rw [ht]; exact hext⟩) hf
/-- a W with XMQ at lower counts -/
theorem xw_wid {Qc : Array Value → State → Outcome → State → Prop} {free : Addr → Prop} {g : JFrame} {k n : Nat} (h1 : cells ≤ k) (h2 : slots ≤ n) (kk : W p l e R s m args below meth c H locs k n Q g) : W p l e R s m args below meth c H locs cells slots Q g := W.widen h1 h2 kk
theorem xt_wid {g : JFrame} {x : Addr} {k n : Nat} (h1 : cells ≤ k) (h2 : slots ≤ n) (kk : XT p l e R s m args below meth c H locs k n Q g x) : XT p l e R s m args below meth c H locs cells slots Q g x := fun T hT X => kk T hT (stand_widen X h1 h2)
end XK6
end
