section
-- ===== PART A: goes FIRST, ahead of the names: the tables' words, and 'selects' of the private methods out of them =====
/-- a private method of a class that the tables say can be made, by its rows of tables_1 -/
def lw_okq (q : MethodName × Nat) : Prop := (q.1.cls ≠ "java/lang/invoke/MethodHandle" ∧ q.1.cls ≠ "java/lang/invoke/VarHandle") ∧ Cond.instantiable q.1.cls q.2 ∈ tables_1 ∧ Cond.privateMethod q.1 ∈ tables_1 ∧ Cond.instanceMethod q.1 ∈ tables_1
theorem lw_p0 : lw_okq (⟨"java/lang/Throwable", "fillInStackTrace", "(I)Ljava/lang/Throwable;"⟩, 6) := ⟨⟨by decide +kernel, by decide +kernel⟩, List.mem_of_getElem? (i := 182) (by decide +kernel), List.mem_of_getElem? (i := 180) (by decide +kernel), List.mem_of_getElem? (i := 181) (by decide +kernel)⟩
theorem lw_p1 : lw_okq (⟨"LoadChecks", "knownVehicle", "(I)LLoadChecks$Vehicle;"⟩, 9) := ⟨⟨by decide +kernel, by decide +kernel⟩, List.mem_of_getElem? (i := 16) (by decide +kernel), List.mem_of_getElem? (i := 258) (by decide +kernel), List.mem_of_getElem? (i := 259) (by decide +kernel)⟩
theorem lw_p2 : lw_okq (⟨"LoadChecks$Vehicle", "isEmpty", "(I)Z"⟩, 13) := ⟨⟨by decide +kernel, by decide +kernel⟩, List.mem_of_getElem? (i := 41) (by decide +kernel), List.mem_of_getElem? (i := 275) (by decide +kernel), List.mem_of_getElem? (i := 276) (by decide +kernel)⟩
theorem lw_p3 : lw_okq (⟨"LoadChecks", "isAnywhere", "(I)Z"⟩, 9) := ⟨⟨by decide +kernel, by decide +kernel⟩, List.mem_of_getElem? (i := 16) (by decide +kernel), List.mem_of_getElem? (i := 310) (by decide +kernel), List.mem_of_getElem? (i := 311) (by decide +kernel)⟩
theorem lw_p4 : lw_okq (⟨"LoadChecks$Vehicle", "carries", "(I)Z"⟩, 13) := ⟨⟨by decide +kernel, by decide +kernel⟩, List.mem_of_getElem? (i := 41) (by decide +kernel), List.mem_of_getElem? (i := 314) (by decide +kernel), List.mem_of_getElem? (i := 315) (by decide +kernel)⟩
theorem lw_p5 : lw_okq (⟨"LoadChecks", "requireBearable", "(LLoadChecks$Vehicle;II)V"⟩, 9) := ⟨⟨by decide +kernel, by decide +kernel⟩, List.mem_of_getElem? (i := 16) (by decide +kernel), List.mem_of_getElem? (i := 342) (by decide +kernel), List.mem_of_getElem? (i := 343) (by decide +kernel)⟩
theorem lw_p6 : lw_okq (⟨"LoadChecks$Vehicle", "bears", "(III)Z"⟩, 13) := ⟨⟨by decide +kernel, by decide +kernel⟩, List.mem_of_getElem? (i := 41) (by decide +kernel), List.mem_of_getElem? (i := 346) (by decide +kernel), List.mem_of_getElem? (i := 347) (by decide +kernel)⟩
theorem lw_p7 : lw_okq (⟨"LoadChecks$Vehicle", "frontMoment", "()J"⟩, 13) := ⟨⟨by decide +kernel, by decide +kernel⟩, List.mem_of_getElem? (i := 41) (by decide +kernel), List.mem_of_getElem? (i := 350) (by decide +kernel), List.mem_of_getElem? (i := 351) (by decide +kernel)⟩
theorem lw_p8 : lw_okq (⟨"LoadChecks$Vehicle", "exceeds", "(JI)Z"⟩, 13) := ⟨⟨by decide +kernel, by decide +kernel⟩, List.mem_of_getElem? (i := 41) (by decide +kernel), List.mem_of_getElem? (i := 354) (by decide +kernel), List.mem_of_getElem? (i := 355) (by decide +kernel)⟩
theorem lw_p9 : lw_okq (⟨"LoadChecks$Vehicle", "rearMoment", "()J"⟩, 13) := ⟨⟨by decide +kernel, by decide +kernel⟩, List.mem_of_getElem? (i := 41) (by decide +kernel), List.mem_of_getElem? (i := 358) (by decide +kernel), List.mem_of_getElem? (i := 359) (by decide +kernel)⟩
theorem lw_p10 : lw_okq (⟨"LoadChecks$Vehicle", "load", "(III)V"⟩, 13) := ⟨⟨by decide +kernel, by decide +kernel⟩, List.mem_of_getElem? (i := 41) (by decide +kernel), List.mem_of_getElem? (i := 367) (by decide +kernel), List.mem_of_getElem? (i := 368) (by decide +kernel)⟩
theorem lw_p11 : lw_okq (⟨"LoadChecks$Vehicle", "lackOf", "(II)I"⟩, 13) := ⟨⟨by decide +kernel, by decide +kernel⟩, List.mem_of_getElem? (i := 41) (by decide +kernel), List.mem_of_getElem? (i := 389) (by decide +kernel), List.mem_of_getElem? (i := 390) (by decide +kernel)⟩
theorem lw_p12 : lw_okq (⟨"LoadChecks$Rows", "add", "(III)V"⟩, 2) := ⟨⟨by decide +kernel, by decide +kernel⟩, List.mem_of_getElem? (i := 28) (by decide +kernel), List.mem_of_getElem? (i := 407) (by decide +kernel), List.mem_of_getElem? (i := 408) (by decide +kernel)⟩
theorem lw_p13 : lw_okq (⟨"LoadChecks$Vehicle", "missingCell", "([II)I"⟩, 13) := ⟨⟨by decide +kernel, by decide +kernel⟩, List.mem_of_getElem? (i := 41) (by decide +kernel), List.mem_of_getElem? (i := 455) (by decide +kernel), List.mem_of_getElem? (i := 456) (by decide +kernel)⟩
theorem lw_p14 : lw_okq (⟨"LoadChecks$Vehicle", "hasBrokenSeal", "()Z"⟩, 13) := ⟨⟨by decide +kernel, by decide +kernel⟩, List.mem_of_getElem? (i := 41) (by decide +kernel), List.mem_of_getElem? (i := 460) (by decide +kernel), List.mem_of_getElem? (i := 461) (by decide +kernel)⟩
theorem lw_p15 : lw_okq (⟨"LoadChecks$Vehicle", "needsPastItem", "([II)Z"⟩, 13) := ⟨⟨by decide +kernel, by decide +kernel⟩, List.mem_of_getElem? (i := 41) (by decide +kernel), List.mem_of_getElem? (i := 464) (by decide +kernel), List.mem_of_getElem? (i := 465) (by decide +kernel)⟩
def lw_privs_1 : List (MethodName × Nat) := [(⟨"java/lang/Throwable", "fillInStackTrace", "(I)Ljava/lang/Throwable;"⟩, 6), (⟨"LoadChecks", "knownVehicle", "(I)LLoadChecks$Vehicle;"⟩, 9), (⟨"LoadChecks$Vehicle", "isEmpty", "(I)Z"⟩, 13), (⟨"LoadChecks", "isAnywhere", "(I)Z"⟩, 9), (⟨"LoadChecks$Vehicle", "carries", "(I)Z"⟩, 13), (⟨"LoadChecks", "requireBearable", "(LLoadChecks$Vehicle;II)V"⟩, 9), (⟨"LoadChecks$Vehicle", "bears", "(III)Z"⟩, 13), (⟨"LoadChecks$Vehicle", "frontMoment", "()J"⟩, 13), (⟨"LoadChecks$Vehicle", "exceeds", "(JI)Z"⟩, 13), (⟨"LoadChecks$Vehicle", "rearMoment", "()J"⟩, 13), (⟨"LoadChecks$Vehicle", "load", "(III)V"⟩, 13), (⟨"LoadChecks$Vehicle", "lackOf", "(II)I"⟩, 13), (⟨"LoadChecks$Rows", "add", "(III)V"⟩, 2), (⟨"LoadChecks$Vehicle", "missingCell", "([II)I"⟩, 13), (⟨"LoadChecks$Vehicle", "hasBrokenSeal", "()Z"⟩, 13), (⟨"LoadChecks$Vehicle", "needsPastItem", "([II)Z"⟩, 13)]
theorem lw_r1 : ∀ q ∈ lw_privs_1, lw_okq q := List.forall_mem_cons.mpr ⟨lw_p0, List.forall_mem_cons.mpr ⟨lw_p1, List.forall_mem_cons.mpr ⟨lw_p2, List.forall_mem_cons.mpr ⟨lw_p3, List.forall_mem_cons.mpr ⟨lw_p4, List.forall_mem_cons.mpr ⟨lw_p5, List.forall_mem_cons.mpr ⟨lw_p6, List.forall_mem_cons.mpr ⟨lw_p7, List.forall_mem_cons.mpr ⟨lw_p8, List.forall_mem_cons.mpr ⟨lw_p9, List.forall_mem_cons.mpr ⟨lw_p10, List.forall_mem_cons.mpr ⟨lw_p11, List.forall_mem_cons.mpr ⟨lw_p12, List.forall_mem_cons.mpr ⟨lw_p13, List.forall_mem_cons.mpr ⟨lw_p14, List.forall_mem_cons.mpr ⟨lw_p15, fun _ h => absurd h List.not_mem_nil⟩⟩⟩⟩⟩⟩⟩⟩⟩⟩⟩⟩⟩⟩⟩⟩
theorem lw_p16 : lw_okq (⟨"LoadChecks$Vehicle", "needsWeakItem", "([I[I)Z"⟩, 13) := ⟨⟨by decide +kernel, by decide +kernel⟩, List.mem_of_getElem? (i := 41) (by decide +kernel), List.mem_of_getElem? (i := 468) (by decide +kernel), List.mem_of_getElem? (i := 469) (by decide +kernel)⟩
theorem lw_p17 : lw_okq (⟨"LoadChecks$Vehicle", "isBeyond", "()Z"⟩, 13) := ⟨⟨by decide +kernel, by decide +kernel⟩, List.mem_of_getElem? (i := 41) (by decide +kernel), List.mem_of_getElem? (i := 472) (by decide +kernel), List.mem_of_getElem? (i := 473) (by decide +kernel)⟩
theorem lw_p18 : lw_okq (⟨"LoadChecks$Rows", "keeps", "(I)Z"⟩, 2) := ⟨⟨by decide +kernel, by decide +kernel⟩, List.mem_of_getElem? (i := 28) (by decide +kernel), List.mem_of_getElem? (i := 534) (by decide +kernel), List.mem_of_getElem? (i := 535) (by decide +kernel)⟩
theorem lw_p19 : lw_okq (⟨"LoadChecks$Rows", "number", "(II)I"⟩, 2) := ⟨⟨by decide +kernel, by decide +kernel⟩, List.mem_of_getElem? (i := 28) (by decide +kernel), List.mem_of_getElem? (i := 539) (by decide +kernel), List.mem_of_getElem? (i := 540) (by decide +kernel)⟩
theorem lw_p20 : lw_okq (⟨"LoadChecksModel", "throwing", "(ZZZZ)Z"⟩, 20) := ⟨⟨by decide +kernel, by decide +kernel⟩, List.mem_of_getElem? (i := 557) (by decide +kernel), List.mem_of_getElem? (i := 639) (by decide +kernel), List.mem_of_getElem? (i := 640) (by decide +kernel)⟩
theorem lw_p21 : lw_okq (⟨"LoadChecksModel", "isVehicle", "(I)Z"⟩, 20) := ⟨⟨by decide +kernel, by decide +kernel⟩, List.mem_of_getElem? (i := 557) (by decide +kernel), List.mem_of_getElem? (i := 647) (by decide +kernel), List.mem_of_getElem? (i := 648) (by decide +kernel)⟩
theorem lw_p22 : lw_okq (⟨"LoadChecksModel", "isEmpty", "(II)Z"⟩, 20) := ⟨⟨by decide +kernel, by decide +kernel⟩, List.mem_of_getElem? (i := 557) (by decide +kernel), List.mem_of_getElem? (i := 658) (by decide +kernel), List.mem_of_getElem? (i := 659) (by decide +kernel)⟩
theorem lw_p23 : lw_okq (⟨"LoadChecksModel", "isSomewhere", "(I)Z"⟩, 20) := ⟨⟨by decide +kernel, by decide +kernel⟩, List.mem_of_getElem? (i := 557) (by decide +kernel), List.mem_of_getElem? (i := 670) (by decide +kernel), List.mem_of_getElem? (i := 671) (by decide +kernel)⟩
theorem lw_p24 : lw_okq (⟨"LoadChecksModel", "isThing", "(III)Z"⟩, 20) := ⟨⟨by decide +kernel, by decide +kernel⟩, List.mem_of_getElem? (i := 557) (by decide +kernel), List.mem_of_getElem? (i := 686) (by decide +kernel), List.mem_of_getElem? (i := 687) (by decide +kernel)⟩
theorem lw_p25 : lw_okq (⟨"LoadChecksModel", "isTooMuch", "(IIII)Z"⟩, 20) := ⟨⟨by decide +kernel, by decide +kernel⟩, List.mem_of_getElem? (i := 557) (by decide +kernel), List.mem_of_getElem? (i := 690) (by decide +kernel), List.mem_of_getElem? (i := 691) (by decide +kernel)⟩
theorem lw_p26 : lw_okq (⟨"LoadChecksModel", "bears", "(IZ)J"⟩, 20) := ⟨⟨by decide +kernel, by decide +kernel⟩, List.mem_of_getElem? (i := 557) (by decide +kernel), List.mem_of_getElem? (i := 694) (by decide +kernel), List.mem_of_getElem? (i := 695) (by decide +kernel)⟩
theorem lw_p27 : lw_okq (⟨"LoadChecksModel", "momentOf", "(I)J"⟩, 20) := ⟨⟨by decide +kernel, by decide +kernel⟩, List.mem_of_getElem? (i := 557) (by decide +kernel), List.mem_of_getElem? (i := 698) (by decide +kernel), List.mem_of_getElem? (i := 699) (by decide +kernel)⟩
theorem lw_p28 : lw_okq (⟨"LoadChecksModel", "sumOf", "(I)J"⟩, 20) := ⟨⟨by decide +kernel, by decide +kernel⟩, List.mem_of_getElem? (i := 557) (by decide +kernel), List.mem_of_getElem? (i := 702) (by decide +kernel), List.mem_of_getElem? (i := 703) (by decide +kernel)⟩
theorem lw_p29 : lw_okq (⟨"LoadChecksModel", "isBeyond", "(IZ)Z"⟩, 20) := ⟨⟨by decide +kernel, by decide +kernel⟩, List.mem_of_getElem? (i := 557) (by decide +kernel), List.mem_of_getElem? (i := 706) (by decide +kernel), List.mem_of_getElem? (i := 707) (by decide +kernel)⟩
theorem lw_p30 : lw_okq (⟨"LoadChecksModel", "missingOf", "(II)I"⟩, 20) := ⟨⟨by decide +kernel, by decide +kernel⟩, List.mem_of_getElem? (i := 557) (by decide +kernel), List.mem_of_getElem? (i := 718) (by decide +kernel), List.mem_of_getElem? (i := 719) (by decide +kernel)⟩
theorem lw_p31 : lw_okq (⟨"LoadChecksModel", "tell", "(III)V"⟩, 20) := ⟨⟨by decide +kernel, by decide +kernel⟩, List.mem_of_getElem? (i := 557) (by decide +kernel), List.mem_of_getElem? (i := 726) (by decide +kernel), List.mem_of_getElem? (i := 727) (by decide +kernel)⟩
def lw_privs_2 : List (MethodName × Nat) := [(⟨"LoadChecks$Vehicle", "needsWeakItem", "([I[I)Z"⟩, 13), (⟨"LoadChecks$Vehicle", "isBeyond", "()Z"⟩, 13), (⟨"LoadChecks$Rows", "keeps", "(I)Z"⟩, 2), (⟨"LoadChecks$Rows", "number", "(II)I"⟩, 2), (⟨"LoadChecksModel", "throwing", "(ZZZZ)Z"⟩, 20), (⟨"LoadChecksModel", "isVehicle", "(I)Z"⟩, 20), (⟨"LoadChecksModel", "isEmpty", "(II)Z"⟩, 20), (⟨"LoadChecksModel", "isSomewhere", "(I)Z"⟩, 20), (⟨"LoadChecksModel", "isThing", "(III)Z"⟩, 20), (⟨"LoadChecksModel", "isTooMuch", "(IIII)Z"⟩, 20), (⟨"LoadChecksModel", "bears", "(IZ)J"⟩, 20), (⟨"LoadChecksModel", "momentOf", "(I)J"⟩, 20), (⟨"LoadChecksModel", "sumOf", "(I)J"⟩, 20), (⟨"LoadChecksModel", "isBeyond", "(IZ)Z"⟩, 20), (⟨"LoadChecksModel", "missingOf", "(II)I"⟩, 20), (⟨"LoadChecksModel", "tell", "(III)V"⟩, 20)]
theorem lw_r2 : ∀ q ∈ lw_privs_2, lw_okq q := List.forall_mem_cons.mpr ⟨lw_p16, List.forall_mem_cons.mpr ⟨lw_p17, List.forall_mem_cons.mpr ⟨lw_p18, List.forall_mem_cons.mpr ⟨lw_p19, List.forall_mem_cons.mpr ⟨lw_p20, List.forall_mem_cons.mpr ⟨lw_p21, List.forall_mem_cons.mpr ⟨lw_p22, List.forall_mem_cons.mpr ⟨lw_p23, List.forall_mem_cons.mpr ⟨lw_p24, List.forall_mem_cons.mpr ⟨lw_p25, List.forall_mem_cons.mpr ⟨lw_p26, List.forall_mem_cons.mpr ⟨lw_p27, List.forall_mem_cons.mpr ⟨lw_p28, List.forall_mem_cons.mpr ⟨lw_p29, List.forall_mem_cons.mpr ⟨lw_p30, List.forall_mem_cons.mpr ⟨lw_p31, fun _ h => absurd h List.not_mem_nil⟩⟩⟩⟩⟩⟩⟩⟩⟩⟩⟩⟩⟩⟩⟩⟩
theorem lw_p32 : lw_okq (⟨"LoadChecksModel", "isNeeded", "(II)Z"⟩, 20) := ⟨⟨by decide +kernel, by decide +kernel⟩, List.mem_of_getElem? (i := 557) (by decide +kernel), List.mem_of_getElem? (i := 754) (by decide +kernel), List.mem_of_getElem? (i := 755) (by decide +kernel)⟩
def lw_privs_3 : List (MethodName × Nat) := [(⟨"LoadChecksModel", "isNeeded", "(II)Z"⟩, 20)]
theorem lw_r3 : ∀ q ∈ lw_privs_3, lw_okq q := List.forall_mem_cons.mpr ⟨lw_p32, fun _ h => absurd h List.not_mem_nil⟩
def lw_privs : List (MethodName × Nat) := lw_privs_1 ++ (lw_privs_2 ++ (lw_privs_3))
def lw_tbl : List Cond := k2_sels lw_privs ++ tables_1
theorem lw_privs_ok : ∀ q ∈ lw_privs, lw_okq q := by
  show ∀ q ∈ lw_privs_1 ++ (lw_privs_2 ++ (lw_privs_3)), lw_okq q
  exact List.forall_mem_append.mpr ⟨lw_r1, List.forall_mem_append.mpr ⟨lw_r2, lw_r3⟩⟩
end
section
/-! names: classes, fields in the order of the slots -/
def R_LC : String := "LoadChecks"
def F_LC : u_T := fun k => match k with
  | 0 => ("LoadChecks", "weights", "[I", true)
  | 1 => ("LoadChecks", "leastBatteries", "[I", true)
  | 2 => ("LoadChecks", "stocks", "[I", true)
  | 3 => ("LoadChecks", "needs", "[[I", true)
  | 4 => ("LoadChecks", "vehicles", "[LLoadChecks$Vehicle;", true)
  | 5 => ("LoadChecks", "rows", "LLoadChecks$Rows;", true)
  | 6 => ("LoadChecks", "vehicleCount", "I", false)
  | 7 => ("LoadChecks", "presentDay", "I", false)
  | _ => ("LoadChecks", "presentShift", "I", false)
def t_LC : Nat → FieldType := fun k => match k with
  | 0 => .array .int
  | 1 => .array .int
  | 2 => .array .int
  | 3 => .array (.array .int)
  | 4 => .array (.object "LoadChecks$Vehicle")
  | 5 => .object "LoadChecks$Rows"
  | 6 => .int
  | 7 => .int
  | _ => .int
theorem n_LC : ∀ a, a < 9 → ∀ b, b < 9 → a ≠ b → (F_LC a).2.1 ≠ (F_LC b).2.1 := by decide +kernel
theorem t_LC_ok : ∀ k, k < 9 → parseFieldDescriptor (F_LC k).2.2.1 = some (t_LC k) := by decide +kernel
def R_VE : String := "LoadChecks$Vehicle"
def F_VE : u_T := fun k => match k with
  | 0 => ("LoadChecks$Vehicle", "places", "[I", true)
  | 1 => ("LoadChecks$Vehicle", "brokenSeals", "[Z", true)
  | 2 => ("LoadChecks$Vehicle", "counts", "[I", true)
  | 3 => ("LoadChecks$Vehicle", "endDays", "[I", true)
  | 4 => ("LoadChecks$Vehicle", "batteries", "[I", true)
  | 5 => ("LoadChecks$Vehicle", "kind", "I", false)
  | 6 => ("LoadChecks$Vehicle", "wheelbase", "I", false)
  | 7 => ("LoadChecks$Vehicle", "frontLimit", "I", false)
  | 8 => ("LoadChecks$Vehicle", "rearLimit", "I", false)
  | 9 => ("LoadChecks$Vehicle", "checkedDay", "I", false)
  | 10 => ("LoadChecks$Vehicle", "checkedShift", "I", false)
  | 11 => ("LoadChecks$Vehicle", "grams", "J", false)
  | _ => ("LoadChecks$Vehicle", "moment", "J", false)
def t_VE : Nat → FieldType := fun k => match k with
  | 0 => .array .int
  | 1 => .array .boolean
  | 2 => .array .int
  | 3 => .array .int
  | 4 => .array .int
  | 5 => .int
  | 6 => .int
  | 7 => .int
  | 8 => .int
  | 9 => .int
  | 10 => .int
  | 11 => .long
  | _ => .long
theorem n_VE : ∀ a, a < 13 → ∀ b, b < 13 → a ≠ b → (F_VE a).2.1 ≠ (F_VE b).2.1 := by decide +kernel
theorem t_VE_ok : ∀ k, k < 13 → parseFieldDescriptor (F_VE k).2.2.1 = some (t_VE k) := by decide +kernel
def R_RW : String := "LoadChecks$Rows"
def F_RW : u_T := fun k => match k with
  | 0 => ("LoadChecks$Rows", "numbers", "[I", true)
  | _ => ("LoadChecks$Rows", "made", "J", false)
def t_RW : Nat → FieldType := fun k => match k with
  | 0 => .array .int
  | _ => .long
theorem n_RW : ∀ a, a < 2 → ∀ b, b < 2 → a ≠ b → (F_RW a).2.1 ≠ (F_RW b).2.1 := by decide +kernel
theorem t_RW_ok : ∀ k, k < 2 → parseFieldDescriptor (F_RW k).2.2.1 = some (t_RW k) := by decide +kernel
def R_MO : String := "LoadChecksModel"
def F_MO : u_T := fun k => match k with
  | 0 => ("LoadChecksModel", "thrown", "I", false)
  | 1 => ("LoadChecksModel", "day", "I", false)
  | 2 => ("LoadChecksModel", "shift", "I", false)
  | 3 => ("LoadChecksModel", "weight", "[I", true)
  | 4 => ("LoadChecksModel", "least", "[I", true)
  | 5 => ("LoadChecksModel", "stock", "[I", true)
  | 6 => ("LoadChecksModel", "vehicles", "I", false)
  | 7 => ("LoadChecksModel", "kind", "[I", true)
  | 8 => ("LoadChecksModel", "base", "[I", true)
  | 9 => ("LoadChecksModel", "front", "[I", true)
  | 10 => ("LoadChecksModel", "rear", "[I", true)
  | 11 => ("LoadChecksModel", "checked", "[I", true)
  | 12 => ("LoadChecksModel", "places", "[I", true)
  | 13 => ("LoadChecksModel", "broken", "[Z", true)
  | 14 => ("LoadChecksModel", "end", "[I", true)
  | 15 => ("LoadChecksModel", "battery", "[I", true)
  | 16 => ("LoadChecksModel", "count", "[I", true)
  | 17 => ("LoadChecksModel", "needs", "[I", true)
  | 18 => ("LoadChecksModel", "rows", "I", false)
  | _ => ("LoadChecksModel", "told", "[I", true)
def t_MO : Nat → FieldType := fun k => match k with
  | 0 => .int
  | 1 => .int
  | 2 => .int
  | 3 => .array .int
  | 4 => .array .int
  | 5 => .array .int
  | 6 => .int
  | 7 => .array .int
  | 8 => .array .int
  | 9 => .array .int
  | 10 => .array .int
  | 11 => .array .int
  | 12 => .array .int
  | 13 => .array .boolean
  | 14 => .array .int
  | 15 => .array .int
  | 16 => .array .int
  | 17 => .array .int
  | 18 => .int
  | _ => .array .int
theorem n_MO : ∀ a, a < 20 → ∀ b, b < 20 → a ≠ b → (F_MO a).2.1 ≠ (F_MO b).2.1 := by decide +kernel
theorem t_MO_ok : ∀ k, k < 20 → parseFieldDescriptor (F_MO k).2.2.1 = some (t_MO k) := by decide +kernel
abbrev vwCl : List vw_C := [(R_LC, F_LC, 9), (R_VE, F_VE, 13), (R_RW, F_RW, 2), (R_MO, F_MO, 20)]
/-! methods -/
abbrev b_LC_init : ByteArray := prog_1_method_1_code
abbrev y_LC_init : MethodName := ⟨"LoadChecks", "<init>", "()V"⟩
abbrev cw_LC_init : Cond := .code y_LC_init b_LC_init 2 none
abbrev b_LC_vehicle : ByteArray := prog_1_method_2_code
abbrev y_LC_vehicle : MethodName := ⟨"LoadChecks", "vehicle", "(IIII)I"⟩
abbrev cw_LC_vehicle : Cond := .code y_LC_vehicle b_LC_vehicle 6 (some .int)
abbrev b_LC_limits : ByteArray := prog_1_method_3_code
abbrev y_LC_limits : MethodName := ⟨"LoadChecks", "limits", "(III)V"⟩
abbrev cw_LC_limits : Cond := .code y_LC_limits b_LC_limits 5 none
abbrev b_LC_place : ByteArray := prog_1_method_4_code
abbrev y_LC_place : MethodName := ⟨"LoadChecks", "place", "(III)V"⟩
abbrev cw_LC_place : Cond := .code y_LC_place b_LC_place 5 none
abbrev b_LC_item : ByteArray := prog_1_method_5_code
abbrev y_LC_item : MethodName := ⟨"LoadChecks", "item", "(III)V"⟩
abbrev cw_LC_item : Cond := .code y_LC_item b_LC_item 4 none
abbrev b_LC_list : ByteArray := prog_1_method_6_code
abbrev y_LC_list : MethodName := ⟨"LoadChecks", "list", "(IIII)V"⟩
abbrev cw_LC_list : Cond := .code y_LC_list b_LC_list 5 none
abbrev b_LC_stock : ByteArray := prog_1_method_7_code
abbrev y_LC_stock : MethodName := ⟨"LoadChecks", "stock", "(II)I"⟩
abbrev cw_LC_stock : Cond := .code y_LC_stock b_LC_stock 3 (some .int)
abbrev b_LC_put : ByteArray := prog_1_method_8_code
abbrev y_LC_put : MethodName := ⟨"LoadChecks", "put", "(IIII)I"⟩
abbrev cw_LC_put : Cond := .code y_LC_put b_LC_put 7 (some .int)
abbrev b_LC_use : ByteArray := prog_1_method_9_code
abbrev y_LC_use : MethodName := ⟨"LoadChecks", "use", "(IIII)I"⟩
abbrev cw_LC_use : Cond := .code y_LC_use b_LC_use 7 (some .int)
abbrev b_LC_replace : ByteArray := prog_1_method_10_code
abbrev y_LC_replace : MethodName := ⟨"LoadChecks", "replace", "(I)I"⟩
abbrev cw_LC_replace : Cond := .code y_LC_replace b_LC_replace 8 (some .int)
abbrev b_LC_swap : ByteArray := prog_1_method_11_code
abbrev y_LC_swap : MethodName := ⟨"LoadChecks", "swap", "(IIIII)V"⟩
abbrev cw_LC_swap : Cond := .code y_LC_swap b_LC_swap 9 none
abbrev b_LC_ends : ByteArray := prog_1_method_12_code
abbrev y_LC_ends : MethodName := ⟨"LoadChecks", "ends", "(III)V"⟩
abbrev cw_LC_ends : Cond := .code y_LC_ends b_LC_ends 5 none
abbrev b_LC_battery : ByteArray := prog_1_method_13_code
abbrev y_LC_battery : MethodName := ⟨"LoadChecks", "battery", "(III)V"⟩
abbrev cw_LC_battery : Cond := .code y_LC_battery b_LC_battery 5 none
abbrev b_LC_seal : ByteArray := prog_1_method_14_code
abbrev y_LC_seal : MethodName := ⟨"LoadChecks", "seal", "(IIZ)V"⟩
abbrev cw_LC_seal : Cond := .code y_LC_seal b_LC_seal 6 none
abbrev b_LC_check : ByteArray := prog_1_method_15_code
abbrev y_LC_check : MethodName := ⟨"LoadChecks", "check", "(I)V"⟩
abbrev cw_LC_check : Cond := .code y_LC_check b_LC_check 3 none
abbrev b_LC_now : ByteArray := prog_1_method_16_code
abbrev y_LC_now : MethodName := ⟨"LoadChecks", "now", "(II)V"⟩
abbrev cw_LC_now : Cond := .code y_LC_now b_LC_now 4 none
abbrev b_LC_ready : ByteArray := prog_1_method_17_code
abbrev y_LC_ready : MethodName := ⟨"LoadChecks", "ready", "(I)I"⟩
abbrev cw_LC_ready : Cond := .code y_LC_ready b_LC_ready 4 (some .int)
abbrev b_LC_missing : ByteArray := prog_1_method_18_code
abbrev y_LC_missing : MethodName := ⟨"LoadChecks", "missing", "(II)I"⟩
abbrev cw_LC_missing : Cond := .code y_LC_missing b_LC_missing 6 (some .int)
abbrev b_LC_share : ByteArray := prog_1_method_19_code
abbrev y_LC_share : MethodName := ⟨"LoadChecks", "share", "(I)I"⟩
abbrev cw_LC_share : Cond := .code y_LC_share b_LC_share 7 (some .int)
abbrev b_LC_axle : ByteArray := prog_1_method_20_code
abbrev y_LC_axle : MethodName := ⟨"LoadChecks", "axle", "(II)J"⟩
abbrev cw_LC_axle : Cond := .code y_LC_axle b_LC_axle 10 (some .long)
abbrev b_LC_row : ByteArray := prog_1_method_21_code
abbrev y_LC_row : MethodName := ⟨"LoadChecks", "row", "(II)I"⟩
abbrev cw_LC_row : Cond := .code y_LC_row b_LC_row 3 (some .int)
abbrev b_LC_has : ByteArray := prog_1_method_22_code
abbrev y_LC_has : MethodName := ⟨"LoadChecks", "has", "(III)I"⟩
abbrev cw_LC_has : Cond := .code y_LC_has b_LC_has 5 (some .int)
abbrev b_LC_stocked : ByteArray := prog_1_method_23_code
abbrev y_LC_stocked : MethodName := ⟨"LoadChecks", "stocked", "(I)I"⟩
abbrev cw_LC_stocked : Cond := .code y_LC_stocked b_LC_stocked 2 (some .int)
abbrev b_LC_knownVehicle : ByteArray := prog_1_method_24_code
abbrev y_LC_knownVehicle : MethodName := ⟨"LoadChecks", "knownVehicle", "(I)LLoadChecks$Vehicle;"⟩
abbrev cw_LC_knownVehicle : Cond := .code y_LC_knownVehicle b_LC_knownVehicle 2 (some (.object "LoadChecks$Vehicle"))
abbrev b_LC_requireKind : ByteArray := prog_1_method_25_code
abbrev y_LC_requireKind : MethodName := ⟨"LoadChecks", "requireKind", "(I)V"⟩
abbrev cw_LC_requireKind : Cond := .code y_LC_requireKind b_LC_requireKind 1 none
abbrev b_LC_requireCupboard : ByteArray := prog_1_method_26_code
abbrev y_LC_requireCupboard : MethodName := ⟨"LoadChecks", "requireCupboard", "(I)V"⟩
abbrev cw_LC_requireCupboard : Cond := .code y_LC_requireCupboard b_LC_requireCupboard 1 none
abbrev b_LC_requireItem : ByteArray := prog_1_method_27_code
abbrev y_LC_requireItem : MethodName := ⟨"LoadChecks", "requireItem", "(I)V"⟩
abbrev cw_LC_requireItem : Cond := .code y_LC_requireItem b_LC_requireItem 1 none
abbrev b_LC_requireRange : ByteArray := prog_1_method_28_code
abbrev y_LC_requireRange : MethodName := ⟨"LoadChecks", "requireRange", "(III)V"⟩
abbrev cw_LC_requireRange : Cond := .code y_LC_requireRange b_LC_requireRange 3 none
abbrev b_LC_requireLimits : ByteArray := prog_1_method_29_code
abbrev y_LC_requireLimits : MethodName := ⟨"LoadChecks", "requireLimits", "(II)V"⟩
abbrev cw_LC_requireLimits : Cond := .code y_LC_requireLimits b_LC_requireLimits 2 none
abbrev b_LC_requireSoMany : ByteArray := prog_1_method_30_code
abbrev y_LC_requireSoMany : MethodName := ⟨"LoadChecks", "requireSoMany", "(LLoadChecks$Vehicle;II)V"⟩
abbrev cw_LC_requireSoMany : Cond := .code y_LC_requireSoMany b_LC_requireSoMany 3 none
abbrev b_LC_requireBearable : ByteArray := prog_1_method_31_code
abbrev y_LC_requireBearable : MethodName := ⟨"LoadChecks", "requireBearable", "(LLoadChecks$Vehicle;II)V"⟩
abbrev cw_LC_requireBearable : Cond := .code y_LC_requireBearable b_LC_requireBearable 4 none
abbrev b_LC_requireRoom : ByteArray := prog_1_method_32_code
abbrev y_LC_requireRoom : MethodName := ⟨"LoadChecks", "requireRoom", "(LLoadChecks$Vehicle;II)V"⟩
abbrev cw_LC_requireRoom : Cond := .code y_LC_requireRoom b_LC_requireRoom 3 none
abbrev b_LC_cellOf : ByteArray := prog_1_method_33_code
abbrev y_LC_cellOf : MethodName := ⟨"LoadChecks", "cellOf", "(II)I"⟩
abbrev cw_LC_cellOf : Cond := .code y_LC_cellOf b_LC_cellOf 2 (some .int)
abbrev b_LC_isAnywhere : ByteArray := prog_1_method_34_code
abbrev y_LC_isAnywhere : MethodName := ⟨"LoadChecks", "isAnywhere", "(I)Z"⟩
abbrev cw_LC_isAnywhere : Cond := .code y_LC_isAnywhere b_LC_isAnywhere 3 (some .boolean)
abbrev b_LC_commonDivisor : ByteArray := prog_1_method_35_code
abbrev y_LC_commonDivisor : MethodName := ⟨"LoadChecks", "commonDivisor", "(JJ)J"⟩
abbrev cw_LC_commonDivisor : Cond := .code y_LC_commonDivisor b_LC_commonDivisor 11 (some .long)
abbrev b_VE_init : ByteArray := prog_3_method_1_code
abbrev y_VE_init : MethodName := ⟨"LoadChecks$Vehicle", "<init>", "()V"⟩
abbrev cw_VE_init : Cond := .code y_VE_init b_VE_init 1 none
abbrev b_VE_frontMoment : ByteArray := prog_3_method_2_code
abbrev y_VE_frontMoment : MethodName := ⟨"LoadChecks$Vehicle", "frontMoment", "()J"⟩
abbrev cw_VE_frontMoment : Cond := .code y_VE_frontMoment b_VE_frontMoment 1 (some .long)
abbrev b_VE_rearMoment : ByteArray := prog_3_method_3_code
abbrev y_VE_rearMoment : MethodName := ⟨"LoadChecks$Vehicle", "rearMoment", "()J"⟩
abbrev cw_VE_rearMoment : Cond := .code y_VE_rearMoment b_VE_rearMoment 1 (some .long)
abbrev b_VE_isBeyond : ByteArray := prog_3_method_4_code
abbrev y_VE_isBeyond : MethodName := ⟨"LoadChecks$Vehicle", "isBeyond", "()Z"⟩
abbrev cw_VE_isBeyond : Cond := .code y_VE_isBeyond b_VE_isBeyond 1 (some .boolean)
abbrev b_VE_exceeds : ByteArray := prog_3_method_5_code
abbrev y_VE_exceeds : MethodName := ⟨"LoadChecks$Vehicle", "exceeds", "(JI)Z"⟩
abbrev cw_VE_exceeds : Cond := .code y_VE_exceeds b_VE_exceeds 4 (some .boolean)
abbrev b_VE_bears : ByteArray := prog_3_method_6_code
abbrev y_VE_bears : MethodName := ⟨"LoadChecks$Vehicle", "bears", "(III)Z"⟩
abbrev cw_VE_bears : Cond := .code y_VE_bears b_VE_bears 12 (some .boolean)
abbrev b_VE_load : ByteArray := prog_3_method_7_code
abbrev y_VE_load : MethodName := ⟨"LoadChecks$Vehicle", "load", "(III)V"⟩
abbrev cw_VE_load : Cond := .code y_VE_load b_VE_load 6 none
abbrev b_VE_isEmpty : ByteArray := prog_3_method_8_code
abbrev y_VE_isEmpty : MethodName := ⟨"LoadChecks$Vehicle", "isEmpty", "(I)Z"⟩
abbrev cw_VE_isEmpty : Cond := .code y_VE_isEmpty b_VE_isEmpty 3 (some .boolean)
abbrev b_VE_carries : ByteArray := prog_3_method_9_code
abbrev y_VE_carries : MethodName := ⟨"LoadChecks$Vehicle", "carries", "(I)Z"⟩
abbrev cw_VE_carries : Cond := .code y_VE_carries b_VE_carries 3 (some .boolean)
abbrev b_VE_lackOf : ByteArray := prog_3_method_10_code
abbrev y_VE_lackOf : MethodName := ⟨"LoadChecks$Vehicle", "lackOf", "(II)I"⟩
abbrev cw_VE_lackOf : Cond := .code y_VE_lackOf b_VE_lackOf 3 (some .int)
abbrev b_VE_missingCell : ByteArray := prog_3_method_11_code
abbrev y_VE_missingCell : MethodName := ⟨"LoadChecks$Vehicle", "missingCell", "([II)I"⟩
abbrev cw_VE_missingCell : Cond := .code y_VE_missingCell b_VE_missingCell 5 (some .int)
abbrev b_VE_hasBrokenSeal : ByteArray := prog_3_method_12_code
abbrev y_VE_hasBrokenSeal : MethodName := ⟨"LoadChecks$Vehicle", "hasBrokenSeal", "()Z"⟩
abbrev cw_VE_hasBrokenSeal : Cond := .code y_VE_hasBrokenSeal b_VE_hasBrokenSeal 2 (some .boolean)
abbrev b_VE_needsPastItem : ByteArray := prog_3_method_13_code
abbrev y_VE_needsPastItem : MethodName := ⟨"LoadChecks$Vehicle", "needsPastItem", "([II)Z"⟩
abbrev cw_VE_needsPastItem : Cond := .code y_VE_needsPastItem b_VE_needsPastItem 5 (some .boolean)
abbrev b_VE_needsWeakItem : ByteArray := prog_3_method_14_code
abbrev y_VE_needsWeakItem : MethodName := ⟨"LoadChecks$Vehicle", "needsWeakItem", "([I[I)Z"⟩
abbrev cw_VE_needsWeakItem : Cond := .code y_VE_needsWeakItem b_VE_needsWeakItem 5 (some .boolean)
abbrev b_RW_init : ByteArray := prog_2_method_1_code
abbrev y_RW_init : MethodName := ⟨"LoadChecks$Rows", "<init>", "()V"⟩
abbrev cw_RW_init : Cond := .code y_RW_init b_RW_init 1 none
abbrev b_RW_add : ByteArray := prog_2_method_2_code
abbrev y_RW_add : MethodName := ⟨"LoadChecks$Rows", "add", "(III)V"⟩
abbrev cw_RW_add : Cond := .code y_RW_add b_RW_add 5 none
abbrev b_RW_keeps : ByteArray := prog_2_method_3_code
abbrev y_RW_keeps : MethodName := ⟨"LoadChecks$Rows", "keeps", "(I)Z"⟩
abbrev cw_RW_keeps : Cond := .code y_RW_keeps b_RW_keeps 2 (some .boolean)
abbrev b_RW_number : ByteArray := prog_2_method_4_code
abbrev y_RW_number : MethodName := ⟨"LoadChecks$Rows", "number", "(II)I"⟩
abbrev cw_RW_number : Cond := .code y_RW_number b_RW_number 3 (some .int)
abbrev b_MO_init : ByteArray := prog_5_method_1_code
abbrev y_MO_init : MethodName := ⟨"LoadChecksModel", "<init>", "()V"⟩
abbrev cw_MO_init : Cond := .code y_MO_init b_MO_init 1 none
abbrev b_MO_thrown : ByteArray := prog_5_method_2_code
abbrev y_MO_thrown : MethodName := ⟨"LoadChecksModel", "thrown", "()I"⟩
abbrev cw_MO_thrown : Cond := .code y_MO_thrown b_MO_thrown 1 (some .int)
abbrev b_MO_throwing : ByteArray := prog_5_method_3_code
abbrev y_MO_throwing : MethodName := ⟨"LoadChecksModel", "throwing", "(ZZZZ)Z"⟩
abbrev cw_MO_throwing : Cond := .code y_MO_throwing b_MO_throwing 5 (some .boolean)
abbrev b_MO_in : ByteArray := prog_5_method_4_code
abbrev y_MO_in : MethodName := ⟨"LoadChecksModel", "in", "(III)Z"⟩
abbrev cw_MO_in : Cond := .code y_MO_in b_MO_in 3 (some .boolean)
abbrev b_MO_isVehicle : ByteArray := prog_5_method_5_code
abbrev y_MO_isVehicle : MethodName := ⟨"LoadChecksModel", "isVehicle", "(I)Z"⟩
abbrev cw_MO_isVehicle : Cond := .code y_MO_isVehicle b_MO_isVehicle 2 (some .boolean)
abbrev b_MO_isCupboard : ByteArray := prog_5_method_6_code
abbrev y_MO_isCupboard : MethodName := ⟨"LoadChecksModel", "isCupboard", "(I)Z"⟩
abbrev cw_MO_isCupboard : Cond := .code y_MO_isCupboard b_MO_isCupboard 1 (some .boolean)
abbrev b_MO_isItem : ByteArray := prog_5_method_7_code
abbrev y_MO_isItem : MethodName := ⟨"LoadChecksModel", "isItem", "(I)Z"⟩
abbrev cw_MO_isItem : Cond := .code y_MO_isItem b_MO_isItem 1 (some .boolean)
abbrev b_MO_isThing : ByteArray := prog_5_method_8_code
abbrev y_MO_isThing : MethodName := ⟨"LoadChecksModel", "isThing", "(III)Z"⟩
abbrev cw_MO_isThing : Cond := .code y_MO_isThing b_MO_isThing 4 (some .boolean)
abbrev b_MO_isLimit : ByteArray := prog_5_method_9_code
abbrev y_MO_isLimit : MethodName := ⟨"LoadChecksModel", "isLimit", "(I)Z"⟩
abbrev cw_MO_isLimit : Cond := .code y_MO_isLimit b_MO_isLimit 1 (some .boolean)
abbrev b_MO_vehicle : ByteArray := prog_5_method_10_code
abbrev y_MO_vehicle : MethodName := ⟨"LoadChecksModel", "vehicle", "(IIII)I"⟩
abbrev cw_MO_vehicle : Cond := .code y_MO_vehicle b_MO_vehicle 7 (some .int)
abbrev b_MO_limits : ByteArray := prog_5_method_11_code
abbrev y_MO_limits : MethodName := ⟨"LoadChecksModel", "limits", "(III)V"⟩
abbrev cw_MO_limits : Cond := .code y_MO_limits b_MO_limits 4 none
abbrev b_MO_isEmpty : ByteArray := prog_5_method_12_code
abbrev y_MO_isEmpty : MethodName := ⟨"LoadChecksModel", "isEmpty", "(II)Z"⟩
abbrev cw_MO_isEmpty : Cond := .code y_MO_isEmpty b_MO_isEmpty 5 (some .boolean)
abbrev b_MO_place : ByteArray := prog_5_method_13_code
abbrev y_MO_place : MethodName := ⟨"LoadChecksModel", "place", "(III)V"⟩
abbrev cw_MO_place : Cond := .code y_MO_place b_MO_place 5 none
abbrev b_MO_isSomewhere : ByteArray := prog_5_method_14_code
abbrev y_MO_isSomewhere : MethodName := ⟨"LoadChecksModel", "isSomewhere", "(I)Z"⟩
abbrev cw_MO_isSomewhere : Cond := .code y_MO_isSomewhere b_MO_isSomewhere 4 (some .boolean)
abbrev b_MO_item : ByteArray := prog_5_method_15_code
abbrev y_MO_item : MethodName := ⟨"LoadChecksModel", "item", "(III)V"⟩
abbrev cw_MO_item : Cond := .code y_MO_item b_MO_item 6 none
abbrev b_MO_list : ByteArray := prog_5_method_16_code
abbrev y_MO_list : MethodName := ⟨"LoadChecksModel", "list", "(IIII)V"⟩
abbrev cw_MO_list : Cond := .code y_MO_list b_MO_list 5 none
abbrev b_MO_stock : ByteArray := prog_5_method_17_code
abbrev y_MO_stock : MethodName := ⟨"LoadChecksModel", "stock", "(II)I"⟩
abbrev cw_MO_stock : Cond := .code y_MO_stock b_MO_stock 5 (some .int)
abbrev b_MO_sumOf : ByteArray := prog_5_method_18_code
abbrev y_MO_sumOf : MethodName := ⟨"LoadChecksModel", "sumOf", "(I)J"⟩
abbrev cw_MO_sumOf : Cond := .code y_MO_sumOf b_MO_sumOf 5 (some .long)
abbrev b_MO_momentOf : ByteArray := prog_5_method_19_code
abbrev y_MO_momentOf : MethodName := ⟨"LoadChecksModel", "momentOf", "(I)J"⟩
abbrev cw_MO_momentOf : Cond := .code y_MO_momentOf b_MO_momentOf 5 (some .long)
abbrev b_MO_bears : ByteArray := prog_5_method_20_code
abbrev y_MO_bears : MethodName := ⟨"LoadChecksModel", "bears", "(IZ)J"⟩
abbrev cw_MO_bears : Cond := .code y_MO_bears b_MO_bears 3 (some .long)
abbrev b_MO_isBeyond : ByteArray := prog_5_method_21_code
abbrev y_MO_isBeyond : MethodName := ⟨"LoadChecksModel", "isBeyond", "(IZ)Z"⟩
abbrev cw_MO_isBeyond : Cond := .code y_MO_isBeyond b_MO_isBeyond 3 (some .boolean)
abbrev b_MO_isTooMuch : ByteArray := prog_5_method_22_code
abbrev y_MO_isTooMuch : MethodName := ⟨"LoadChecksModel", "isTooMuch", "(IIII)Z"⟩
abbrev cw_MO_isTooMuch : Cond := .code y_MO_isTooMuch b_MO_isTooMuch 10 (some .boolean)
abbrev b_MO_put : ByteArray := prog_5_method_23_code
abbrev y_MO_put : MethodName := ⟨"LoadChecksModel", "put", "(IIII)I"⟩
abbrev cw_MO_put : Cond := .code y_MO_put b_MO_put 8 (some .int)
abbrev b_MO_use : ByteArray := prog_5_method_24_code
abbrev y_MO_use : MethodName := ⟨"LoadChecksModel", "use", "(IIII)I"⟩
abbrev cw_MO_use : Cond := .code y_MO_use b_MO_use 6 (some .int)
abbrev b_MO_missingOf : ByteArray := prog_5_method_25_code
abbrev y_MO_missingOf : MethodName := ⟨"LoadChecksModel", "missingOf", "(II)I"⟩
abbrev cw_MO_missingOf : Cond := .code y_MO_missingOf b_MO_missingOf 4 (some .int)
abbrev b_MO_replace : ByteArray := prog_5_method_26_code
abbrev y_MO_replace : MethodName := ⟨"LoadChecksModel", "replace", "(I)I"⟩
abbrev cw_MO_replace : Cond := .code y_MO_replace b_MO_replace 6 (some .int)
abbrev b_MO_tell : ByteArray := prog_5_method_27_code
abbrev y_MO_tell : MethodName := ⟨"LoadChecksModel", "tell", "(III)V"⟩
abbrev cw_MO_tell : Cond := .code y_MO_tell b_MO_tell 5 none
abbrev b_MO_swap : ByteArray := prog_5_method_28_code
abbrev y_MO_swap : MethodName := ⟨"LoadChecksModel", "swap", "(IIIII)V"⟩
abbrev cw_MO_swap : Cond := .code y_MO_swap b_MO_swap 9 none
abbrev b_MO_ends : ByteArray := prog_5_method_29_code
abbrev y_MO_ends : MethodName := ⟨"LoadChecksModel", "ends", "(III)V"⟩
abbrev cw_MO_ends : Cond := .code y_MO_ends b_MO_ends 4 none
abbrev b_MO_battery : ByteArray := prog_5_method_30_code
abbrev y_MO_battery : MethodName := ⟨"LoadChecksModel", "battery", "(III)V"⟩
abbrev cw_MO_battery : Cond := .code y_MO_battery b_MO_battery 4 none
abbrev b_MO_seal : ByteArray := prog_5_method_31_code
abbrev y_MO_seal : MethodName := ⟨"LoadChecksModel", "seal", "(IIZ)V"⟩
abbrev cw_MO_seal : Cond := .code y_MO_seal b_MO_seal 5 none
abbrev b_MO_check : ByteArray := prog_5_method_32_code
abbrev y_MO_check : MethodName := ⟨"LoadChecksModel", "check", "(I)V"⟩
abbrev cw_MO_check : Cond := .code y_MO_check b_MO_check 2 none
abbrev b_MO_now : ByteArray := prog_5_method_33_code
abbrev y_MO_now : MethodName := ⟨"LoadChecksModel", "now", "(II)V"⟩
abbrev cw_MO_now : Cond := .code y_MO_now b_MO_now 4 none
abbrev b_MO_isNeeded : ByteArray := prog_5_method_34_code
abbrev y_MO_isNeeded : MethodName := ⟨"LoadChecksModel", "isNeeded", "(II)Z"⟩
abbrev cw_MO_isNeeded : Cond := .code y_MO_isNeeded b_MO_isNeeded 5 (some .boolean)
abbrev b_MO_ready : ByteArray := prog_5_method_35_code
abbrev y_MO_ready : MethodName := ⟨"LoadChecksModel", "ready", "(I)I"⟩
abbrev cw_MO_ready : Cond := .code y_MO_ready b_MO_ready 3 (some .int)
abbrev b_MO_missing : ByteArray := prog_5_method_36_code
abbrev y_MO_missing : MethodName := ⟨"LoadChecksModel", "missing", "(II)I"⟩
abbrev cw_MO_missing : Cond := .code y_MO_missing b_MO_missing 5 (some .int)
abbrev b_MO_share : ByteArray := prog_5_method_37_code
abbrev y_MO_share : MethodName := ⟨"LoadChecksModel", "share", "(I)I"⟩
abbrev cw_MO_share : Cond := .code y_MO_share b_MO_share 6 (some .int)
abbrev b_MO_axle : ByteArray := prog_5_method_38_code
abbrev y_MO_axle : MethodName := ⟨"LoadChecksModel", "axle", "(II)J"⟩
abbrev cw_MO_axle : Cond := .code y_MO_axle b_MO_axle 11 (some .long)
abbrev b_MO_row : ByteArray := prog_5_method_39_code
abbrev y_MO_row : MethodName := ⟨"LoadChecksModel", "row", "(II)I"⟩
abbrev cw_MO_row : Cond := .code y_MO_row b_MO_row 4 (some .int)
abbrev b_MO_has : ByteArray := prog_5_method_40_code
abbrev y_MO_has : MethodName := ⟨"LoadChecksModel", "has", "(III)I"⟩
abbrev cw_MO_has : Cond := .code y_MO_has b_MO_has 4 (some .int)
abbrev b_MO_stocked : ByteArray := prog_5_method_41_code
abbrev y_MO_stocked : MethodName := ⟨"LoadChecksModel", "stocked", "(I)I"⟩
abbrev cw_MO_stocked : Cond := .code y_MO_stocked b_MO_stocked 2 (some .int)
abbrev b_LW_vehicle : ByteArray := method_3_code
abbrev y_LW_vehicle : MethodName := ⟨"LoadChecksLaw", "vehicle", "(LLoadChecks;IIII[J)I"⟩
abbrev cw_LW_vehicle : Cond := .codeWith y_LW_vehicle b_LW_vehicle 7 (some .int) [(0, 14, 17, 13), (0, 14, 21, 15), (0, 14, 25, 17)]
abbrev b_LW_limits : ByteArray := method_4_code
abbrev y_LW_limits : MethodName := ⟨"LoadChecksLaw", "limits", "(LLoadChecks;III)I"⟩
abbrev cw_LW_limits : Cond := .codeWith y_LW_limits b_LW_limits 5 (some .int) [(0, 7, 10, 13), (0, 7, 14, 15)]
abbrev b_LW_place : ByteArray := method_5_code
abbrev y_LW_place : MethodName := ⟨"LoadChecksLaw", "place", "(LLoadChecks;III)I"⟩
abbrev cw_LW_place : Cond := .codeWith y_LW_place b_LW_place 5 (some .int) [(0, 7, 10, 13), (0, 7, 14, 15), (0, 7, 18, 26)]
abbrev b_LW_item : ByteArray := method_6_code
abbrev y_LW_item : MethodName := ⟨"LoadChecksLaw", "item", "(LLoadChecks;III)I"⟩
abbrev cw_LW_item : Cond := .codeWith y_LW_item b_LW_item 5 (some .int) [(0, 7, 10, 13), (0, 7, 14, 15), (0, 7, 18, 26)]
abbrev b_LW_list : ByteArray := method_7_code
abbrev y_LW_list : MethodName := ⟨"LoadChecksLaw", "list", "(LLoadChecks;IIII)I"⟩
abbrev cw_LW_list : Cond := .codeWith y_LW_list b_LW_list 6 (some .int) [(0, 9, 12, 13), (0, 9, 16, 15)]
abbrev b_LW_stock : ByteArray := method_8_code
abbrev y_LW_stock : MethodName := ⟨"LoadChecksLaw", "stock", "(LLoadChecks;II[J)I"⟩
abbrev cw_LW_stock : Cond := .codeWith y_LW_stock b_LW_stock 5 (some .int) [(0, 10, 13, 13), (0, 10, 17, 15), (0, 10, 21, 17)]
abbrev b_LW_put : ByteArray := method_9_code
abbrev y_LW_put : MethodName := ⟨"LoadChecksLaw", "put", "(LLoadChecks;IIII[J)I"⟩
abbrev cw_LW_put : Cond := .codeWith y_LW_put b_LW_put 7 (some .int) [(0, 14, 17, 13), (0, 14, 21, 15), (0, 14, 25, 26), (0, 14, 29, 17)]
abbrev b_LW_use : ByteArray := method_10_code
abbrev y_LW_use : MethodName := ⟨"LoadChecksLaw", "use", "(LLoadChecks;IIII[J)I"⟩
abbrev cw_LW_use : Cond := .codeWith y_LW_use b_LW_use 7 (some .int) [(0, 14, 17, 13), (0, 14, 21, 15), (0, 14, 25, 26)]
abbrev b_LW_replace : ByteArray := method_11_code
abbrev y_LW_replace : MethodName := ⟨"LoadChecksLaw", "replace", "(LLoadChecks;I[J)I"⟩
abbrev cw_LW_replace : Cond := .codeWith y_LW_replace b_LW_replace 4 (some .int) [(0, 9, 12, 13)]
abbrev b_LW_swap : ByteArray := method_12_code
abbrev y_LW_swap : MethodName := ⟨"LoadChecksLaw", "swap", "(LLoadChecks;IIIII)I"⟩
abbrev cw_LW_swap : Cond := .codeWith y_LW_swap b_LW_swap 7 (some .int) [(0, 11, 14, 13), (0, 11, 18, 15), (0, 11, 22, 26), (0, 11, 26, 17)]
abbrev b_LW_ends : ByteArray := method_13_code
abbrev y_LW_ends : MethodName := ⟨"LoadChecksLaw", "ends", "(LLoadChecks;III)I"⟩
abbrev cw_LW_ends : Cond := .codeWith y_LW_ends b_LW_ends 5 (some .int) [(0, 7, 10, 13), (0, 7, 14, 15)]
abbrev b_LW_battery : ByteArray := method_14_code
abbrev y_LW_battery : MethodName := ⟨"LoadChecksLaw", "battery", "(LLoadChecks;III)I"⟩
abbrev cw_LW_battery : Cond := .codeWith y_LW_battery b_LW_battery 5 (some .int) [(0, 7, 10, 13), (0, 7, 14, 15)]
abbrev b_LW_seal : ByteArray := method_15_code
abbrev y_LW_seal : MethodName := ⟨"LoadChecksLaw", "seal", "(LLoadChecks;IIZ)I"⟩
abbrev cw_LW_seal : Cond := .codeWith y_LW_seal b_LW_seal 5 (some .int) [(0, 7, 10, 13), (0, 7, 14, 26)]
abbrev b_LW_check : ByteArray := method_16_code
abbrev y_LW_check : MethodName := ⟨"LoadChecksLaw", "check", "(LLoadChecks;I)I"⟩
abbrev cw_LW_check : Cond := .codeWith y_LW_check b_LW_check 3 (some .int) [(0, 5, 8, 13)]
abbrev b_LW_now : ByteArray := method_17_code
abbrev y_LW_now : MethodName := ⟨"LoadChecksLaw", "now", "(LLoadChecks;II)I"⟩
abbrev cw_LW_now : Cond := .codeWith y_LW_now b_LW_now 4 (some .int) [(0, 6, 9, 15)]
abbrev b_LW_ready : ByteArray := method_18_code
abbrev y_LW_ready : MethodName := ⟨"LoadChecksLaw", "ready", "(LLoadChecks;I[J)I"⟩
abbrev cw_LW_ready : Cond := .codeWith y_LW_ready b_LW_ready 4 (some .int) [(0, 9, 12, 13)]
abbrev b_LW_missing : ByteArray := method_19_code
abbrev y_LW_missing : MethodName := ⟨"LoadChecksLaw", "missing", "(LLoadChecks;II[J)I"⟩
abbrev cw_LW_missing : Cond := .codeWith y_LW_missing b_LW_missing 5 (some .int) [(0, 10, 13, 13), (0, 10, 17, 15)]
abbrev b_LW_share : ByteArray := method_20_code
abbrev y_LW_share : MethodName := ⟨"LoadChecksLaw", "share", "(LLoadChecks;I[J)I"⟩
abbrev cw_LW_share : Cond := .codeWith y_LW_share b_LW_share 4 (some .int) [(0, 9, 12, 13), (0, 9, 15, 80)]
abbrev b_LW_axle : ByteArray := method_21_code
abbrev y_LW_axle : MethodName := ⟨"LoadChecksLaw", "axle", "(LLoadChecks;II[J)I"⟩
abbrev cw_LW_axle : Cond := .codeWith y_LW_axle b_LW_axle 5 (some .int) [(0, 9, 12, 13)]
abbrev b_LW_row : ByteArray := method_22_code
abbrev y_LW_row : MethodName := ⟨"LoadChecksLaw", "row", "(LLoadChecks;II[J)I"⟩
abbrev cw_LW_row : Cond := .codeWith y_LW_row b_LW_row 5 (some .int) [(0, 10, 13, 13)]
abbrev b_LW_has : ByteArray := method_23_code
abbrev y_LW_has : MethodName := ⟨"LoadChecksLaw", "has", "(LLoadChecks;III[J)I"⟩
abbrev cw_LW_has : Cond := .codeWith y_LW_has b_LW_has 6 (some .int) [(0, 12, 15, 13)]
abbrev b_LW_stocked : ByteArray := method_24_code
abbrev y_LW_stocked : MethodName := ⟨"LoadChecksLaw", "stocked", "(LLoadChecks;I[J)I"⟩
abbrev cw_LW_stocked : Cond := .codeWith y_LW_stocked b_LW_stocked 4 (some .int) [(0, 9, 12, 13)]
abbrev b_AR_fill : ByteArray := prog_16_method_103_code
abbrev y_AR_fill : MethodName := ⟨"java/util/Arrays", "fill", "([II)V"⟩
abbrev cw_AR_fill : Cond := .code y_AR_fill b_AR_fill 4 none
end
section
theorem d_LC_init_0 : decode b_LC_init 0 = .ok (.aload_n 0, 1) := by decide +kernel
theorem d_LC_init_1 : decode b_LC_init 1 = .ok (.invokespecial 3, 3) := by decide +kernel
theorem d_LC_init_4 : decode b_LC_init 4 = .ok (.aload_n 0, 1) := by decide +kernel
theorem d_LC_init_5 : decode b_LC_init 5 = .ok (.bipush 30, 2) := by decide +kernel
theorem d_LC_init_7 : decode b_LC_init 7 = .ok (.newarray .int, 2) := by decide +kernel
theorem d_LC_init_9 : decode b_LC_init 9 = .ok (.putfield 9, 3) := by decide +kernel
theorem d_LC_init_12 : decode b_LC_init 12 = .ok (.aload_n 0, 1) := by decide +kernel
theorem d_LC_init_13 : decode b_LC_init 13 = .ok (.bipush 30, 2) := by decide +kernel
theorem d_LC_init_15 : decode b_LC_init 15 = .ok (.newarray .int, 2) := by decide +kernel
theorem d_LC_init_17 : decode b_LC_init 17 = .ok (.putfield 13, 3) := by decide +kernel
theorem d_LC_init_20 : decode b_LC_init 20 = .ok (.aload_n 0, 1) := by decide +kernel
theorem d_LC_init_21 : decode b_LC_init 21 = .ok (.bipush 30, 2) := by decide +kernel
theorem d_LC_init_23 : decode b_LC_init 23 = .ok (.newarray .int, 2) := by decide +kernel
theorem d_LC_init_25 : decode b_LC_init 25 = .ok (.putfield 16, 3) := by decide +kernel
theorem d_LC_init_28 : decode b_LC_init 28 = .ok (.aload_n 0, 1) := by decide +kernel
theorem d_LC_init_29 : decode b_LC_init 29 = .ok (.bipush 6, 2) := by decide +kernel
theorem d_LC_init_31 : decode b_LC_init 31 = .ok (.sipush 240, 3) := by decide +kernel
theorem d_LC_init_34 : decode b_LC_init 34 = .ok (.multianewarray 19 2, 4) := by decide +kernel
theorem d_LC_init_38 : decode b_LC_init 38 = .ok (.putfield 21, 3) := by decide +kernel
theorem d_LC_init_41 : decode b_LC_init 41 = .ok (.aload_n 0, 1) := by decide +kernel
theorem d_LC_init_42 : decode b_LC_init 42 = .ok (.bipush 16, 2) := by decide +kernel
theorem d_LC_init_44 : decode b_LC_init 44 = .ok (.anewarray 24, 3) := by decide +kernel
theorem d_LC_init_47 : decode b_LC_init 47 = .ok (.putfield 26, 3) := by decide +kernel
theorem d_LC_init_50 : decode b_LC_init 50 = .ok (.aload_n 0, 1) := by decide +kernel
theorem d_LC_init_51 : decode b_LC_init 51 = .ok (.new 30, 3) := by decide +kernel
theorem d_LC_init_54 : decode b_LC_init 54 = .ok (.dup, 1) := by decide +kernel
theorem d_LC_init_55 : decode b_LC_init 55 = .ok (.invokespecial 32, 3) := by decide +kernel
theorem d_LC_init_58 : decode b_LC_init 58 = .ok (.putfield 33, 3) := by decide +kernel
theorem d_LC_init_61 : decode b_LC_init 61 = .ok (.iconst 0, 1) := by decide +kernel
theorem d_LC_init_62 : decode b_LC_init 62 = .ok (.istore_n 1, 1) := by decide +kernel
theorem d_LC_init_63 : decode b_LC_init 63 = .ok (.iload_n 1, 1) := by decide +kernel
theorem d_LC_init_64 : decode b_LC_init 64 = .ok (.bipush 16, 2) := by decide +kernel
theorem d_LC_init_66 : decode b_LC_init 66 = .ok (.if_icmp .ge 22, 3) := by decide +kernel
theorem d_LC_init_69 : decode b_LC_init 69 = .ok (.aload_n 0, 1) := by decide +kernel
theorem d_LC_init_70 : decode b_LC_init 70 = .ok (.getfield 26, 3) := by decide +kernel
theorem d_LC_init_73 : decode b_LC_init 73 = .ok (.iload_n 1, 1) := by decide +kernel
theorem d_LC_init_74 : decode b_LC_init 74 = .ok (.new 24, 3) := by decide +kernel
theorem d_LC_init_77 : decode b_LC_init 77 = .ok (.dup, 1) := by decide +kernel
theorem d_LC_init_78 : decode b_LC_init 78 = .ok (.invokespecial 37, 3) := by decide +kernel
theorem d_LC_init_81 : decode b_LC_init 81 = .ok (.aastore, 1) := by decide +kernel
theorem d_LC_init_82 : decode b_LC_init 82 = .ok (.iinc 1 1, 3) := by decide +kernel
theorem d_LC_init_85 : decode b_LC_init 85 = .ok (.goto (-22), 3) := by decide +kernel
theorem d_LC_init_88 : decode b_LC_init 88 = .ok (.return_, 1) := by decide +kernel
theorem d_LC_vehicle_0 : decode b_LC_vehicle 0 = .ok (.iload_n 1, 1) := by decide +kernel
theorem d_LC_vehicle_1 : decode b_LC_vehicle 1 = .ok (.invokestatic 38, 3) := by decide +kernel
theorem d_LC_vehicle_4 : decode b_LC_vehicle 4 = .ok (.iload_n 2, 1) := by decide +kernel
theorem d_LC_vehicle_5 : decode b_LC_vehicle 5 = .ok (.sipush 1000, 3) := by decide +kernel
theorem d_LC_vehicle_8 : decode b_LC_vehicle 8 = .ok (.sipush 8000, 3) := by decide +kernel
theorem d_LC_vehicle_11 : decode b_LC_vehicle 11 = .ok (.invokestatic 42, 3) := by decide +kernel
theorem d_LC_vehicle_14 : decode b_LC_vehicle 14 = .ok (.iload_n 3, 1) := by decide +kernel
theorem d_LC_vehicle_15 : decode b_LC_vehicle 15 = .ok (.iload 4, 2) := by decide +kernel
theorem d_LC_vehicle_17 : decode b_LC_vehicle 17 = .ok (.invokestatic 46, 3) := by decide +kernel
theorem d_LC_vehicle_20 : decode b_LC_vehicle 20 = .ok (.aload_n 0, 1) := by decide +kernel
theorem d_LC_vehicle_21 : decode b_LC_vehicle 21 = .ok (.getfield 50, 3) := by decide +kernel
theorem d_LC_vehicle_24 : decode b_LC_vehicle 24 = .ok (.bipush 16, 2) := by decide +kernel
theorem d_LC_vehicle_26 : decode b_LC_vehicle 26 = .ok (.if_icmp .lt 13, 3) := by decide +kernel
theorem d_LC_vehicle_29 : decode b_LC_vehicle 29 = .ok (.new 54, 3) := by decide +kernel
theorem d_LC_vehicle_32 : decode b_LC_vehicle 32 = .ok (.dup, 1) := by decide +kernel
theorem d_LC_vehicle_33 : decode b_LC_vehicle 33 = .ok (.ldc 56, 2) := by decide +kernel
theorem d_LC_vehicle_35 : decode b_LC_vehicle 35 = .ok (.invokespecial 58, 3) := by decide +kernel
theorem d_LC_vehicle_38 : decode b_LC_vehicle 38 = .ok (.athrow, 1) := by decide +kernel
theorem d_LC_vehicle_39 : decode b_LC_vehicle 39 = .ok (.aload_n 0, 1) := by decide +kernel
theorem d_LC_vehicle_40 : decode b_LC_vehicle 40 = .ok (.getfield 26, 3) := by decide +kernel
theorem d_LC_vehicle_43 : decode b_LC_vehicle 43 = .ok (.aload_n 0, 1) := by decide +kernel
theorem d_LC_vehicle_44 : decode b_LC_vehicle 44 = .ok (.getfield 50, 3) := by decide +kernel
theorem d_LC_vehicle_47 : decode b_LC_vehicle 47 = .ok (.aaload, 1) := by decide +kernel
theorem d_LC_vehicle_48 : decode b_LC_vehicle 48 = .ok (.astore 5, 2) := by decide +kernel
theorem d_LC_vehicle_50 : decode b_LC_vehicle 50 = .ok (.aload 5, 2) := by decide +kernel
theorem d_LC_vehicle_52 : decode b_LC_vehicle 52 = .ok (.iload_n 1, 1) := by decide +kernel
theorem d_LC_vehicle_53 : decode b_LC_vehicle 53 = .ok (.putfield 61, 3) := by decide +kernel
theorem d_LC_vehicle_56 : decode b_LC_vehicle 56 = .ok (.aload 5, 2) := by decide +kernel
theorem d_LC_vehicle_58 : decode b_LC_vehicle 58 = .ok (.iload_n 2, 1) := by decide +kernel
theorem d_LC_vehicle_59 : decode b_LC_vehicle 59 = .ok (.putfield 64, 3) := by decide +kernel
theorem d_LC_vehicle_62 : decode b_LC_vehicle 62 = .ok (.aload 5, 2) := by decide +kernel
theorem d_LC_vehicle_64 : decode b_LC_vehicle 64 = .ok (.iload_n 3, 1) := by decide +kernel
theorem d_LC_vehicle_65 : decode b_LC_vehicle 65 = .ok (.putfield 67, 3) := by decide +kernel
theorem d_LC_vehicle_68 : decode b_LC_vehicle 68 = .ok (.aload 5, 2) := by decide +kernel
theorem d_LC_vehicle_70 : decode b_LC_vehicle 70 = .ok (.iload 4, 2) := by decide +kernel
theorem d_LC_vehicle_72 : decode b_LC_vehicle 72 = .ok (.putfield 70, 3) := by decide +kernel
theorem d_LC_vehicle_75 : decode b_LC_vehicle 75 = .ok (.aload_n 0, 1) := by decide +kernel
theorem d_LC_vehicle_76 : decode b_LC_vehicle 76 = .ok (.dup, 1) := by decide +kernel
theorem d_LC_vehicle_77 : decode b_LC_vehicle 77 = .ok (.getfield 50, 3) := by decide +kernel
theorem d_LC_vehicle_80 : decode b_LC_vehicle 80 = .ok (.iconst 1, 1) := by decide +kernel
theorem d_LC_vehicle_81 : decode b_LC_vehicle 81 = .ok (.iadd, 1) := by decide +kernel
theorem d_LC_vehicle_82 : decode b_LC_vehicle 82 = .ok (.putfield 50, 3) := by decide +kernel
theorem d_LC_vehicle_85 : decode b_LC_vehicle 85 = .ok (.aload_n 0, 1) := by decide +kernel
theorem d_LC_vehicle_86 : decode b_LC_vehicle 86 = .ok (.getfield 50, 3) := by decide +kernel
theorem d_LC_vehicle_89 : decode b_LC_vehicle 89 = .ok (.iconst 1, 1) := by decide +kernel
theorem d_LC_vehicle_90 : decode b_LC_vehicle 90 = .ok (.isub, 1) := by decide +kernel
theorem d_LC_vehicle_91 : decode b_LC_vehicle 91 = .ok (.ireturn, 1) := by decide +kernel
theorem d_LC_limits_0 : decode b_LC_limits 0 = .ok (.aload_n 0, 1) := by decide +kernel
theorem d_LC_limits_1 : decode b_LC_limits 1 = .ok (.iload_n 1, 1) := by decide +kernel
theorem d_LC_limits_2 : decode b_LC_limits 2 = .ok (.invokevirtual 73, 3) := by decide +kernel
theorem d_LC_limits_5 : decode b_LC_limits 5 = .ok (.astore 4, 2) := by decide +kernel
theorem d_LC_limits_7 : decode b_LC_limits 7 = .ok (.iload_n 2, 1) := by decide +kernel
theorem d_LC_limits_8 : decode b_LC_limits 8 = .ok (.iload_n 3, 1) := by decide +kernel
theorem d_LC_limits_9 : decode b_LC_limits 9 = .ok (.invokestatic 46, 3) := by decide +kernel
theorem d_LC_limits_12 : decode b_LC_limits 12 = .ok (.aload 4, 2) := by decide +kernel
theorem d_LC_limits_14 : decode b_LC_limits 14 = .ok (.iload_n 2, 1) := by decide +kernel
theorem d_LC_limits_15 : decode b_LC_limits 15 = .ok (.putfield 67, 3) := by decide +kernel
theorem d_LC_limits_18 : decode b_LC_limits 18 = .ok (.aload 4, 2) := by decide +kernel
theorem d_LC_limits_20 : decode b_LC_limits 20 = .ok (.iload_n 3, 1) := by decide +kernel
theorem d_LC_limits_21 : decode b_LC_limits 21 = .ok (.putfield 70, 3) := by decide +kernel
theorem d_LC_limits_24 : decode b_LC_limits 24 = .ok (.return_, 1) := by decide +kernel
theorem d_LC_place_0 : decode b_LC_place 0 = .ok (.aload_n 0, 1) := by decide +kernel
theorem d_LC_place_1 : decode b_LC_place 1 = .ok (.iload_n 1, 1) := by decide +kernel
theorem d_LC_place_2 : decode b_LC_place 2 = .ok (.invokevirtual 73, 3) := by decide +kernel
theorem d_LC_place_5 : decode b_LC_place 5 = .ok (.astore 4, 2) := by decide +kernel
theorem d_LC_place_7 : decode b_LC_place 7 = .ok (.iload_n 2, 1) := by decide +kernel
theorem d_LC_place_8 : decode b_LC_place 8 = .ok (.invokestatic 77, 3) := by decide +kernel
theorem d_LC_place_11 : decode b_LC_place 11 = .ok (.iload_n 3, 1) := by decide +kernel
theorem d_LC_place_12 : decode b_LC_place 12 = .ok (.sipush (-2000), 3) := by decide +kernel
theorem d_LC_place_15 : decode b_LC_place 15 = .ok (.sipush 10000, 3) := by decide +kernel
theorem d_LC_place_18 : decode b_LC_place 18 = .ok (.invokestatic 42, 3) := by decide +kernel
theorem d_LC_place_21 : decode b_LC_place 21 = .ok (.aload 4, 2) := by decide +kernel
theorem d_LC_place_23 : decode b_LC_place 23 = .ok (.iload_n 2, 1) := by decide +kernel
theorem d_LC_place_24 : decode b_LC_place 24 = .ok (.invokevirtual 80, 3) := by decide +kernel
theorem d_LC_place_27 : decode b_LC_place 27 = .ok (.ifCond .ne 13, 3) := by decide +kernel
theorem d_LC_place_30 : decode b_LC_place 30 = .ok (.new 84, 3) := by decide +kernel
theorem d_LC_place_33 : decode b_LC_place 33 = .ok (.dup, 1) := by decide +kernel
theorem d_LC_place_34 : decode b_LC_place 34 = .ok (.ldc 86, 2) := by decide +kernel
theorem d_LC_place_36 : decode b_LC_place 36 = .ok (.invokespecial 88, 3) := by decide +kernel
theorem d_LC_place_39 : decode b_LC_place 39 = .ok (.athrow, 1) := by decide +kernel
theorem d_LC_place_40 : decode b_LC_place 40 = .ok (.aload 4, 2) := by decide +kernel
theorem d_LC_place_42 : decode b_LC_place 42 = .ok (.getfield 89, 3) := by decide +kernel
theorem d_LC_place_45 : decode b_LC_place 45 = .ok (.iload_n 2, 1) := by decide +kernel
theorem d_LC_place_46 : decode b_LC_place 46 = .ok (.iload_n 3, 1) := by decide +kernel
theorem d_LC_place_47 : decode b_LC_place 47 = .ok (.iastore, 1) := by decide +kernel
theorem d_LC_place_48 : decode b_LC_place 48 = .ok (.return_, 1) := by decide +kernel
theorem d_LC_item_0 : decode b_LC_item 0 = .ok (.iload_n 1, 1) := by decide +kernel
theorem d_LC_item_1 : decode b_LC_item 1 = .ok (.invokestatic 92, 3) := by decide +kernel
theorem d_LC_item_4 : decode b_LC_item 4 = .ok (.iload_n 2, 1) := by decide +kernel
theorem d_LC_item_5 : decode b_LC_item 5 = .ok (.iconst 0, 1) := by decide +kernel
theorem d_LC_item_6 : decode b_LC_item 6 = .ok (.ldc 95, 2) := by decide +kernel
theorem d_LC_item_8 : decode b_LC_item 8 = .ok (.invokestatic 42, 3) := by decide +kernel
theorem d_LC_item_11 : decode b_LC_item 11 = .ok (.iload_n 3, 1) := by decide +kernel
theorem d_LC_item_12 : decode b_LC_item 12 = .ok (.iconst 0, 1) := by decide +kernel
theorem d_LC_item_13 : decode b_LC_item 13 = .ok (.bipush 100, 2) := by decide +kernel
theorem d_LC_item_15 : decode b_LC_item 15 = .ok (.invokestatic 42, 3) := by decide +kernel
theorem d_LC_item_18 : decode b_LC_item 18 = .ok (.iload_n 2, 1) := by decide +kernel
theorem d_LC_item_19 : decode b_LC_item 19 = .ok (.aload_n 0, 1) := by decide +kernel
theorem d_LC_item_20 : decode b_LC_item 20 = .ok (.getfield 9, 3) := by decide +kernel
theorem d_LC_item_23 : decode b_LC_item 23 = .ok (.iload_n 1, 1) := by decide +kernel
theorem d_LC_item_24 : decode b_LC_item 24 = .ok (.iaload, 1) := by decide +kernel
theorem d_LC_item_25 : decode b_LC_item 25 = .ok (.if_icmp .eq 21, 3) := by decide +kernel
theorem d_LC_item_28 : decode b_LC_item 28 = .ok (.aload_n 0, 1) := by decide +kernel
theorem d_LC_item_29 : decode b_LC_item 29 = .ok (.iload_n 1, 1) := by decide +kernel
theorem d_LC_item_30 : decode b_LC_item 30 = .ok (.invokevirtual 96, 3) := by decide +kernel
theorem d_LC_item_33 : decode b_LC_item 33 = .ok (.ifCond .eq 13, 3) := by decide +kernel
theorem d_LC_item_36 : decode b_LC_item 36 = .ok (.new 84, 3) := by decide +kernel
theorem d_LC_item_39 : decode b_LC_item 39 = .ok (.dup, 1) := by decide +kernel
theorem d_LC_item_40 : decode b_LC_item 40 = .ok (.ldc 99, 2) := by decide +kernel
theorem d_LC_item_42 : decode b_LC_item 42 = .ok (.invokespecial 88, 3) := by decide +kernel
theorem d_LC_item_45 : decode b_LC_item 45 = .ok (.athrow, 1) := by decide +kernel
theorem d_LC_item_46 : decode b_LC_item 46 = .ok (.aload_n 0, 1) := by decide +kernel
theorem d_LC_item_47 : decode b_LC_item 47 = .ok (.getfield 9, 3) := by decide +kernel
theorem d_LC_item_50 : decode b_LC_item 50 = .ok (.iload_n 1, 1) := by decide +kernel
theorem d_LC_item_51 : decode b_LC_item 51 = .ok (.iload_n 2, 1) := by decide +kernel
theorem d_LC_item_52 : decode b_LC_item 52 = .ok (.iastore, 1) := by decide +kernel
theorem d_LC_item_53 : decode b_LC_item 53 = .ok (.aload_n 0, 1) := by decide +kernel
theorem d_LC_item_54 : decode b_LC_item 54 = .ok (.getfield 13, 3) := by decide +kernel
theorem d_LC_item_57 : decode b_LC_item 57 = .ok (.iload_n 1, 1) := by decide +kernel
theorem d_LC_item_58 : decode b_LC_item 58 = .ok (.iload_n 3, 1) := by decide +kernel
theorem d_LC_item_59 : decode b_LC_item 59 = .ok (.iastore, 1) := by decide +kernel
theorem d_LC_item_60 : decode b_LC_item 60 = .ok (.return_, 1) := by decide +kernel
theorem d_LC_list_0 : decode b_LC_list 0 = .ok (.iload_n 1, 1) := by decide +kernel
theorem d_LC_list_1 : decode b_LC_list 1 = .ok (.invokestatic 38, 3) := by decide +kernel
theorem d_LC_list_4 : decode b_LC_list 4 = .ok (.iload_n 2, 1) := by decide +kernel
theorem d_LC_list_5 : decode b_LC_list 5 = .ok (.invokestatic 77, 3) := by decide +kernel
theorem d_LC_list_8 : decode b_LC_list 8 = .ok (.iload_n 3, 1) := by decide +kernel
theorem d_LC_list_9 : decode b_LC_list 9 = .ok (.invokestatic 92, 3) := by decide +kernel
theorem d_LC_list_12 : decode b_LC_list 12 = .ok (.iload 4, 2) := by decide +kernel
theorem d_LC_list_14 : decode b_LC_list 14 = .ok (.iconst 0, 1) := by decide +kernel
theorem d_LC_list_15 : decode b_LC_list 15 = .ok (.bipush 99, 2) := by decide +kernel
theorem d_LC_list_17 : decode b_LC_list 17 = .ok (.invokestatic 42, 3) := by decide +kernel
theorem d_LC_list_20 : decode b_LC_list 20 = .ok (.aload_n 0, 1) := by decide +kernel
theorem d_LC_list_21 : decode b_LC_list 21 = .ok (.getfield 21, 3) := by decide +kernel
theorem d_LC_list_24 : decode b_LC_list 24 = .ok (.iload_n 1, 1) := by decide +kernel
theorem d_LC_list_25 : decode b_LC_list 25 = .ok (.aaload, 1) := by decide +kernel
theorem d_LC_list_26 : decode b_LC_list 26 = .ok (.iload_n 2, 1) := by decide +kernel
theorem d_LC_list_27 : decode b_LC_list 27 = .ok (.iload_n 3, 1) := by decide +kernel
theorem d_LC_list_28 : decode b_LC_list 28 = .ok (.invokestatic 101, 3) := by decide +kernel
theorem d_LC_list_31 : decode b_LC_list 31 = .ok (.iload 4, 2) := by decide +kernel
theorem d_LC_list_33 : decode b_LC_list 33 = .ok (.iastore, 1) := by decide +kernel
theorem d_LC_list_34 : decode b_LC_list 34 = .ok (.return_, 1) := by decide +kernel
theorem d_LC_stock_0 : decode b_LC_stock 0 = .ok (.iload_n 1, 1) := by decide +kernel
theorem d_LC_stock_1 : decode b_LC_stock 1 = .ok (.invokestatic 92, 3) := by decide +kernel
theorem d_LC_stock_4 : decode b_LC_stock 4 = .ok (.iload_n 2, 1) := by decide +kernel
theorem d_LC_stock_5 : decode b_LC_stock 5 = .ok (.iconst 1, 1) := by decide +kernel
theorem d_LC_stock_6 : decode b_LC_stock 6 = .ok (.bipush 99, 2) := by decide +kernel
theorem d_LC_stock_8 : decode b_LC_stock 8 = .ok (.invokestatic 42, 3) := by decide +kernel
theorem d_LC_stock_11 : decode b_LC_stock 11 = .ok (.aload_n 0, 1) := by decide +kernel
theorem d_LC_stock_12 : decode b_LC_stock 12 = .ok (.getfield 16, 3) := by decide +kernel
theorem d_LC_stock_15 : decode b_LC_stock 15 = .ok (.iload_n 1, 1) := by decide +kernel
theorem d_LC_stock_16 : decode b_LC_stock 16 = .ok (.iaload, 1) := by decide +kernel
theorem d_LC_stock_17 : decode b_LC_stock 17 = .ok (.iload_n 2, 1) := by decide +kernel
theorem d_LC_stock_18 : decode b_LC_stock 18 = .ok (.iadd, 1) := by decide +kernel
theorem d_LC_stock_19 : decode b_LC_stock 19 = .ok (.sipush 10000, 3) := by decide +kernel
theorem d_LC_stock_22 : decode b_LC_stock 22 = .ok (.if_icmp .le 13, 3) := by decide +kernel
theorem d_LC_stock_25 : decode b_LC_stock 25 = .ok (.new 54, 3) := by decide +kernel
theorem d_LC_stock_28 : decode b_LC_stock 28 = .ok (.dup, 1) := by decide +kernel
theorem d_LC_stock_29 : decode b_LC_stock 29 = .ok (.ldc 105, 2) := by decide +kernel
theorem d_LC_stock_31 : decode b_LC_stock 31 = .ok (.invokespecial 58, 3) := by decide +kernel
theorem d_LC_stock_34 : decode b_LC_stock 34 = .ok (.athrow, 1) := by decide +kernel
theorem d_LC_stock_35 : decode b_LC_stock 35 = .ok (.aload_n 0, 1) := by decide +kernel
theorem d_LC_stock_36 : decode b_LC_stock 36 = .ok (.getfield 16, 3) := by decide +kernel
theorem d_LC_stock_39 : decode b_LC_stock 39 = .ok (.iload_n 1, 1) := by decide +kernel
theorem d_LC_stock_40 : decode b_LC_stock 40 = .ok (.dup2, 1) := by decide +kernel
theorem d_LC_stock_41 : decode b_LC_stock 41 = .ok (.iaload, 1) := by decide +kernel
theorem d_LC_stock_42 : decode b_LC_stock 42 = .ok (.iload_n 2, 1) := by decide +kernel
theorem d_LC_stock_43 : decode b_LC_stock 43 = .ok (.iadd, 1) := by decide +kernel
theorem d_LC_stock_44 : decode b_LC_stock 44 = .ok (.iastore, 1) := by decide +kernel
theorem d_LC_stock_45 : decode b_LC_stock 45 = .ok (.aload_n 0, 1) := by decide +kernel
theorem d_LC_stock_46 : decode b_LC_stock 46 = .ok (.getfield 16, 3) := by decide +kernel
theorem d_LC_stock_49 : decode b_LC_stock 49 = .ok (.iload_n 1, 1) := by decide +kernel
theorem d_LC_stock_50 : decode b_LC_stock 50 = .ok (.iaload, 1) := by decide +kernel
theorem d_LC_stock_51 : decode b_LC_stock 51 = .ok (.ireturn, 1) := by decide +kernel
theorem d_LC_put_0 : decode b_LC_put 0 = .ok (.aload_n 0, 1) := by decide +kernel
theorem d_LC_put_1 : decode b_LC_put 1 = .ok (.iload_n 1, 1) := by decide +kernel
theorem d_LC_put_2 : decode b_LC_put 2 = .ok (.invokevirtual 73, 3) := by decide +kernel
theorem d_LC_put_5 : decode b_LC_put 5 = .ok (.astore 5, 2) := by decide +kernel
theorem d_LC_put_7 : decode b_LC_put 7 = .ok (.iload_n 2, 1) := by decide +kernel
theorem d_LC_put_8 : decode b_LC_put 8 = .ok (.invokestatic 77, 3) := by decide +kernel
theorem d_LC_put_11 : decode b_LC_put 11 = .ok (.iload_n 3, 1) := by decide +kernel
theorem d_LC_put_12 : decode b_LC_put 12 = .ok (.invokestatic 92, 3) := by decide +kernel
theorem d_LC_put_15 : decode b_LC_put 15 = .ok (.iload 4, 2) := by decide +kernel
theorem d_LC_put_17 : decode b_LC_put 17 = .ok (.iconst 1, 1) := by decide +kernel
theorem d_LC_put_18 : decode b_LC_put 18 = .ok (.bipush 99, 2) := by decide +kernel
theorem d_LC_put_20 : decode b_LC_put 20 = .ok (.invokestatic 42, 3) := by decide +kernel
theorem d_LC_put_23 : decode b_LC_put 23 = .ok (.iload_n 2, 1) := by decide +kernel
theorem d_LC_put_24 : decode b_LC_put 24 = .ok (.iload_n 3, 1) := by decide +kernel
theorem d_LC_put_25 : decode b_LC_put 25 = .ok (.invokestatic 101, 3) := by decide +kernel
theorem d_LC_put_28 : decode b_LC_put 28 = .ok (.istore 6, 2) := by decide +kernel
theorem d_LC_put_30 : decode b_LC_put 30 = .ok (.aload_n 0, 1) := by decide +kernel
theorem d_LC_put_31 : decode b_LC_put 31 = .ok (.aload 5, 2) := by decide +kernel
theorem d_LC_put_33 : decode b_LC_put 33 = .ok (.iload 6, 2) := by decide +kernel
theorem d_LC_put_35 : decode b_LC_put 35 = .ok (.iload 4, 2) := by decide +kernel
theorem d_LC_put_37 : decode b_LC_put 37 = .ok (.invokevirtual 107, 3) := by decide +kernel
theorem d_LC_put_40 : decode b_LC_put 40 = .ok (.aload 5, 2) := by decide +kernel
theorem d_LC_put_42 : decode b_LC_put 42 = .ok (.iload 6, 2) := by decide +kernel
theorem d_LC_put_44 : decode b_LC_put 44 = .ok (.iload 4, 2) := by decide +kernel
theorem d_LC_put_46 : decode b_LC_put 46 = .ok (.invokestatic 111, 3) := by decide +kernel
theorem d_LC_put_49 : decode b_LC_put 49 = .ok (.aload 5, 2) := by decide +kernel
theorem d_LC_put_51 : decode b_LC_put 51 = .ok (.iload 6, 2) := by decide +kernel
theorem d_LC_put_53 : decode b_LC_put 53 = .ok (.iload 4, 2) := by decide +kernel
theorem d_LC_put_55 : decode b_LC_put 55 = .ok (.aload_n 0, 1) := by decide +kernel
theorem d_LC_put_56 : decode b_LC_put 56 = .ok (.getfield 9, 3) := by decide +kernel
theorem d_LC_put_59 : decode b_LC_put 59 = .ok (.iload_n 3, 1) := by decide +kernel
theorem d_LC_put_60 : decode b_LC_put 60 = .ok (.iaload, 1) := by decide +kernel
theorem d_LC_put_61 : decode b_LC_put 61 = .ok (.invokevirtual 114, 3) := by decide +kernel
theorem d_LC_put_64 : decode b_LC_put 64 = .ok (.aload 5, 2) := by decide +kernel
theorem d_LC_put_66 : decode b_LC_put 66 = .ok (.getfield 117, 3) := by decide +kernel
theorem d_LC_put_69 : decode b_LC_put 69 = .ok (.iload 6, 2) := by decide +kernel
theorem d_LC_put_71 : decode b_LC_put 71 = .ok (.iaload, 1) := by decide +kernel
theorem d_LC_put_72 : decode b_LC_put 72 = .ok (.ireturn, 1) := by decide +kernel
theorem d_LC_use_0 : decode b_LC_use 0 = .ok (.aload_n 0, 1) := by decide +kernel
theorem d_LC_use_1 : decode b_LC_use 1 = .ok (.iload_n 1, 1) := by decide +kernel
theorem d_LC_use_2 : decode b_LC_use 2 = .ok (.invokevirtual 73, 3) := by decide +kernel
theorem d_LC_use_5 : decode b_LC_use 5 = .ok (.astore 5, 2) := by decide +kernel
theorem d_LC_use_7 : decode b_LC_use 7 = .ok (.iload_n 2, 1) := by decide +kernel
theorem d_LC_use_8 : decode b_LC_use 8 = .ok (.invokestatic 77, 3) := by decide +kernel
theorem d_LC_use_11 : decode b_LC_use 11 = .ok (.iload_n 3, 1) := by decide +kernel
theorem d_LC_use_12 : decode b_LC_use 12 = .ok (.invokestatic 92, 3) := by decide +kernel
theorem d_LC_use_15 : decode b_LC_use 15 = .ok (.iload 4, 2) := by decide +kernel
theorem d_LC_use_17 : decode b_LC_use 17 = .ok (.iconst 1, 1) := by decide +kernel
theorem d_LC_use_18 : decode b_LC_use 18 = .ok (.bipush 99, 2) := by decide +kernel
theorem d_LC_use_20 : decode b_LC_use 20 = .ok (.invokestatic 42, 3) := by decide +kernel
theorem d_LC_use_23 : decode b_LC_use 23 = .ok (.iload_n 2, 1) := by decide +kernel
theorem d_LC_use_24 : decode b_LC_use 24 = .ok (.iload_n 3, 1) := by decide +kernel
theorem d_LC_use_25 : decode b_LC_use 25 = .ok (.invokestatic 101, 3) := by decide +kernel
theorem d_LC_use_28 : decode b_LC_use 28 = .ok (.istore 6, 2) := by decide +kernel
theorem d_LC_use_30 : decode b_LC_use 30 = .ok (.aload 5, 2) := by decide +kernel
theorem d_LC_use_32 : decode b_LC_use 32 = .ok (.iload 6, 2) := by decide +kernel
theorem d_LC_use_34 : decode b_LC_use 34 = .ok (.iload 4, 2) := by decide +kernel
theorem d_LC_use_36 : decode b_LC_use 36 = .ok (.invokestatic 120, 3) := by decide +kernel
theorem d_LC_use_39 : decode b_LC_use 39 = .ok (.aload 5, 2) := by decide +kernel
theorem d_LC_use_41 : decode b_LC_use 41 = .ok (.iload 6, 2) := by decide +kernel
theorem d_LC_use_43 : decode b_LC_use 43 = .ok (.iload 4, 2) := by decide +kernel
theorem d_LC_use_45 : decode b_LC_use 45 = .ok (.ineg, 1) := by decide +kernel
theorem d_LC_use_46 : decode b_LC_use 46 = .ok (.aload_n 0, 1) := by decide +kernel
theorem d_LC_use_47 : decode b_LC_use 47 = .ok (.getfield 9, 3) := by decide +kernel
theorem d_LC_use_50 : decode b_LC_use 50 = .ok (.iload_n 3, 1) := by decide +kernel
theorem d_LC_use_51 : decode b_LC_use 51 = .ok (.iaload, 1) := by decide +kernel
theorem d_LC_use_52 : decode b_LC_use 52 = .ok (.invokevirtual 114, 3) := by decide +kernel
theorem d_LC_use_55 : decode b_LC_use 55 = .ok (.aload 5, 2) := by decide +kernel
theorem d_LC_use_57 : decode b_LC_use 57 = .ok (.getfield 117, 3) := by decide +kernel
theorem d_LC_use_60 : decode b_LC_use 60 = .ok (.iload 6, 2) := by decide +kernel
theorem d_LC_use_62 : decode b_LC_use 62 = .ok (.iaload, 1) := by decide +kernel
theorem d_LC_use_63 : decode b_LC_use 63 = .ok (.ireturn, 1) := by decide +kernel
theorem d_LC_replace_0 : decode b_LC_replace 0 = .ok (.aload_n 0, 1) := by decide +kernel
theorem d_LC_replace_1 : decode b_LC_replace 1 = .ok (.iload_n 1, 1) := by decide +kernel
theorem d_LC_replace_2 : decode b_LC_replace 2 = .ok (.invokevirtual 73, 3) := by decide +kernel
theorem d_LC_replace_5 : decode b_LC_replace 5 = .ok (.astore_n 2, 1) := by decide +kernel
theorem d_LC_replace_6 : decode b_LC_replace 6 = .ok (.aload_n 0, 1) := by decide +kernel
theorem d_LC_replace_7 : decode b_LC_replace 7 = .ok (.getfield 21, 3) := by decide +kernel
theorem d_LC_replace_10 : decode b_LC_replace 10 = .ok (.aload_n 2, 1) := by decide +kernel
theorem d_LC_replace_11 : decode b_LC_replace 11 = .ok (.getfield 61, 3) := by decide +kernel
theorem d_LC_replace_14 : decode b_LC_replace 14 = .ok (.aaload, 1) := by decide +kernel
theorem d_LC_replace_15 : decode b_LC_replace 15 = .ok (.astore_n 3, 1) := by decide +kernel
theorem d_LC_replace_16 : decode b_LC_replace 16 = .ok (.iconst 0, 1) := by decide +kernel
theorem d_LC_replace_17 : decode b_LC_replace 17 = .ok (.istore 4, 2) := by decide +kernel
theorem d_LC_replace_19 : decode b_LC_replace 19 = .ok (.iconst 0, 1) := by decide +kernel
theorem d_LC_replace_20 : decode b_LC_replace 20 = .ok (.istore 5, 2) := by decide +kernel
theorem d_LC_replace_22 : decode b_LC_replace 22 = .ok (.iload 5, 2) := by decide +kernel
theorem d_LC_replace_24 : decode b_LC_replace 24 = .ok (.sipush 240, 3) := by decide +kernel
theorem d_LC_replace_27 : decode b_LC_replace 27 = .ok (.if_icmp .ge 95, 3) := by decide +kernel
theorem d_LC_replace_30 : decode b_LC_replace 30 = .ok (.iload 5, 2) := by decide +kernel
theorem d_LC_replace_32 : decode b_LC_replace 32 = .ok (.bipush 30, 2) := by decide +kernel
theorem d_LC_replace_34 : decode b_LC_replace 34 = .ok (.irem, 1) := by decide +kernel
theorem d_LC_replace_35 : decode b_LC_replace 35 = .ok (.istore 6, 2) := by decide +kernel
theorem d_LC_replace_37 : decode b_LC_replace 37 = .ok (.aload_n 2, 1) := by decide +kernel
theorem d_LC_replace_38 : decode b_LC_replace 38 = .ok (.iload 5, 2) := by decide +kernel
theorem d_LC_replace_40 : decode b_LC_replace 40 = .ok (.aload_n 3, 1) := by decide +kernel
theorem d_LC_replace_41 : decode b_LC_replace 41 = .ok (.iload 5, 2) := by decide +kernel
theorem d_LC_replace_43 : decode b_LC_replace 43 = .ok (.iaload, 1) := by decide +kernel
theorem d_LC_replace_44 : decode b_LC_replace 44 = .ok (.invokevirtual 123, 3) := by decide +kernel
theorem d_LC_replace_47 : decode b_LC_replace 47 = .ok (.aload_n 0, 1) := by decide +kernel
theorem d_LC_replace_48 : decode b_LC_replace 48 = .ok (.getfield 16, 3) := by decide +kernel
theorem d_LC_replace_51 : decode b_LC_replace 51 = .ok (.iload 6, 2) := by decide +kernel
theorem d_LC_replace_53 : decode b_LC_replace 53 = .ok (.iaload, 1) := by decide +kernel
theorem d_LC_replace_54 : decode b_LC_replace 54 = .ok (.invokestatic 126, 3) := by decide +kernel
theorem d_LC_replace_57 : decode b_LC_replace 57 = .ok (.istore 7, 2) := by decide +kernel
theorem d_LC_replace_59 : decode b_LC_replace 59 = .ok (.iload 7, 2) := by decide +kernel
theorem d_LC_replace_61 : decode b_LC_replace 61 = .ok (.ifCond .le 55, 3) := by decide +kernel
theorem d_LC_replace_64 : decode b_LC_replace 64 = .ok (.aload_n 2, 1) := by decide +kernel
theorem d_LC_replace_65 : decode b_LC_replace 65 = .ok (.iload 5, 2) := by decide +kernel
theorem d_LC_replace_67 : decode b_LC_replace 67 = .ok (.iload 7, 2) := by decide +kernel
theorem d_LC_replace_69 : decode b_LC_replace 69 = .ok (.aload_n 0, 1) := by decide +kernel
theorem d_LC_replace_70 : decode b_LC_replace 70 = .ok (.getfield 9, 3) := by decide +kernel
theorem d_LC_replace_73 : decode b_LC_replace 73 = .ok (.iload 6, 2) := by decide +kernel
theorem d_LC_replace_75 : decode b_LC_replace 75 = .ok (.iaload, 1) := by decide +kernel
theorem d_LC_replace_76 : decode b_LC_replace 76 = .ok (.invokevirtual 131, 3) := by decide +kernel
theorem d_LC_replace_79 : decode b_LC_replace 79 = .ok (.ifCond .eq 37, 3) := by decide +kernel
theorem d_LC_replace_82 : decode b_LC_replace 82 = .ok (.aload_n 2, 1) := by decide +kernel
theorem d_LC_replace_83 : decode b_LC_replace 83 = .ok (.iload 5, 2) := by decide +kernel
theorem d_LC_replace_85 : decode b_LC_replace 85 = .ok (.iload 7, 2) := by decide +kernel
theorem d_LC_replace_87 : decode b_LC_replace 87 = .ok (.aload_n 0, 1) := by decide +kernel
theorem d_LC_replace_88 : decode b_LC_replace 88 = .ok (.getfield 9, 3) := by decide +kernel
theorem d_LC_replace_91 : decode b_LC_replace 91 = .ok (.iload 6, 2) := by decide +kernel
theorem d_LC_replace_93 : decode b_LC_replace 93 = .ok (.iaload, 1) := by decide +kernel
theorem d_LC_replace_94 : decode b_LC_replace 94 = .ok (.invokevirtual 114, 3) := by decide +kernel
theorem d_LC_replace_97 : decode b_LC_replace 97 = .ok (.aload_n 0, 1) := by decide +kernel
theorem d_LC_replace_98 : decode b_LC_replace 98 = .ok (.getfield 16, 3) := by decide +kernel
theorem d_LC_replace_101 : decode b_LC_replace 101 = .ok (.iload 6, 2) := by decide +kernel
theorem d_LC_replace_103 : decode b_LC_replace 103 = .ok (.dup2, 1) := by decide +kernel
theorem d_LC_replace_104 : decode b_LC_replace 104 = .ok (.iaload, 1) := by decide +kernel
theorem d_LC_replace_105 : decode b_LC_replace 105 = .ok (.iload 7, 2) := by decide +kernel
theorem d_LC_replace_107 : decode b_LC_replace 107 = .ok (.isub, 1) := by decide +kernel
theorem d_LC_replace_108 : decode b_LC_replace 108 = .ok (.iastore, 1) := by decide +kernel
theorem d_LC_replace_109 : decode b_LC_replace 109 = .ok (.iload 4, 2) := by decide +kernel
theorem d_LC_replace_111 : decode b_LC_replace 111 = .ok (.iload 7, 2) := by decide +kernel
theorem d_LC_replace_113 : decode b_LC_replace 113 = .ok (.iadd, 1) := by decide +kernel
theorem d_LC_replace_114 : decode b_LC_replace 114 = .ok (.istore 4, 2) := by decide +kernel
theorem d_LC_replace_116 : decode b_LC_replace 116 = .ok (.iinc 5 1, 3) := by decide +kernel
theorem d_LC_replace_119 : decode b_LC_replace 119 = .ok (.goto (-97), 3) := by decide +kernel
theorem d_LC_replace_122 : decode b_LC_replace 122 = .ok (.iload 4, 2) := by decide +kernel
theorem d_LC_replace_124 : decode b_LC_replace 124 = .ok (.ireturn, 1) := by decide +kernel
theorem d_LC_swap_0 : decode b_LC_swap 0 = .ok (.aload_n 0, 1) := by decide +kernel
theorem d_LC_swap_1 : decode b_LC_swap 1 = .ok (.iload_n 1, 1) := by decide +kernel
theorem d_LC_swap_2 : decode b_LC_swap 2 = .ok (.invokevirtual 73, 3) := by decide +kernel
theorem d_LC_swap_5 : decode b_LC_swap 5 = .ok (.astore 6, 2) := by decide +kernel
theorem d_LC_swap_7 : decode b_LC_swap 7 = .ok (.aload_n 0, 1) := by decide +kernel
theorem d_LC_swap_8 : decode b_LC_swap 8 = .ok (.iload_n 2, 1) := by decide +kernel
theorem d_LC_swap_9 : decode b_LC_swap 9 = .ok (.invokevirtual 73, 3) := by decide +kernel
theorem d_LC_swap_12 : decode b_LC_swap 12 = .ok (.astore 7, 2) := by decide +kernel
theorem d_LC_swap_14 : decode b_LC_swap 14 = .ok (.iload_n 1, 1) := by decide +kernel
theorem d_LC_swap_15 : decode b_LC_swap 15 = .ok (.iload_n 2, 1) := by decide +kernel
theorem d_LC_swap_16 : decode b_LC_swap 16 = .ok (.if_icmp .ne 13, 3) := by decide +kernel
theorem d_LC_swap_19 : decode b_LC_swap 19 = .ok (.new 135, 3) := by decide +kernel
theorem d_LC_swap_22 : decode b_LC_swap 22 = .ok (.dup, 1) := by decide +kernel
theorem d_LC_swap_23 : decode b_LC_swap 23 = .ok (.ldc 137, 2) := by decide +kernel
theorem d_LC_swap_25 : decode b_LC_swap 25 = .ok (.invokespecial 139, 3) := by decide +kernel
theorem d_LC_swap_28 : decode b_LC_swap 28 = .ok (.athrow, 1) := by decide +kernel
theorem d_LC_swap_29 : decode b_LC_swap 29 = .ok (.iload_n 3, 1) := by decide +kernel
theorem d_LC_swap_30 : decode b_LC_swap 30 = .ok (.invokestatic 77, 3) := by decide +kernel
theorem d_LC_swap_33 : decode b_LC_swap 33 = .ok (.iload 4, 2) := by decide +kernel
theorem d_LC_swap_35 : decode b_LC_swap 35 = .ok (.invokestatic 92, 3) := by decide +kernel
theorem d_LC_swap_38 : decode b_LC_swap 38 = .ok (.iload 5, 2) := by decide +kernel
theorem d_LC_swap_40 : decode b_LC_swap 40 = .ok (.iconst 1, 1) := by decide +kernel
theorem d_LC_swap_41 : decode b_LC_swap 41 = .ok (.bipush 99, 2) := by decide +kernel
theorem d_LC_swap_43 : decode b_LC_swap 43 = .ok (.invokestatic 42, 3) := by decide +kernel
theorem d_LC_swap_46 : decode b_LC_swap 46 = .ok (.iload_n 3, 1) := by decide +kernel
theorem d_LC_swap_47 : decode b_LC_swap 47 = .ok (.iload 4, 2) := by decide +kernel
theorem d_LC_swap_49 : decode b_LC_swap 49 = .ok (.invokestatic 101, 3) := by decide +kernel
theorem d_LC_swap_52 : decode b_LC_swap 52 = .ok (.istore 8, 2) := by decide +kernel
theorem d_LC_swap_54 : decode b_LC_swap 54 = .ok (.aload 6, 2) := by decide +kernel
theorem d_LC_swap_56 : decode b_LC_swap 56 = .ok (.iload 8, 2) := by decide +kernel
theorem d_LC_swap_58 : decode b_LC_swap 58 = .ok (.iload 5, 2) := by decide +kernel
theorem d_LC_swap_60 : decode b_LC_swap 60 = .ok (.invokestatic 120, 3) := by decide +kernel
theorem d_LC_swap_63 : decode b_LC_swap 63 = .ok (.aload_n 0, 1) := by decide +kernel
theorem d_LC_swap_64 : decode b_LC_swap 64 = .ok (.aload 7, 2) := by decide +kernel
theorem d_LC_swap_66 : decode b_LC_swap 66 = .ok (.iload 8, 2) := by decide +kernel
theorem d_LC_swap_68 : decode b_LC_swap 68 = .ok (.iload 5, 2) := by decide +kernel
theorem d_LC_swap_70 : decode b_LC_swap 70 = .ok (.invokevirtual 107, 3) := by decide +kernel
theorem d_LC_swap_73 : decode b_LC_swap 73 = .ok (.aload 7, 2) := by decide +kernel
theorem d_LC_swap_75 : decode b_LC_swap 75 = .ok (.iload 8, 2) := by decide +kernel
theorem d_LC_swap_77 : decode b_LC_swap 77 = .ok (.iload 5, 2) := by decide +kernel
theorem d_LC_swap_79 : decode b_LC_swap 79 = .ok (.invokestatic 111, 3) := by decide +kernel
theorem d_LC_swap_82 : decode b_LC_swap 82 = .ok (.aload 6, 2) := by decide +kernel
theorem d_LC_swap_84 : decode b_LC_swap 84 = .ok (.iload 8, 2) := by decide +kernel
theorem d_LC_swap_86 : decode b_LC_swap 86 = .ok (.iload 5, 2) := by decide +kernel
theorem d_LC_swap_88 : decode b_LC_swap 88 = .ok (.ineg, 1) := by decide +kernel
theorem d_LC_swap_89 : decode b_LC_swap 89 = .ok (.aload_n 0, 1) := by decide +kernel
theorem d_LC_swap_90 : decode b_LC_swap 90 = .ok (.getfield 9, 3) := by decide +kernel
theorem d_LC_swap_93 : decode b_LC_swap 93 = .ok (.iload 4, 2) := by decide +kernel
theorem d_LC_swap_95 : decode b_LC_swap 95 = .ok (.iaload, 1) := by decide +kernel
theorem d_LC_swap_96 : decode b_LC_swap 96 = .ok (.invokevirtual 114, 3) := by decide +kernel
theorem d_LC_swap_99 : decode b_LC_swap 99 = .ok (.aload 7, 2) := by decide +kernel
theorem d_LC_swap_101 : decode b_LC_swap 101 = .ok (.iload 8, 2) := by decide +kernel
theorem d_LC_swap_103 : decode b_LC_swap 103 = .ok (.iload 5, 2) := by decide +kernel
theorem d_LC_swap_105 : decode b_LC_swap 105 = .ok (.aload_n 0, 1) := by decide +kernel
theorem d_LC_swap_106 : decode b_LC_swap 106 = .ok (.getfield 9, 3) := by decide +kernel
theorem d_LC_swap_109 : decode b_LC_swap 109 = .ok (.iload 4, 2) := by decide +kernel
theorem d_LC_swap_111 : decode b_LC_swap 111 = .ok (.iaload, 1) := by decide +kernel
theorem d_LC_swap_112 : decode b_LC_swap 112 = .ok (.invokevirtual 114, 3) := by decide +kernel
theorem d_LC_swap_115 : decode b_LC_swap 115 = .ok (.aload_n 0, 1) := by decide +kernel
theorem d_LC_swap_116 : decode b_LC_swap 116 = .ok (.getfield 33, 3) := by decide +kernel
theorem d_LC_swap_119 : decode b_LC_swap 119 = .ok (.iload_n 1, 1) := by decide +kernel
theorem d_LC_swap_120 : decode b_LC_swap 120 = .ok (.iload 4, 2) := by decide +kernel
theorem d_LC_swap_122 : decode b_LC_swap 122 = .ok (.iload 5, 2) := by decide +kernel
theorem d_LC_swap_124 : decode b_LC_swap 124 = .ok (.ineg, 1) := by decide +kernel
theorem d_LC_swap_125 : decode b_LC_swap 125 = .ok (.invokevirtual 140, 3) := by decide +kernel
theorem d_LC_swap_128 : decode b_LC_swap 128 = .ok (.aload_n 0, 1) := by decide +kernel
theorem d_LC_swap_129 : decode b_LC_swap 129 = .ok (.getfield 33, 3) := by decide +kernel
theorem d_LC_swap_132 : decode b_LC_swap 132 = .ok (.iload_n 2, 1) := by decide +kernel
theorem d_LC_swap_133 : decode b_LC_swap 133 = .ok (.iload 4, 2) := by decide +kernel
theorem d_LC_swap_135 : decode b_LC_swap 135 = .ok (.iload 5, 2) := by decide +kernel
theorem d_LC_swap_137 : decode b_LC_swap 137 = .ok (.invokevirtual 140, 3) := by decide +kernel
theorem d_LC_swap_140 : decode b_LC_swap 140 = .ok (.return_, 1) := by decide +kernel
theorem d_LC_ends_0 : decode b_LC_ends 0 = .ok (.aload_n 0, 1) := by decide +kernel
theorem d_LC_ends_1 : decode b_LC_ends 1 = .ok (.iload_n 1, 1) := by decide +kernel
theorem d_LC_ends_2 : decode b_LC_ends 2 = .ok (.invokevirtual 73, 3) := by decide +kernel
theorem d_LC_ends_5 : decode b_LC_ends 5 = .ok (.astore 4, 2) := by decide +kernel
theorem d_LC_ends_7 : decode b_LC_ends 7 = .ok (.iload_n 2, 1) := by decide +kernel
theorem d_LC_ends_8 : decode b_LC_ends 8 = .ok (.invokestatic 92, 3) := by decide +kernel
theorem d_LC_ends_11 : decode b_LC_ends 11 = .ok (.iload_n 3, 1) := by decide +kernel
theorem d_LC_ends_12 : decode b_LC_ends 12 = .ok (.iconst (-1), 1) := by decide +kernel
theorem d_LC_ends_13 : decode b_LC_ends 13 = .ok (.sipush 9999, 3) := by decide +kernel
theorem d_LC_ends_16 : decode b_LC_ends 16 = .ok (.invokestatic 42, 3) := by decide +kernel
theorem d_LC_ends_19 : decode b_LC_ends 19 = .ok (.aload 4, 2) := by decide +kernel
theorem d_LC_ends_21 : decode b_LC_ends 21 = .ok (.getfield 143, 3) := by decide +kernel
theorem d_LC_ends_24 : decode b_LC_ends 24 = .ok (.iload_n 2, 1) := by decide +kernel
theorem d_LC_ends_25 : decode b_LC_ends 25 = .ok (.iload_n 3, 1) := by decide +kernel
theorem d_LC_ends_26 : decode b_LC_ends 26 = .ok (.iastore, 1) := by decide +kernel
theorem d_LC_ends_27 : decode b_LC_ends 27 = .ok (.return_, 1) := by decide +kernel
theorem d_LC_battery_0 : decode b_LC_battery 0 = .ok (.aload_n 0, 1) := by decide +kernel
theorem d_LC_battery_1 : decode b_LC_battery 1 = .ok (.iload_n 1, 1) := by decide +kernel
theorem d_LC_battery_2 : decode b_LC_battery 2 = .ok (.invokevirtual 73, 3) := by decide +kernel
theorem d_LC_battery_5 : decode b_LC_battery 5 = .ok (.astore 4, 2) := by decide +kernel
theorem d_LC_battery_7 : decode b_LC_battery 7 = .ok (.iload_n 2, 1) := by decide +kernel
theorem d_LC_battery_8 : decode b_LC_battery 8 = .ok (.invokestatic 92, 3) := by decide +kernel
theorem d_LC_battery_11 : decode b_LC_battery 11 = .ok (.iload_n 3, 1) := by decide +kernel
theorem d_LC_battery_12 : decode b_LC_battery 12 = .ok (.iconst 0, 1) := by decide +kernel
theorem d_LC_battery_13 : decode b_LC_battery 13 = .ok (.bipush 100, 2) := by decide +kernel
theorem d_LC_battery_15 : decode b_LC_battery 15 = .ok (.invokestatic 42, 3) := by decide +kernel
theorem d_LC_battery_18 : decode b_LC_battery 18 = .ok (.aload 4, 2) := by decide +kernel
theorem d_LC_battery_20 : decode b_LC_battery 20 = .ok (.getfield 146, 3) := by decide +kernel
theorem d_LC_battery_23 : decode b_LC_battery 23 = .ok (.iload_n 2, 1) := by decide +kernel
theorem d_LC_battery_24 : decode b_LC_battery 24 = .ok (.iload_n 3, 1) := by decide +kernel
theorem d_LC_battery_25 : decode b_LC_battery 25 = .ok (.iastore, 1) := by decide +kernel
theorem d_LC_battery_26 : decode b_LC_battery 26 = .ok (.return_, 1) := by decide +kernel
theorem d_LC_seal_0 : decode b_LC_seal 0 = .ok (.aload_n 0, 1) := by decide +kernel
theorem d_LC_seal_1 : decode b_LC_seal 1 = .ok (.iload_n 1, 1) := by decide +kernel
theorem d_LC_seal_2 : decode b_LC_seal 2 = .ok (.invokevirtual 73, 3) := by decide +kernel
theorem d_LC_seal_5 : decode b_LC_seal 5 = .ok (.astore 4, 2) := by decide +kernel
theorem d_LC_seal_7 : decode b_LC_seal 7 = .ok (.iload_n 2, 1) := by decide +kernel
theorem d_LC_seal_8 : decode b_LC_seal 8 = .ok (.invokestatic 77, 3) := by decide +kernel
theorem d_LC_seal_11 : decode b_LC_seal 11 = .ok (.iload_n 3, 1) := by decide +kernel
theorem d_LC_seal_12 : decode b_LC_seal 12 = .ok (.ifCond .ne 7, 3) := by decide +kernel
theorem d_LC_seal_15 : decode b_LC_seal 15 = .ok (.iconst 1, 1) := by decide +kernel
theorem d_LC_seal_16 : decode b_LC_seal 16 = .ok (.goto 4, 3) := by decide +kernel
theorem d_LC_seal_19 : decode b_LC_seal 19 = .ok (.iconst 0, 1) := by decide +kernel
theorem d_LC_seal_20 : decode b_LC_seal 20 = .ok (.istore 5, 2) := by decide +kernel
theorem d_LC_seal_22 : decode b_LC_seal 22 = .ok (.aload 4, 2) := by decide +kernel
theorem d_LC_seal_24 : decode b_LC_seal 24 = .ok (.getfield 149, 3) := by decide +kernel
theorem d_LC_seal_27 : decode b_LC_seal 27 = .ok (.iload_n 2, 1) := by decide +kernel
theorem d_LC_seal_28 : decode b_LC_seal 28 = .ok (.baload, 1) := by decide +kernel
theorem d_LC_seal_29 : decode b_LC_seal 29 = .ok (.iload 5, 2) := by decide +kernel
theorem d_LC_seal_31 : decode b_LC_seal 31 = .ok (.if_icmp .ne 13, 3) := by decide +kernel
theorem d_LC_seal_34 : decode b_LC_seal 34 = .ok (.new 84, 3) := by decide +kernel
theorem d_LC_seal_37 : decode b_LC_seal 37 = .ok (.dup, 1) := by decide +kernel
theorem d_LC_seal_38 : decode b_LC_seal 38 = .ok (.ldc 153, 2) := by decide +kernel
theorem d_LC_seal_40 : decode b_LC_seal 40 = .ok (.invokespecial 88, 3) := by decide +kernel
theorem d_LC_seal_43 : decode b_LC_seal 43 = .ok (.athrow, 1) := by decide +kernel
theorem d_LC_seal_44 : decode b_LC_seal 44 = .ok (.aload 4, 2) := by decide +kernel
theorem d_LC_seal_46 : decode b_LC_seal 46 = .ok (.getfield 149, 3) := by decide +kernel
theorem d_LC_seal_49 : decode b_LC_seal 49 = .ok (.iload_n 2, 1) := by decide +kernel
theorem d_LC_seal_50 : decode b_LC_seal 50 = .ok (.iload 5, 2) := by decide +kernel
theorem d_LC_seal_52 : decode b_LC_seal 52 = .ok (.bastore, 1) := by decide +kernel
theorem d_LC_seal_53 : decode b_LC_seal 53 = .ok (.return_, 1) := by decide +kernel
theorem d_LC_check_0 : decode b_LC_check 0 = .ok (.aload_n 0, 1) := by decide +kernel
theorem d_LC_check_1 : decode b_LC_check 1 = .ok (.iload_n 1, 1) := by decide +kernel
theorem d_LC_check_2 : decode b_LC_check 2 = .ok (.invokevirtual 73, 3) := by decide +kernel
theorem d_LC_check_5 : decode b_LC_check 5 = .ok (.astore_n 2, 1) := by decide +kernel
theorem d_LC_check_6 : decode b_LC_check 6 = .ok (.aload_n 2, 1) := by decide +kernel
theorem d_LC_check_7 : decode b_LC_check 7 = .ok (.aload_n 0, 1) := by decide +kernel
theorem d_LC_check_8 : decode b_LC_check 8 = .ok (.getfield 155, 3) := by decide +kernel
theorem d_LC_check_11 : decode b_LC_check 11 = .ok (.putfield 158, 3) := by decide +kernel
theorem d_LC_check_14 : decode b_LC_check 14 = .ok (.aload_n 2, 1) := by decide +kernel
theorem d_LC_check_15 : decode b_LC_check 15 = .ok (.aload_n 0, 1) := by decide +kernel
theorem d_LC_check_16 : decode b_LC_check 16 = .ok (.getfield 161, 3) := by decide +kernel
theorem d_LC_check_19 : decode b_LC_check 19 = .ok (.putfield 164, 3) := by decide +kernel
theorem d_LC_check_22 : decode b_LC_check 22 = .ok (.return_, 1) := by decide +kernel
theorem d_LC_now_0 : decode b_LC_now 0 = .ok (.iload_n 1, 1) := by decide +kernel
theorem d_LC_now_1 : decode b_LC_now 1 = .ok (.aload_n 0, 1) := by decide +kernel
theorem d_LC_now_2 : decode b_LC_now 2 = .ok (.getfield 155, 3) := by decide +kernel
theorem d_LC_now_5 : decode b_LC_now 5 = .ok (.sipush 9999, 3) := by decide +kernel
theorem d_LC_now_8 : decode b_LC_now 8 = .ok (.invokestatic 42, 3) := by decide +kernel
theorem d_LC_now_11 : decode b_LC_now 11 = .ok (.iload_n 1, 1) := by decide +kernel
theorem d_LC_now_12 : decode b_LC_now 12 = .ok (.aload_n 0, 1) := by decide +kernel
theorem d_LC_now_13 : decode b_LC_now 13 = .ok (.getfield 155, 3) := by decide +kernel
theorem d_LC_now_16 : decode b_LC_now 16 = .ok (.if_icmp .ne 10, 3) := by decide +kernel
theorem d_LC_now_19 : decode b_LC_now 19 = .ok (.aload_n 0, 1) := by decide +kernel
theorem d_LC_now_20 : decode b_LC_now 20 = .ok (.getfield 161, 3) := by decide +kernel
theorem d_LC_now_23 : decode b_LC_now 23 = .ok (.goto 4, 3) := by decide +kernel
theorem d_LC_now_26 : decode b_LC_now 26 = .ok (.iconst 0, 1) := by decide +kernel
theorem d_LC_now_27 : decode b_LC_now 27 = .ok (.istore_n 3, 1) := by decide +kernel
theorem d_LC_now_28 : decode b_LC_now 28 = .ok (.iload_n 2, 1) := by decide +kernel
theorem d_LC_now_29 : decode b_LC_now 29 = .ok (.iload_n 3, 1) := by decide +kernel
theorem d_LC_now_30 : decode b_LC_now 30 = .ok (.iconst 2, 1) := by decide +kernel
theorem d_LC_now_31 : decode b_LC_now 31 = .ok (.invokestatic 42, 3) := by decide +kernel
theorem d_LC_now_34 : decode b_LC_now 34 = .ok (.aload_n 0, 1) := by decide +kernel
theorem d_LC_now_35 : decode b_LC_now 35 = .ok (.iload_n 1, 1) := by decide +kernel
theorem d_LC_now_36 : decode b_LC_now 36 = .ok (.putfield 155, 3) := by decide +kernel
theorem d_LC_now_39 : decode b_LC_now 39 = .ok (.aload_n 0, 1) := by decide +kernel
theorem d_LC_now_40 : decode b_LC_now 40 = .ok (.iload_n 2, 1) := by decide +kernel
theorem d_LC_now_41 : decode b_LC_now 41 = .ok (.putfield 161, 3) := by decide +kernel
theorem d_LC_now_44 : decode b_LC_now 44 = .ok (.return_, 1) := by decide +kernel
theorem d_LC_ready_0 : decode b_LC_ready 0 = .ok (.aload_n 0, 1) := by decide +kernel
theorem d_LC_ready_1 : decode b_LC_ready 1 = .ok (.iload_n 1, 1) := by decide +kernel
theorem d_LC_ready_2 : decode b_LC_ready 2 = .ok (.invokevirtual 73, 3) := by decide +kernel
theorem d_LC_ready_5 : decode b_LC_ready 5 = .ok (.astore_n 2, 1) := by decide +kernel
theorem d_LC_ready_6 : decode b_LC_ready 6 = .ok (.aload_n 0, 1) := by decide +kernel
theorem d_LC_ready_7 : decode b_LC_ready 7 = .ok (.getfield 21, 3) := by decide +kernel
theorem d_LC_ready_10 : decode b_LC_ready 10 = .ok (.aload_n 2, 1) := by decide +kernel
theorem d_LC_ready_11 : decode b_LC_ready 11 = .ok (.getfield 61, 3) := by decide +kernel
theorem d_LC_ready_14 : decode b_LC_ready 14 = .ok (.aaload, 1) := by decide +kernel
theorem d_LC_ready_15 : decode b_LC_ready 15 = .ok (.astore_n 3, 1) := by decide +kernel
theorem d_LC_ready_16 : decode b_LC_ready 16 = .ok (.aload_n 2, 1) := by decide +kernel
theorem d_LC_ready_17 : decode b_LC_ready 17 = .ok (.getfield 158, 3) := by decide +kernel
theorem d_LC_ready_20 : decode b_LC_ready 20 = .ok (.aload_n 0, 1) := by decide +kernel
theorem d_LC_ready_21 : decode b_LC_ready 21 = .ok (.getfield 155, 3) := by decide +kernel
theorem d_LC_ready_24 : decode b_LC_ready 24 = .ok (.if_icmp .ne 14, 3) := by decide +kernel
theorem d_LC_ready_27 : decode b_LC_ready 27 = .ok (.aload_n 2, 1) := by decide +kernel
theorem d_LC_ready_28 : decode b_LC_ready 28 = .ok (.getfield 164, 3) := by decide +kernel
theorem d_LC_ready_31 : decode b_LC_ready 31 = .ok (.aload_n 0, 1) := by decide +kernel
theorem d_LC_ready_32 : decode b_LC_ready 32 = .ok (.getfield 161, 3) := by decide +kernel
theorem d_LC_ready_35 : decode b_LC_ready 35 = .ok (.if_icmp .eq 5, 3) := by decide +kernel
theorem d_LC_ready_38 : decode b_LC_ready 38 = .ok (.iconst 1, 1) := by decide +kernel
theorem d_LC_ready_39 : decode b_LC_ready 39 = .ok (.ireturn, 1) := by decide +kernel
theorem d_LC_ready_40 : decode b_LC_ready 40 = .ok (.aload_n 2, 1) := by decide +kernel
theorem d_LC_ready_41 : decode b_LC_ready 41 = .ok (.aload_n 3, 1) := by decide +kernel
theorem d_LC_ready_42 : decode b_LC_ready 42 = .ok (.iconst 0, 1) := by decide +kernel
theorem d_LC_ready_43 : decode b_LC_ready 43 = .ok (.invokevirtual 167, 3) := by decide +kernel
theorem d_LC_ready_46 : decode b_LC_ready 46 = .ok (.iconst (-1), 1) := by decide +kernel
theorem d_LC_ready_47 : decode b_LC_ready 47 = .ok (.if_icmp .eq 5, 3) := by decide +kernel
theorem d_LC_ready_50 : decode b_LC_ready 50 = .ok (.iconst 2, 1) := by decide +kernel
theorem d_LC_ready_51 : decode b_LC_ready 51 = .ok (.ireturn, 1) := by decide +kernel
theorem d_LC_ready_52 : decode b_LC_ready 52 = .ok (.aload_n 2, 1) := by decide +kernel
theorem d_LC_ready_53 : decode b_LC_ready 53 = .ok (.invokevirtual 171, 3) := by decide +kernel
theorem d_LC_ready_56 : decode b_LC_ready 56 = .ok (.ifCond .eq 5, 3) := by decide +kernel
theorem d_LC_ready_59 : decode b_LC_ready 59 = .ok (.iconst 3, 1) := by decide +kernel
theorem d_LC_ready_60 : decode b_LC_ready 60 = .ok (.ireturn, 1) := by decide +kernel
theorem d_LC_ready_61 : decode b_LC_ready 61 = .ok (.aload_n 2, 1) := by decide +kernel
theorem d_LC_ready_62 : decode b_LC_ready 62 = .ok (.aload_n 3, 1) := by decide +kernel
theorem d_LC_ready_63 : decode b_LC_ready 63 = .ok (.aload_n 0, 1) := by decide +kernel
theorem d_LC_ready_64 : decode b_LC_ready 64 = .ok (.getfield 155, 3) := by decide +kernel
theorem d_LC_ready_67 : decode b_LC_ready 67 = .ok (.invokevirtual 175, 3) := by decide +kernel
theorem d_LC_ready_70 : decode b_LC_ready 70 = .ok (.ifCond .eq 5, 3) := by decide +kernel
theorem d_LC_ready_73 : decode b_LC_ready 73 = .ok (.iconst 4, 1) := by decide +kernel
theorem d_LC_ready_74 : decode b_LC_ready 74 = .ok (.ireturn, 1) := by decide +kernel
theorem d_LC_ready_75 : decode b_LC_ready 75 = .ok (.aload_n 2, 1) := by decide +kernel
theorem d_LC_ready_76 : decode b_LC_ready 76 = .ok (.aload_n 3, 1) := by decide +kernel
theorem d_LC_ready_77 : decode b_LC_ready 77 = .ok (.aload_n 0, 1) := by decide +kernel
theorem d_LC_ready_78 : decode b_LC_ready 78 = .ok (.getfield 13, 3) := by decide +kernel
theorem d_LC_ready_81 : decode b_LC_ready 81 = .ok (.invokevirtual 179, 3) := by decide +kernel
theorem d_LC_ready_84 : decode b_LC_ready 84 = .ok (.ifCond .eq 5, 3) := by decide +kernel
theorem d_LC_ready_87 : decode b_LC_ready 87 = .ok (.iconst 5, 1) := by decide +kernel
theorem d_LC_ready_88 : decode b_LC_ready 88 = .ok (.ireturn, 1) := by decide +kernel
theorem d_LC_ready_89 : decode b_LC_ready 89 = .ok (.aload_n 2, 1) := by decide +kernel
theorem d_LC_ready_90 : decode b_LC_ready 90 = .ok (.invokevirtual 183, 3) := by decide +kernel
theorem d_LC_ready_93 : decode b_LC_ready 93 = .ok (.ifCond .eq 8, 3) := by decide +kernel
theorem d_LC_ready_96 : decode b_LC_ready 96 = .ok (.bipush 6, 2) := by decide +kernel
theorem d_LC_ready_98 : decode b_LC_ready 98 = .ok (.goto 4, 3) := by decide +kernel
theorem d_LC_ready_101 : decode b_LC_ready 101 = .ok (.iconst 0, 1) := by decide +kernel
theorem d_LC_ready_102 : decode b_LC_ready 102 = .ok (.ireturn, 1) := by decide +kernel
theorem d_LC_missing_0 : decode b_LC_missing 0 = .ok (.aload_n 0, 1) := by decide +kernel
theorem d_LC_missing_1 : decode b_LC_missing 1 = .ok (.iload_n 1, 1) := by decide +kernel
theorem d_LC_missing_2 : decode b_LC_missing 2 = .ok (.invokevirtual 73, 3) := by decide +kernel
theorem d_LC_missing_5 : decode b_LC_missing 5 = .ok (.astore_n 3, 1) := by decide +kernel
theorem d_LC_missing_6 : decode b_LC_missing 6 = .ok (.iload_n 2, 1) := by decide +kernel
theorem d_LC_missing_7 : decode b_LC_missing 7 = .ok (.ifCond .ge 13, 3) := by decide +kernel
theorem d_LC_missing_10 : decode b_LC_missing 10 = .ok (.new 186, 3) := by decide +kernel
theorem d_LC_missing_13 : decode b_LC_missing 13 = .ok (.dup, 1) := by decide +kernel
theorem d_LC_missing_14 : decode b_LC_missing 14 = .ok (.ldc 188, 2) := by decide +kernel
theorem d_LC_missing_16 : decode b_LC_missing 16 = .ok (.invokespecial 190, 3) := by decide +kernel
theorem d_LC_missing_19 : decode b_LC_missing 19 = .ok (.athrow, 1) := by decide +kernel
theorem d_LC_missing_20 : decode b_LC_missing 20 = .ok (.aload_n 0, 1) := by decide +kernel
theorem d_LC_missing_21 : decode b_LC_missing 21 = .ok (.getfield 21, 3) := by decide +kernel
theorem d_LC_missing_24 : decode b_LC_missing 24 = .ok (.aload_n 3, 1) := by decide +kernel
theorem d_LC_missing_25 : decode b_LC_missing 25 = .ok (.getfield 61, 3) := by decide +kernel
theorem d_LC_missing_28 : decode b_LC_missing 28 = .ok (.aaload, 1) := by decide +kernel
theorem d_LC_missing_29 : decode b_LC_missing 29 = .ok (.astore 4, 2) := by decide +kernel
theorem d_LC_missing_31 : decode b_LC_missing 31 = .ok (.aload_n 3, 1) := by decide +kernel
theorem d_LC_missing_32 : decode b_LC_missing 32 = .ok (.aload 4, 2) := by decide +kernel
theorem d_LC_missing_34 : decode b_LC_missing 34 = .ok (.iload_n 2, 1) := by decide +kernel
theorem d_LC_missing_35 : decode b_LC_missing 35 = .ok (.invokevirtual 167, 3) := by decide +kernel
theorem d_LC_missing_38 : decode b_LC_missing 38 = .ok (.istore 5, 2) := by decide +kernel
theorem d_LC_missing_40 : decode b_LC_missing 40 = .ok (.iload 5, 2) := by decide +kernel
theorem d_LC_missing_42 : decode b_LC_missing 42 = .ok (.ifCond .lt 11, 3) := by decide +kernel
theorem d_LC_missing_45 : decode b_LC_missing 45 = .ok (.iload 5, 2) := by decide +kernel
theorem d_LC_missing_47 : decode b_LC_missing 47 = .ok (.sipush 240, 3) := by decide +kernel
theorem d_LC_missing_50 : decode b_LC_missing 50 = .ok (.if_icmp .lt 5, 3) := by decide +kernel
theorem d_LC_missing_53 : decode b_LC_missing 53 = .ok (.iconst (-1), 1) := by decide +kernel
theorem d_LC_missing_54 : decode b_LC_missing 54 = .ok (.ireturn, 1) := by decide +kernel
theorem d_LC_missing_55 : decode b_LC_missing 55 = .ok (.sipush 10000, 3) := by decide +kernel
theorem d_LC_missing_58 : decode b_LC_missing 58 = .ok (.iload 5, 2) := by decide +kernel
theorem d_LC_missing_60 : decode b_LC_missing 60 = .ok (.bipush 30, 2) := by decide +kernel
theorem d_LC_missing_62 : decode b_LC_missing 62 = .ok (.idiv, 1) := by decide +kernel
theorem d_LC_missing_63 : decode b_LC_missing 63 = .ok (.imul, 1) := by decide +kernel
theorem d_LC_missing_64 : decode b_LC_missing 64 = .ok (.bipush 100, 2) := by decide +kernel
theorem d_LC_missing_66 : decode b_LC_missing 66 = .ok (.iload 5, 2) := by decide +kernel
theorem d_LC_missing_68 : decode b_LC_missing 68 = .ok (.bipush 30, 2) := by decide +kernel
theorem d_LC_missing_70 : decode b_LC_missing 70 = .ok (.irem, 1) := by decide +kernel
theorem d_LC_missing_71 : decode b_LC_missing 71 = .ok (.imul, 1) := by decide +kernel
theorem d_LC_missing_72 : decode b_LC_missing 72 = .ok (.iadd, 1) := by decide +kernel
theorem d_LC_missing_73 : decode b_LC_missing 73 = .ok (.aload_n 3, 1) := by decide +kernel
theorem d_LC_missing_74 : decode b_LC_missing 74 = .ok (.iload 5, 2) := by decide +kernel
theorem d_LC_missing_76 : decode b_LC_missing 76 = .ok (.aload 4, 2) := by decide +kernel
theorem d_LC_missing_78 : decode b_LC_missing 78 = .ok (.iload 5, 2) := by decide +kernel
theorem d_LC_missing_80 : decode b_LC_missing 80 = .ok (.iaload, 1) := by decide +kernel
theorem d_LC_missing_81 : decode b_LC_missing 81 = .ok (.invokevirtual 123, 3) := by decide +kernel
theorem d_LC_missing_84 : decode b_LC_missing 84 = .ok (.iadd, 1) := by decide +kernel
theorem d_LC_missing_85 : decode b_LC_missing 85 = .ok (.ireturn, 1) := by decide +kernel
theorem d_LC_share_0 : decode b_LC_share 0 = .ok (.aload_n 0, 1) := by decide +kernel
theorem d_LC_share_1 : decode b_LC_share 1 = .ok (.iload_n 1, 1) := by decide +kernel
theorem d_LC_share_2 : decode b_LC_share 2 = .ok (.invokevirtual 73, 3) := by decide +kernel
theorem d_LC_share_5 : decode b_LC_share 5 = .ok (.astore_n 2, 1) := by decide +kernel
theorem d_LC_share_6 : decode b_LC_share 6 = .ok (.aload_n 0, 1) := by decide +kernel
theorem d_LC_share_7 : decode b_LC_share 7 = .ok (.getfield 21, 3) := by decide +kernel
theorem d_LC_share_10 : decode b_LC_share 10 = .ok (.aload_n 2, 1) := by decide +kernel
theorem d_LC_share_11 : decode b_LC_share 11 = .ok (.getfield 61, 3) := by decide +kernel
theorem d_LC_share_14 : decode b_LC_share 14 = .ok (.aaload, 1) := by decide +kernel
theorem d_LC_share_15 : decode b_LC_share 15 = .ok (.astore_n 3, 1) := by decide +kernel
theorem d_LC_share_16 : decode b_LC_share 16 = .ok (.iconst 0, 1) := by decide +kernel
theorem d_LC_share_17 : decode b_LC_share 17 = .ok (.istore 4, 2) := by decide +kernel
theorem d_LC_share_19 : decode b_LC_share 19 = .ok (.iconst 0, 1) := by decide +kernel
theorem d_LC_share_20 : decode b_LC_share 20 = .ok (.istore 5, 2) := by decide +kernel
theorem d_LC_share_22 : decode b_LC_share 22 = .ok (.iconst 0, 1) := by decide +kernel
theorem d_LC_share_23 : decode b_LC_share 23 = .ok (.istore 6, 2) := by decide +kernel
theorem d_LC_share_25 : decode b_LC_share 25 = .ok (.iload 6, 2) := by decide +kernel
theorem d_LC_share_27 : decode b_LC_share 27 = .ok (.sipush 240, 3) := by decide +kernel
theorem d_LC_share_30 : decode b_LC_share 30 = .ok (.if_icmp .ge 37, 3) := by decide +kernel
theorem d_LC_share_33 : decode b_LC_share 33 = .ok (.iload 4, 2) := by decide +kernel
theorem d_LC_share_35 : decode b_LC_share 35 = .ok (.aload_n 3, 1) := by decide +kernel
theorem d_LC_share_36 : decode b_LC_share 36 = .ok (.iload 6, 2) := by decide +kernel
theorem d_LC_share_38 : decode b_LC_share 38 = .ok (.iaload, 1) := by decide +kernel
theorem d_LC_share_39 : decode b_LC_share 39 = .ok (.iadd, 1) := by decide +kernel
theorem d_LC_share_40 : decode b_LC_share 40 = .ok (.istore 4, 2) := by decide +kernel
theorem d_LC_share_42 : decode b_LC_share 42 = .ok (.iload 5, 2) := by decide +kernel
theorem d_LC_share_44 : decode b_LC_share 44 = .ok (.aload_n 2, 1) := by decide +kernel
theorem d_LC_share_45 : decode b_LC_share 45 = .ok (.getfield 117, 3) := by decide +kernel
theorem d_LC_share_48 : decode b_LC_share 48 = .ok (.iload 6, 2) := by decide +kernel
theorem d_LC_share_50 : decode b_LC_share 50 = .ok (.iaload, 1) := by decide +kernel
theorem d_LC_share_51 : decode b_LC_share 51 = .ok (.aload_n 3, 1) := by decide +kernel
theorem d_LC_share_52 : decode b_LC_share 52 = .ok (.iload 6, 2) := by decide +kernel
theorem d_LC_share_54 : decode b_LC_share 54 = .ok (.iaload, 1) := by decide +kernel
theorem d_LC_share_55 : decode b_LC_share 55 = .ok (.invokestatic 126, 3) := by decide +kernel
theorem d_LC_share_58 : decode b_LC_share 58 = .ok (.iadd, 1) := by decide +kernel
theorem d_LC_share_59 : decode b_LC_share 59 = .ok (.istore 5, 2) := by decide +kernel
theorem d_LC_share_61 : decode b_LC_share 61 = .ok (.iinc 6 1, 3) := by decide +kernel
theorem d_LC_share_64 : decode b_LC_share 64 = .ok (.goto (-39), 3) := by decide +kernel
theorem d_LC_share_67 : decode b_LC_share 67 = .ok (.iload 4, 2) := by decide +kernel
theorem d_LC_share_69 : decode b_LC_share 69 = .ok (.ifCond .ne 13, 3) := by decide +kernel
theorem d_LC_share_72 : decode b_LC_share 72 = .ok (.new 191, 3) := by decide +kernel
theorem d_LC_share_75 : decode b_LC_share 75 = .ok (.dup, 1) := by decide +kernel
theorem d_LC_share_76 : decode b_LC_share 76 = .ok (.ldc 193, 2) := by decide +kernel
theorem d_LC_share_78 : decode b_LC_share 78 = .ok (.invokespecial 195, 3) := by decide +kernel
theorem d_LC_share_81 : decode b_LC_share 81 = .ok (.athrow, 1) := by decide +kernel
theorem d_LC_share_82 : decode b_LC_share 82 = .ok (.sipush 1000, 3) := by decide +kernel
theorem d_LC_share_85 : decode b_LC_share 85 = .ok (.iload 5, 2) := by decide +kernel
theorem d_LC_share_87 : decode b_LC_share 87 = .ok (.imul, 1) := by decide +kernel
theorem d_LC_share_88 : decode b_LC_share 88 = .ok (.iload 4, 2) := by decide +kernel
theorem d_LC_share_90 : decode b_LC_share 90 = .ok (.idiv, 1) := by decide +kernel
theorem d_LC_share_91 : decode b_LC_share 91 = .ok (.ireturn, 1) := by decide +kernel
theorem d_LC_axle_0 : decode b_LC_axle 0 = .ok (.aload_n 0, 1) := by decide +kernel
theorem d_LC_axle_1 : decode b_LC_axle 1 = .ok (.iload_n 1, 1) := by decide +kernel
theorem d_LC_axle_2 : decode b_LC_axle 2 = .ok (.invokevirtual 73, 3) := by decide +kernel
theorem d_LC_axle_5 : decode b_LC_axle 5 = .ok (.astore_n 3, 1) := by decide +kernel
theorem d_LC_axle_6 : decode b_LC_axle 6 = .ok (.iload_n 2, 1) := by decide +kernel
theorem d_LC_axle_7 : decode b_LC_axle 7 = .ok (.ifCond .lt 8, 3) := by decide +kernel
theorem d_LC_axle_10 : decode b_LC_axle 10 = .ok (.iload_n 2, 1) := by decide +kernel
theorem d_LC_axle_11 : decode b_LC_axle 11 = .ok (.iconst 4, 1) := by decide +kernel
theorem d_LC_axle_12 : decode b_LC_axle 12 = .ok (.if_icmp .lt 13, 3) := by decide +kernel
theorem d_LC_axle_15 : decode b_LC_axle 15 = .ok (.new 135, 3) := by decide +kernel
theorem d_LC_axle_18 : decode b_LC_axle 18 = .ok (.dup, 1) := by decide +kernel
theorem d_LC_axle_19 : decode b_LC_axle 19 = .ok (.ldc 196, 2) := by decide +kernel
theorem d_LC_axle_21 : decode b_LC_axle 21 = .ok (.invokespecial 139, 3) := by decide +kernel
theorem d_LC_axle_24 : decode b_LC_axle 24 = .ok (.athrow, 1) := by decide +kernel
theorem d_LC_axle_25 : decode b_LC_axle 25 = .ok (.iload_n 2, 1) := by decide +kernel
theorem d_LC_axle_26 : decode b_LC_axle 26 = .ok (.iconst 2, 1) := by decide +kernel
theorem d_LC_axle_27 : decode b_LC_axle 27 = .ok (.if_icmp .ge 10, 3) := by decide +kernel
theorem d_LC_axle_30 : decode b_LC_axle 30 = .ok (.aload_n 3, 1) := by decide +kernel
theorem d_LC_axle_31 : decode b_LC_axle 31 = .ok (.invokevirtual 198, 3) := by decide +kernel
theorem d_LC_axle_34 : decode b_LC_axle 34 = .ok (.goto 7, 3) := by decide +kernel
theorem d_LC_axle_37 : decode b_LC_axle 37 = .ok (.aload_n 3, 1) := by decide +kernel
theorem d_LC_axle_38 : decode b_LC_axle 38 = .ok (.invokevirtual 202, 3) := by decide +kernel
theorem d_LC_axle_41 : decode b_LC_axle 41 = .ok (.lstore 4, 2) := by decide +kernel
theorem d_LC_axle_43 : decode b_LC_axle 43 = .ok (.aload_n 3, 1) := by decide +kernel
theorem d_LC_axle_44 : decode b_LC_axle 44 = .ok (.getfield 64, 3) := by decide +kernel
theorem d_LC_axle_47 : decode b_LC_axle 47 = .ok (.i2l, 1) := by decide +kernel
theorem d_LC_axle_48 : decode b_LC_axle 48 = .ok (.lstore 6, 2) := by decide +kernel
theorem d_LC_axle_50 : decode b_LC_axle 50 = .ok (.lload 4, 2) := by decide +kernel
theorem d_LC_axle_52 : decode b_LC_axle 52 = .ok (.lload 6, 2) := by decide +kernel
theorem d_LC_axle_54 : decode b_LC_axle 54 = .ok (.invokestatic 205, 3) := by decide +kernel
theorem d_LC_axle_57 : decode b_LC_axle 57 = .ok (.lstore 8, 2) := by decide +kernel
theorem d_LC_axle_59 : decode b_LC_axle 59 = .ok (.iload_n 2, 1) := by decide +kernel
theorem d_LC_axle_60 : decode b_LC_axle 60 = .ok (.iconst 2, 1) := by decide +kernel
theorem d_LC_axle_61 : decode b_LC_axle 61 = .ok (.irem, 1) := by decide +kernel
theorem d_LC_axle_62 : decode b_LC_axle 62 = .ok (.ifCond .ne 8, 3) := by decide +kernel
theorem d_LC_axle_65 : decode b_LC_axle 65 = .ok (.lload 4, 2) := by decide +kernel
theorem d_LC_axle_67 : decode b_LC_axle 67 = .ok (.goto 5, 3) := by decide +kernel
theorem d_LC_axle_70 : decode b_LC_axle 70 = .ok (.lload 6, 2) := by decide +kernel
theorem d_LC_axle_72 : decode b_LC_axle 72 = .ok (.lload 8, 2) := by decide +kernel
theorem d_LC_axle_74 : decode b_LC_axle 74 = .ok (.ldiv, 1) := by decide +kernel
theorem d_LC_axle_75 : decode b_LC_axle 75 = .ok (.lreturn, 1) := by decide +kernel
theorem d_LC_row_0 : decode b_LC_row 0 = .ok (.aload_n 0, 1) := by decide +kernel
theorem d_LC_row_1 : decode b_LC_row 1 = .ok (.getfield 33, 3) := by decide +kernel
theorem d_LC_row_4 : decode b_LC_row 4 = .ok (.iload_n 1, 1) := by decide +kernel
theorem d_LC_row_5 : decode b_LC_row 5 = .ok (.invokevirtual 209, 3) := by decide +kernel
theorem d_LC_row_8 : decode b_LC_row 8 = .ok (.ifCond .eq 12, 3) := by decide +kernel
theorem d_LC_row_11 : decode b_LC_row 11 = .ok (.iload_n 2, 1) := by decide +kernel
theorem d_LC_row_12 : decode b_LC_row 12 = .ok (.ifCond .lt 8, 3) := by decide +kernel
theorem d_LC_row_15 : decode b_LC_row 15 = .ok (.iload_n 2, 1) := by decide +kernel
theorem d_LC_row_16 : decode b_LC_row 16 = .ok (.iconst 3, 1) := by decide +kernel
theorem d_LC_row_17 : decode b_LC_row 17 = .ok (.if_icmp .lt 13, 3) := by decide +kernel
theorem d_LC_row_20 : decode b_LC_row 20 = .ok (.new 135, 3) := by decide +kernel
theorem d_LC_row_23 : decode b_LC_row 23 = .ok (.dup, 1) := by decide +kernel
theorem d_LC_row_24 : decode b_LC_row 24 = .ok (.ldc 212, 2) := by decide +kernel
theorem d_LC_row_26 : decode b_LC_row 26 = .ok (.invokespecial 139, 3) := by decide +kernel
theorem d_LC_row_29 : decode b_LC_row 29 = .ok (.athrow, 1) := by decide +kernel
theorem d_LC_row_30 : decode b_LC_row 30 = .ok (.aload_n 0, 1) := by decide +kernel
theorem d_LC_row_31 : decode b_LC_row 31 = .ok (.getfield 33, 3) := by decide +kernel
theorem d_LC_row_34 : decode b_LC_row 34 = .ok (.iload_n 1, 1) := by decide +kernel
theorem d_LC_row_35 : decode b_LC_row 35 = .ok (.iload_n 2, 1) := by decide +kernel
theorem d_LC_row_36 : decode b_LC_row 36 = .ok (.invokevirtual 214, 3) := by decide +kernel
theorem d_LC_row_39 : decode b_LC_row 39 = .ok (.ireturn, 1) := by decide +kernel
theorem d_LC_has_0 : decode b_LC_has 0 = .ok (.aload_n 0, 1) := by decide +kernel
theorem d_LC_has_1 : decode b_LC_has 1 = .ok (.iload_n 1, 1) := by decide +kernel
theorem d_LC_has_2 : decode b_LC_has 2 = .ok (.invokevirtual 73, 3) := by decide +kernel
theorem d_LC_has_5 : decode b_LC_has 5 = .ok (.astore 4, 2) := by decide +kernel
theorem d_LC_has_7 : decode b_LC_has 7 = .ok (.iload_n 2, 1) := by decide +kernel
theorem d_LC_has_8 : decode b_LC_has 8 = .ok (.invokestatic 77, 3) := by decide +kernel
theorem d_LC_has_11 : decode b_LC_has 11 = .ok (.iload_n 3, 1) := by decide +kernel
theorem d_LC_has_12 : decode b_LC_has 12 = .ok (.invokestatic 92, 3) := by decide +kernel
theorem d_LC_has_15 : decode b_LC_has 15 = .ok (.aload 4, 2) := by decide +kernel
theorem d_LC_has_17 : decode b_LC_has 17 = .ok (.getfield 117, 3) := by decide +kernel
theorem d_LC_has_20 : decode b_LC_has 20 = .ok (.iload_n 2, 1) := by decide +kernel
theorem d_LC_has_21 : decode b_LC_has 21 = .ok (.iload_n 3, 1) := by decide +kernel
theorem d_LC_has_22 : decode b_LC_has 22 = .ok (.invokestatic 101, 3) := by decide +kernel
theorem d_LC_has_25 : decode b_LC_has 25 = .ok (.iaload, 1) := by decide +kernel
theorem d_LC_has_26 : decode b_LC_has 26 = .ok (.ireturn, 1) := by decide +kernel
theorem d_LC_stocked_0 : decode b_LC_stocked 0 = .ok (.iload_n 1, 1) := by decide +kernel
theorem d_LC_stocked_1 : decode b_LC_stocked 1 = .ok (.invokestatic 92, 3) := by decide +kernel
theorem d_LC_stocked_4 : decode b_LC_stocked 4 = .ok (.aload_n 0, 1) := by decide +kernel
theorem d_LC_stocked_5 : decode b_LC_stocked 5 = .ok (.getfield 16, 3) := by decide +kernel
theorem d_LC_stocked_8 : decode b_LC_stocked 8 = .ok (.iload_n 1, 1) := by decide +kernel
theorem d_LC_stocked_9 : decode b_LC_stocked 9 = .ok (.iaload, 1) := by decide +kernel
theorem d_LC_stocked_10 : decode b_LC_stocked 10 = .ok (.ireturn, 1) := by decide +kernel
theorem d_LC_knownVehicle_0 : decode b_LC_knownVehicle 0 = .ok (.iload_n 1, 1) := by decide +kernel
theorem d_LC_knownVehicle_1 : decode b_LC_knownVehicle 1 = .ok (.ifCond .lt 11, 3) := by decide +kernel
theorem d_LC_knownVehicle_4 : decode b_LC_knownVehicle 4 = .ok (.iload_n 1, 1) := by decide +kernel
theorem d_LC_knownVehicle_5 : decode b_LC_knownVehicle 5 = .ok (.aload_n 0, 1) := by decide +kernel
theorem d_LC_knownVehicle_6 : decode b_LC_knownVehicle 6 = .ok (.getfield 50, 3) := by decide +kernel
theorem d_LC_knownVehicle_9 : decode b_LC_knownVehicle 9 = .ok (.if_icmp .lt 13, 3) := by decide +kernel
theorem d_LC_knownVehicle_12 : decode b_LC_knownVehicle 12 = .ok (.new 135, 3) := by decide +kernel
theorem d_LC_knownVehicle_15 : decode b_LC_knownVehicle 15 = .ok (.dup, 1) := by decide +kernel
theorem d_LC_knownVehicle_16 : decode b_LC_knownVehicle 16 = .ok (.ldc 217, 2) := by decide +kernel
theorem d_LC_knownVehicle_18 : decode b_LC_knownVehicle 18 = .ok (.invokespecial 139, 3) := by decide +kernel
theorem d_LC_knownVehicle_21 : decode b_LC_knownVehicle 21 = .ok (.athrow, 1) := by decide +kernel
theorem d_LC_knownVehicle_22 : decode b_LC_knownVehicle 22 = .ok (.aload_n 0, 1) := by decide +kernel
theorem d_LC_knownVehicle_23 : decode b_LC_knownVehicle 23 = .ok (.getfield 26, 3) := by decide +kernel
theorem d_LC_knownVehicle_26 : decode b_LC_knownVehicle 26 = .ok (.iload_n 1, 1) := by decide +kernel
theorem d_LC_knownVehicle_27 : decode b_LC_knownVehicle 27 = .ok (.aaload, 1) := by decide +kernel
theorem d_LC_knownVehicle_28 : decode b_LC_knownVehicle 28 = .ok (.areturn, 1) := by decide +kernel
theorem d_LC_requireKind_0 : decode b_LC_requireKind 0 = .ok (.iload_n 0, 1) := by decide +kernel
theorem d_LC_requireKind_1 : decode b_LC_requireKind 1 = .ok (.ifCond .lt 9, 3) := by decide +kernel
theorem d_LC_requireKind_4 : decode b_LC_requireKind 4 = .ok (.iload_n 0, 1) := by decide +kernel
theorem d_LC_requireKind_5 : decode b_LC_requireKind 5 = .ok (.bipush 6, 2) := by decide +kernel
theorem d_LC_requireKind_7 : decode b_LC_requireKind 7 = .ok (.if_icmp .lt 13, 3) := by decide +kernel
theorem d_LC_requireKind_10 : decode b_LC_requireKind 10 = .ok (.new 135, 3) := by decide +kernel
theorem d_LC_requireKind_13 : decode b_LC_requireKind 13 = .ok (.dup, 1) := by decide +kernel
theorem d_LC_requireKind_14 : decode b_LC_requireKind 14 = .ok (.ldc 219, 2) := by decide +kernel
theorem d_LC_requireKind_16 : decode b_LC_requireKind 16 = .ok (.invokespecial 139, 3) := by decide +kernel
theorem d_LC_requireKind_19 : decode b_LC_requireKind 19 = .ok (.athrow, 1) := by decide +kernel
theorem d_LC_requireKind_20 : decode b_LC_requireKind 20 = .ok (.return_, 1) := by decide +kernel
theorem d_LC_requireCupboard_0 : decode b_LC_requireCupboard 0 = .ok (.iload_n 0, 1) := by decide +kernel
theorem d_LC_requireCupboard_1 : decode b_LC_requireCupboard 1 = .ok (.ifCond .lt 9, 3) := by decide +kernel
theorem d_LC_requireCupboard_4 : decode b_LC_requireCupboard 4 = .ok (.iload_n 0, 1) := by decide +kernel
theorem d_LC_requireCupboard_5 : decode b_LC_requireCupboard 5 = .ok (.bipush 8, 2) := by decide +kernel
theorem d_LC_requireCupboard_7 : decode b_LC_requireCupboard 7 = .ok (.if_icmp .lt 13, 3) := by decide +kernel
theorem d_LC_requireCupboard_10 : decode b_LC_requireCupboard 10 = .ok (.new 135, 3) := by decide +kernel
theorem d_LC_requireCupboard_13 : decode b_LC_requireCupboard 13 = .ok (.dup, 1) := by decide +kernel
theorem d_LC_requireCupboard_14 : decode b_LC_requireCupboard 14 = .ok (.ldc 221, 2) := by decide +kernel
theorem d_LC_requireCupboard_16 : decode b_LC_requireCupboard 16 = .ok (.invokespecial 139, 3) := by decide +kernel
theorem d_LC_requireCupboard_19 : decode b_LC_requireCupboard 19 = .ok (.athrow, 1) := by decide +kernel
theorem d_LC_requireCupboard_20 : decode b_LC_requireCupboard 20 = .ok (.return_, 1) := by decide +kernel
theorem d_LC_requireItem_0 : decode b_LC_requireItem 0 = .ok (.iload_n 0, 1) := by decide +kernel
theorem d_LC_requireItem_1 : decode b_LC_requireItem 1 = .ok (.ifCond .lt 9, 3) := by decide +kernel
theorem d_LC_requireItem_4 : decode b_LC_requireItem 4 = .ok (.iload_n 0, 1) := by decide +kernel
theorem d_LC_requireItem_5 : decode b_LC_requireItem 5 = .ok (.bipush 30, 2) := by decide +kernel
theorem d_LC_requireItem_7 : decode b_LC_requireItem 7 = .ok (.if_icmp .lt 13, 3) := by decide +kernel
theorem d_LC_requireItem_10 : decode b_LC_requireItem 10 = .ok (.new 135, 3) := by decide +kernel
theorem d_LC_requireItem_13 : decode b_LC_requireItem 13 = .ok (.dup, 1) := by decide +kernel
theorem d_LC_requireItem_14 : decode b_LC_requireItem 14 = .ok (.ldc 223, 2) := by decide +kernel
theorem d_LC_requireItem_16 : decode b_LC_requireItem 16 = .ok (.invokespecial 139, 3) := by decide +kernel
theorem d_LC_requireItem_19 : decode b_LC_requireItem 19 = .ok (.athrow, 1) := by decide +kernel
theorem d_LC_requireItem_20 : decode b_LC_requireItem 20 = .ok (.return_, 1) := by decide +kernel
theorem d_LC_requireRange_0 : decode b_LC_requireRange 0 = .ok (.iload_n 0, 1) := by decide +kernel
theorem d_LC_requireRange_1 : decode b_LC_requireRange 1 = .ok (.iload_n 1, 1) := by decide +kernel
theorem d_LC_requireRange_2 : decode b_LC_requireRange 2 = .ok (.if_icmp .lt 8, 3) := by decide +kernel
theorem d_LC_requireRange_5 : decode b_LC_requireRange 5 = .ok (.iload_n 0, 1) := by decide +kernel
theorem d_LC_requireRange_6 : decode b_LC_requireRange 6 = .ok (.iload_n 2, 1) := by decide +kernel
theorem d_LC_requireRange_7 : decode b_LC_requireRange 7 = .ok (.if_icmp .le 13, 3) := by decide +kernel
theorem d_LC_requireRange_10 : decode b_LC_requireRange 10 = .ok (.new 186, 3) := by decide +kernel
theorem d_LC_requireRange_13 : decode b_LC_requireRange 13 = .ok (.dup, 1) := by decide +kernel
theorem d_LC_requireRange_14 : decode b_LC_requireRange 14 = .ok (.ldc 225, 2) := by decide +kernel
theorem d_LC_requireRange_16 : decode b_LC_requireRange 16 = .ok (.invokespecial 190, 3) := by decide +kernel
theorem d_LC_requireRange_19 : decode b_LC_requireRange 19 = .ok (.athrow, 1) := by decide +kernel
theorem d_LC_requireRange_20 : decode b_LC_requireRange 20 = .ok (.return_, 1) := by decide +kernel
theorem d_LC_requireLimits_0 : decode b_LC_requireLimits 0 = .ok (.iload_n 0, 1) := by decide +kernel
theorem d_LC_requireLimits_1 : decode b_LC_requireLimits 1 = .ok (.iconst 0, 1) := by decide +kernel
theorem d_LC_requireLimits_2 : decode b_LC_requireLimits 2 = .ok (.ldc 227, 2) := by decide +kernel
theorem d_LC_requireLimits_4 : decode b_LC_requireLimits 4 = .ok (.invokestatic 42, 3) := by decide +kernel
theorem d_LC_requireLimits_7 : decode b_LC_requireLimits 7 = .ok (.iload_n 1, 1) := by decide +kernel
theorem d_LC_requireLimits_8 : decode b_LC_requireLimits 8 = .ok (.iconst 0, 1) := by decide +kernel
theorem d_LC_requireLimits_9 : decode b_LC_requireLimits 9 = .ok (.ldc 227, 2) := by decide +kernel
theorem d_LC_requireLimits_11 : decode b_LC_requireLimits 11 = .ok (.invokestatic 42, 3) := by decide +kernel
theorem d_LC_requireLimits_14 : decode b_LC_requireLimits 14 = .ok (.return_, 1) := by decide +kernel
theorem d_LC_requireSoMany_0 : decode b_LC_requireSoMany 0 = .ok (.aload_n 0, 1) := by decide +kernel
theorem d_LC_requireSoMany_1 : decode b_LC_requireSoMany 1 = .ok (.getfield 117, 3) := by decide +kernel
theorem d_LC_requireSoMany_4 : decode b_LC_requireSoMany 4 = .ok (.iload_n 1, 1) := by decide +kernel
theorem d_LC_requireSoMany_5 : decode b_LC_requireSoMany 5 = .ok (.iaload, 1) := by decide +kernel
theorem d_LC_requireSoMany_6 : decode b_LC_requireSoMany 6 = .ok (.iload_n 2, 1) := by decide +kernel
theorem d_LC_requireSoMany_7 : decode b_LC_requireSoMany 7 = .ok (.if_icmp .ge 13, 3) := by decide +kernel
theorem d_LC_requireSoMany_10 : decode b_LC_requireSoMany 10 = .ok (.new 84, 3) := by decide +kernel
theorem d_LC_requireSoMany_13 : decode b_LC_requireSoMany 13 = .ok (.dup, 1) := by decide +kernel
theorem d_LC_requireSoMany_14 : decode b_LC_requireSoMany 14 = .ok (.ldc 228, 2) := by decide +kernel
theorem d_LC_requireSoMany_16 : decode b_LC_requireSoMany 16 = .ok (.invokespecial 88, 3) := by decide +kernel
theorem d_LC_requireSoMany_19 : decode b_LC_requireSoMany 19 = .ok (.athrow, 1) := by decide +kernel
theorem d_LC_requireSoMany_20 : decode b_LC_requireSoMany 20 = .ok (.return_, 1) := by decide +kernel
theorem d_LC_requireBearable_0 : decode b_LC_requireBearable 0 = .ok (.aload_n 1, 1) := by decide +kernel
theorem d_LC_requireBearable_1 : decode b_LC_requireBearable 1 = .ok (.iload_n 2, 1) := by decide +kernel
theorem d_LC_requireBearable_2 : decode b_LC_requireBearable 2 = .ok (.iload_n 3, 1) := by decide +kernel
theorem d_LC_requireBearable_3 : decode b_LC_requireBearable 3 = .ok (.aload_n 0, 1) := by decide +kernel
theorem d_LC_requireBearable_4 : decode b_LC_requireBearable 4 = .ok (.getfield 9, 3) := by decide +kernel
theorem d_LC_requireBearable_7 : decode b_LC_requireBearable 7 = .ok (.iload_n 2, 1) := by decide +kernel
theorem d_LC_requireBearable_8 : decode b_LC_requireBearable 8 = .ok (.bipush 30, 2) := by decide +kernel
theorem d_LC_requireBearable_10 : decode b_LC_requireBearable 10 = .ok (.irem, 1) := by decide +kernel
theorem d_LC_requireBearable_11 : decode b_LC_requireBearable 11 = .ok (.iaload, 1) := by decide +kernel
theorem d_LC_requireBearable_12 : decode b_LC_requireBearable 12 = .ok (.invokevirtual 131, 3) := by decide +kernel
theorem d_LC_requireBearable_15 : decode b_LC_requireBearable 15 = .ok (.ifCond .ne 13, 3) := by decide +kernel
theorem d_LC_requireBearable_18 : decode b_LC_requireBearable 18 = .ok (.new 84, 3) := by decide +kernel
theorem d_LC_requireBearable_21 : decode b_LC_requireBearable 21 = .ok (.dup, 1) := by decide +kernel
theorem d_LC_requireBearable_22 : decode b_LC_requireBearable 22 = .ok (.ldc 230, 2) := by decide +kernel
theorem d_LC_requireBearable_24 : decode b_LC_requireBearable 24 = .ok (.invokespecial 88, 3) := by decide +kernel
theorem d_LC_requireBearable_27 : decode b_LC_requireBearable 27 = .ok (.athrow, 1) := by decide +kernel
theorem d_LC_requireBearable_28 : decode b_LC_requireBearable 28 = .ok (.return_, 1) := by decide +kernel
theorem d_LC_requireRoom_0 : decode b_LC_requireRoom 0 = .ok (.aload_n 0, 1) := by decide +kernel
theorem d_LC_requireRoom_1 : decode b_LC_requireRoom 1 = .ok (.getfield 117, 3) := by decide +kernel
theorem d_LC_requireRoom_4 : decode b_LC_requireRoom 4 = .ok (.iload_n 1, 1) := by decide +kernel
theorem d_LC_requireRoom_5 : decode b_LC_requireRoom 5 = .ok (.iaload, 1) := by decide +kernel
theorem d_LC_requireRoom_6 : decode b_LC_requireRoom 6 = .ok (.iload_n 2, 1) := by decide +kernel
theorem d_LC_requireRoom_7 : decode b_LC_requireRoom 7 = .ok (.iadd, 1) := by decide +kernel
theorem d_LC_requireRoom_8 : decode b_LC_requireRoom 8 = .ok (.bipush 99, 2) := by decide +kernel
theorem d_LC_requireRoom_10 : decode b_LC_requireRoom 10 = .ok (.if_icmp .le 13, 3) := by decide +kernel
theorem d_LC_requireRoom_13 : decode b_LC_requireRoom 13 = .ok (.new 54, 3) := by decide +kernel
theorem d_LC_requireRoom_16 : decode b_LC_requireRoom 16 = .ok (.dup, 1) := by decide +kernel
theorem d_LC_requireRoom_17 : decode b_LC_requireRoom 17 = .ok (.ldc 232, 2) := by decide +kernel
theorem d_LC_requireRoom_19 : decode b_LC_requireRoom 19 = .ok (.invokespecial 58, 3) := by decide +kernel
theorem d_LC_requireRoom_22 : decode b_LC_requireRoom 22 = .ok (.athrow, 1) := by decide +kernel
theorem d_LC_requireRoom_23 : decode b_LC_requireRoom 23 = .ok (.return_, 1) := by decide +kernel
theorem d_LC_cellOf_0 : decode b_LC_cellOf 0 = .ok (.iload_n 0, 1) := by decide +kernel
theorem d_LC_cellOf_1 : decode b_LC_cellOf 1 = .ok (.bipush 30, 2) := by decide +kernel
theorem d_LC_cellOf_3 : decode b_LC_cellOf 3 = .ok (.imul, 1) := by decide +kernel
theorem d_LC_cellOf_4 : decode b_LC_cellOf 4 = .ok (.iload_n 1, 1) := by decide +kernel
theorem d_LC_cellOf_5 : decode b_LC_cellOf 5 = .ok (.iadd, 1) := by decide +kernel
theorem d_LC_cellOf_6 : decode b_LC_cellOf 6 = .ok (.ireturn, 1) := by decide +kernel
theorem d_LC_isAnywhere_0 : decode b_LC_isAnywhere 0 = .ok (.aload_n 0, 1) := by decide +kernel
theorem d_LC_isAnywhere_1 : decode b_LC_isAnywhere 1 = .ok (.getfield 16, 3) := by decide +kernel
theorem d_LC_isAnywhere_4 : decode b_LC_isAnywhere 4 = .ok (.iload_n 1, 1) := by decide +kernel
theorem d_LC_isAnywhere_5 : decode b_LC_isAnywhere 5 = .ok (.iaload, 1) := by decide +kernel
theorem d_LC_isAnywhere_6 : decode b_LC_isAnywhere 6 = .ok (.ifCond .le 5, 3) := by decide +kernel
theorem d_LC_isAnywhere_9 : decode b_LC_isAnywhere 9 = .ok (.iconst 1, 1) := by decide +kernel
theorem d_LC_isAnywhere_10 : decode b_LC_isAnywhere 10 = .ok (.ireturn, 1) := by decide +kernel
theorem d_LC_isAnywhere_11 : decode b_LC_isAnywhere 11 = .ok (.iconst 0, 1) := by decide +kernel
theorem d_LC_isAnywhere_12 : decode b_LC_isAnywhere 12 = .ok (.istore_n 2, 1) := by decide +kernel
theorem d_LC_isAnywhere_13 : decode b_LC_isAnywhere 13 = .ok (.iload_n 2, 1) := by decide +kernel
theorem d_LC_isAnywhere_14 : decode b_LC_isAnywhere 14 = .ok (.aload_n 0, 1) := by decide +kernel
theorem d_LC_isAnywhere_15 : decode b_LC_isAnywhere 15 = .ok (.getfield 50, 3) := by decide +kernel
theorem d_LC_isAnywhere_18 : decode b_LC_isAnywhere 18 = .ok (.if_icmp .ge 24, 3) := by decide +kernel
theorem d_LC_isAnywhere_21 : decode b_LC_isAnywhere 21 = .ok (.aload_n 0, 1) := by decide +kernel
theorem d_LC_isAnywhere_22 : decode b_LC_isAnywhere 22 = .ok (.getfield 26, 3) := by decide +kernel
theorem d_LC_isAnywhere_25 : decode b_LC_isAnywhere 25 = .ok (.iload_n 2, 1) := by decide +kernel
theorem d_LC_isAnywhere_26 : decode b_LC_isAnywhere 26 = .ok (.aaload, 1) := by decide +kernel
theorem d_LC_isAnywhere_27 : decode b_LC_isAnywhere 27 = .ok (.iload_n 1, 1) := by decide +kernel
theorem d_LC_isAnywhere_28 : decode b_LC_isAnywhere 28 = .ok (.invokevirtual 234, 3) := by decide +kernel
theorem d_LC_isAnywhere_31 : decode b_LC_isAnywhere 31 = .ok (.ifCond .eq 5, 3) := by decide +kernel
theorem d_LC_isAnywhere_34 : decode b_LC_isAnywhere 34 = .ok (.iconst 1, 1) := by decide +kernel
theorem d_LC_isAnywhere_35 : decode b_LC_isAnywhere 35 = .ok (.ireturn, 1) := by decide +kernel
theorem d_LC_isAnywhere_36 : decode b_LC_isAnywhere 36 = .ok (.iinc 2 1, 3) := by decide +kernel
theorem d_LC_isAnywhere_39 : decode b_LC_isAnywhere 39 = .ok (.goto (-26), 3) := by decide +kernel
theorem d_LC_isAnywhere_42 : decode b_LC_isAnywhere 42 = .ok (.iconst 0, 1) := by decide +kernel
theorem d_LC_isAnywhere_43 : decode b_LC_isAnywhere 43 = .ok (.ireturn, 1) := by decide +kernel
theorem d_LC_commonDivisor_0 : decode b_LC_commonDivisor 0 = .ok (.lload_n 0, 1) := by decide +kernel
theorem d_LC_commonDivisor_1 : decode b_LC_commonDivisor 1 = .ok (.invokestatic 237, 3) := by decide +kernel
theorem d_LC_commonDivisor_4 : decode b_LC_commonDivisor 4 = .ok (.lstore 4, 2) := by decide +kernel
theorem d_LC_commonDivisor_6 : decode b_LC_commonDivisor 6 = .ok (.lload_n 2, 1) := by decide +kernel
theorem d_LC_commonDivisor_7 : decode b_LC_commonDivisor 7 = .ok (.lstore 6, 2) := by decide +kernel
theorem d_LC_commonDivisor_9 : decode b_LC_commonDivisor 9 = .ok (.iconst 0, 1) := by decide +kernel
theorem d_LC_commonDivisor_10 : decode b_LC_commonDivisor 10 = .ok (.istore 8, 2) := by decide +kernel
theorem d_LC_commonDivisor_12 : decode b_LC_commonDivisor 12 = .ok (.iload 8, 2) := by decide +kernel
theorem d_LC_commonDivisor_14 : decode b_LC_commonDivisor 14 = .ok (.sipush 200, 3) := by decide +kernel
theorem d_LC_commonDivisor_17 : decode b_LC_commonDivisor 17 = .ok (.if_icmp .ge 31, 3) := by decide +kernel
theorem d_LC_commonDivisor_20 : decode b_LC_commonDivisor 20 = .ok (.lload 6, 2) := by decide +kernel
theorem d_LC_commonDivisor_22 : decode b_LC_commonDivisor 22 = .ok (.lconst 0, 1) := by decide +kernel
theorem d_LC_commonDivisor_23 : decode b_LC_commonDivisor 23 = .ok (.lcmp, 1) := by decide +kernel
theorem d_LC_commonDivisor_24 : decode b_LC_commonDivisor 24 = .ok (.ifCond .eq 24, 3) := by decide +kernel
theorem d_LC_commonDivisor_27 : decode b_LC_commonDivisor 27 = .ok (.lload 4, 2) := by decide +kernel
theorem d_LC_commonDivisor_29 : decode b_LC_commonDivisor 29 = .ok (.lload 6, 2) := by decide +kernel
theorem d_LC_commonDivisor_31 : decode b_LC_commonDivisor 31 = .ok (.lrem, 1) := by decide +kernel
theorem d_LC_commonDivisor_32 : decode b_LC_commonDivisor 32 = .ok (.lstore 9, 2) := by decide +kernel
theorem d_LC_commonDivisor_34 : decode b_LC_commonDivisor 34 = .ok (.lload 6, 2) := by decide +kernel
theorem d_LC_commonDivisor_36 : decode b_LC_commonDivisor 36 = .ok (.lstore 4, 2) := by decide +kernel
theorem d_LC_commonDivisor_38 : decode b_LC_commonDivisor 38 = .ok (.lload 9, 2) := by decide +kernel
theorem d_LC_commonDivisor_40 : decode b_LC_commonDivisor 40 = .ok (.lstore 6, 2) := by decide +kernel
theorem d_LC_commonDivisor_42 : decode b_LC_commonDivisor 42 = .ok (.iinc 8 1, 3) := by decide +kernel
theorem d_LC_commonDivisor_45 : decode b_LC_commonDivisor 45 = .ok (.goto (-33), 3) := by decide +kernel
theorem d_LC_commonDivisor_48 : decode b_LC_commonDivisor 48 = .ok (.lload 4, 2) := by decide +kernel
theorem d_LC_commonDivisor_50 : decode b_LC_commonDivisor 50 = .ok (.lconst 1, 1) := by decide +kernel
theorem d_LC_commonDivisor_51 : decode b_LC_commonDivisor 51 = .ok (.invokestatic 241, 3) := by decide +kernel
theorem d_LC_commonDivisor_54 : decode b_LC_commonDivisor 54 = .ok (.lreturn, 1) := by decide +kernel
theorem d_VE_init_0 : decode b_VE_init 0 = .ok (.aload_n 0, 1) := by decide +kernel
theorem d_VE_init_1 : decode b_VE_init 1 = .ok (.invokespecial 3, 3) := by decide +kernel
theorem d_VE_init_4 : decode b_VE_init 4 = .ok (.aload_n 0, 1) := by decide +kernel
theorem d_VE_init_5 : decode b_VE_init 5 = .ok (.bipush 8, 2) := by decide +kernel
theorem d_VE_init_7 : decode b_VE_init 7 = .ok (.newarray .int, 2) := by decide +kernel
theorem d_VE_init_9 : decode b_VE_init 9 = .ok (.putfield 9, 3) := by decide +kernel
theorem d_VE_init_12 : decode b_VE_init 12 = .ok (.aload_n 0, 1) := by decide +kernel
theorem d_VE_init_13 : decode b_VE_init 13 = .ok (.bipush 8, 2) := by decide +kernel
theorem d_VE_init_15 : decode b_VE_init 15 = .ok (.newarray .boolean, 2) := by decide +kernel
theorem d_VE_init_17 : decode b_VE_init 17 = .ok (.putfield 15, 3) := by decide +kernel
theorem d_VE_init_20 : decode b_VE_init 20 = .ok (.aload_n 0, 1) := by decide +kernel
theorem d_VE_init_21 : decode b_VE_init 21 = .ok (.sipush 240, 3) := by decide +kernel
theorem d_VE_init_24 : decode b_VE_init 24 = .ok (.newarray .int, 2) := by decide +kernel
theorem d_VE_init_26 : decode b_VE_init 26 = .ok (.putfield 19, 3) := by decide +kernel
theorem d_VE_init_29 : decode b_VE_init 29 = .ok (.aload_n 0, 1) := by decide +kernel
theorem d_VE_init_30 : decode b_VE_init 30 = .ok (.bipush 30, 2) := by decide +kernel
theorem d_VE_init_32 : decode b_VE_init 32 = .ok (.newarray .int, 2) := by decide +kernel
theorem d_VE_init_34 : decode b_VE_init 34 = .ok (.putfield 22, 3) := by decide +kernel
theorem d_VE_init_37 : decode b_VE_init 37 = .ok (.aload_n 0, 1) := by decide +kernel
theorem d_VE_init_38 : decode b_VE_init 38 = .ok (.bipush 30, 2) := by decide +kernel
theorem d_VE_init_40 : decode b_VE_init 40 = .ok (.newarray .int, 2) := by decide +kernel
theorem d_VE_init_42 : decode b_VE_init 42 = .ok (.putfield 25, 3) := by decide +kernel
theorem d_VE_init_45 : decode b_VE_init 45 = .ok (.aload_n 0, 1) := by decide +kernel
theorem d_VE_init_46 : decode b_VE_init 46 = .ok (.sipush 1000, 3) := by decide +kernel
theorem d_VE_init_49 : decode b_VE_init 49 = .ok (.putfield 28, 3) := by decide +kernel
theorem d_VE_init_52 : decode b_VE_init 52 = .ok (.aload_n 0, 1) := by decide +kernel
theorem d_VE_init_53 : decode b_VE_init 53 = .ok (.iconst (-1), 1) := by decide +kernel
theorem d_VE_init_54 : decode b_VE_init 54 = .ok (.putfield 32, 3) := by decide +kernel
theorem d_VE_init_57 : decode b_VE_init 57 = .ok (.aload_n 0, 1) := by decide +kernel
theorem d_VE_init_58 : decode b_VE_init 58 = .ok (.iconst (-1), 1) := by decide +kernel
theorem d_VE_init_59 : decode b_VE_init 59 = .ok (.putfield 35, 3) := by decide +kernel
theorem d_VE_init_62 : decode b_VE_init 62 = .ok (.aload_n 0, 1) := by decide +kernel
theorem d_VE_init_63 : decode b_VE_init 63 = .ok (.getfield 22, 3) := by decide +kernel
theorem d_VE_init_66 : decode b_VE_init 66 = .ok (.iconst (-1), 1) := by decide +kernel
theorem d_VE_init_67 : decode b_VE_init 67 = .ok (.invokestatic 38, 3) := by decide +kernel
theorem d_VE_init_70 : decode b_VE_init 70 = .ok (.aload_n 0, 1) := by decide +kernel
theorem d_VE_init_71 : decode b_VE_init 71 = .ok (.getfield 25, 3) := by decide +kernel
theorem d_VE_init_74 : decode b_VE_init 74 = .ok (.bipush 100, 2) := by decide +kernel
theorem d_VE_init_76 : decode b_VE_init 76 = .ok (.invokestatic 38, 3) := by decide +kernel
theorem d_VE_init_79 : decode b_VE_init 79 = .ok (.return_, 1) := by decide +kernel
theorem d_VE_frontMoment_0 : decode b_VE_frontMoment 0 = .ok (.aload_n 0, 1) := by decide +kernel
theorem d_VE_frontMoment_1 : decode b_VE_frontMoment 1 = .ok (.getfield 44, 3) := by decide +kernel
theorem d_VE_frontMoment_4 : decode b_VE_frontMoment 4 = .ok (.aload_n 0, 1) := by decide +kernel
theorem d_VE_frontMoment_5 : decode b_VE_frontMoment 5 = .ok (.getfield 28, 3) := by decide +kernel
theorem d_VE_frontMoment_8 : decode b_VE_frontMoment 8 = .ok (.i2l, 1) := by decide +kernel
theorem d_VE_frontMoment_9 : decode b_VE_frontMoment 9 = .ok (.lmul, 1) := by decide +kernel
theorem d_VE_frontMoment_10 : decode b_VE_frontMoment 10 = .ok (.aload_n 0, 1) := by decide +kernel
theorem d_VE_frontMoment_11 : decode b_VE_frontMoment 11 = .ok (.getfield 48, 3) := by decide +kernel
theorem d_VE_frontMoment_14 : decode b_VE_frontMoment 14 = .ok (.lsub, 1) := by decide +kernel
theorem d_VE_frontMoment_15 : decode b_VE_frontMoment 15 = .ok (.lreturn, 1) := by decide +kernel
theorem d_VE_rearMoment_0 : decode b_VE_rearMoment 0 = .ok (.aload_n 0, 1) := by decide +kernel
theorem d_VE_rearMoment_1 : decode b_VE_rearMoment 1 = .ok (.getfield 48, 3) := by decide +kernel
theorem d_VE_rearMoment_4 : decode b_VE_rearMoment 4 = .ok (.lreturn, 1) := by decide +kernel
theorem d_VE_isBeyond_0 : decode b_VE_isBeyond 0 = .ok (.aload_n 0, 1) := by decide +kernel
theorem d_VE_isBeyond_1 : decode b_VE_isBeyond 1 = .ok (.aload_n 0, 1) := by decide +kernel
theorem d_VE_isBeyond_2 : decode b_VE_isBeyond 2 = .ok (.invokevirtual 51, 3) := by decide +kernel
theorem d_VE_isBeyond_5 : decode b_VE_isBeyond 5 = .ok (.aload_n 0, 1) := by decide +kernel
theorem d_VE_isBeyond_6 : decode b_VE_isBeyond 6 = .ok (.getfield 55, 3) := by decide +kernel
theorem d_VE_isBeyond_9 : decode b_VE_isBeyond 9 = .ok (.invokevirtual 58, 3) := by decide +kernel
theorem d_VE_isBeyond_12 : decode b_VE_isBeyond 12 = .ok (.ifCond .ne 18, 3) := by decide +kernel
theorem d_VE_isBeyond_15 : decode b_VE_isBeyond 15 = .ok (.aload_n 0, 1) := by decide +kernel
theorem d_VE_isBeyond_16 : decode b_VE_isBeyond 16 = .ok (.aload_n 0, 1) := by decide +kernel
theorem d_VE_isBeyond_17 : decode b_VE_isBeyond 17 = .ok (.invokevirtual 62, 3) := by decide +kernel
theorem d_VE_isBeyond_20 : decode b_VE_isBeyond 20 = .ok (.aload_n 0, 1) := by decide +kernel
theorem d_VE_isBeyond_21 : decode b_VE_isBeyond 21 = .ok (.getfield 65, 3) := by decide +kernel
theorem d_VE_isBeyond_24 : decode b_VE_isBeyond 24 = .ok (.invokevirtual 58, 3) := by decide +kernel
theorem d_VE_isBeyond_27 : decode b_VE_isBeyond 27 = .ok (.ifCond .eq 7, 3) := by decide +kernel
theorem d_VE_isBeyond_30 : decode b_VE_isBeyond 30 = .ok (.iconst 1, 1) := by decide +kernel
theorem d_VE_isBeyond_31 : decode b_VE_isBeyond 31 = .ok (.goto 4, 3) := by decide +kernel
theorem d_VE_isBeyond_34 : decode b_VE_isBeyond 34 = .ok (.iconst 0, 1) := by decide +kernel
theorem d_VE_isBeyond_35 : decode b_VE_isBeyond 35 = .ok (.ireturn, 1) := by decide +kernel
theorem d_VE_exceeds_0 : decode b_VE_exceeds 0 = .ok (.lload_n 1, 1) := by decide +kernel
theorem d_VE_exceeds_1 : decode b_VE_exceeds 1 = .ok (.iload_n 3, 1) := by decide +kernel
theorem d_VE_exceeds_2 : decode b_VE_exceeds 2 = .ok (.i2l, 1) := by decide +kernel
theorem d_VE_exceeds_3 : decode b_VE_exceeds 3 = .ok (.aload_n 0, 1) := by decide +kernel
theorem d_VE_exceeds_4 : decode b_VE_exceeds 4 = .ok (.getfield 28, 3) := by decide +kernel
theorem d_VE_exceeds_7 : decode b_VE_exceeds 7 = .ok (.i2l, 1) := by decide +kernel
theorem d_VE_exceeds_8 : decode b_VE_exceeds 8 = .ok (.lmul, 1) := by decide +kernel
theorem d_VE_exceeds_9 : decode b_VE_exceeds 9 = .ok (.lcmp, 1) := by decide +kernel
theorem d_VE_exceeds_10 : decode b_VE_exceeds 10 = .ok (.ifCond .le 7, 3) := by decide +kernel
theorem d_VE_exceeds_13 : decode b_VE_exceeds 13 = .ok (.iconst 1, 1) := by decide +kernel
theorem d_VE_exceeds_14 : decode b_VE_exceeds 14 = .ok (.goto 4, 3) := by decide +kernel
theorem d_VE_exceeds_17 : decode b_VE_exceeds 17 = .ok (.iconst 0, 1) := by decide +kernel
theorem d_VE_exceeds_18 : decode b_VE_exceeds 18 = .ok (.ireturn, 1) := by decide +kernel
theorem d_VE_bears_0 : decode b_VE_bears 0 = .ok (.iload_n 3, 1) := by decide +kernel
theorem d_VE_bears_1 : decode b_VE_bears 1 = .ok (.i2l, 1) := by decide +kernel
theorem d_VE_bears_2 : decode b_VE_bears 2 = .ok (.iload_n 2, 1) := by decide +kernel
theorem d_VE_bears_3 : decode b_VE_bears 3 = .ok (.i2l, 1) := by decide +kernel
theorem d_VE_bears_4 : decode b_VE_bears 4 = .ok (.lmul, 1) := by decide +kernel
theorem d_VE_bears_5 : decode b_VE_bears 5 = .ok (.lstore 4, 2) := by decide +kernel
theorem d_VE_bears_7 : decode b_VE_bears 7 = .ok (.lload 4, 2) := by decide +kernel
theorem d_VE_bears_9 : decode b_VE_bears 9 = .ok (.aload_n 0, 1) := by decide +kernel
theorem d_VE_bears_10 : decode b_VE_bears 10 = .ok (.getfield 9, 3) := by decide +kernel
theorem d_VE_bears_13 : decode b_VE_bears 13 = .ok (.iload_n 1, 1) := by decide +kernel
theorem d_VE_bears_14 : decode b_VE_bears 14 = .ok (.bipush 30, 2) := by decide +kernel
theorem d_VE_bears_16 : decode b_VE_bears 16 = .ok (.idiv, 1) := by decide +kernel
theorem d_VE_bears_17 : decode b_VE_bears 17 = .ok (.iaload, 1) := by decide +kernel
theorem d_VE_bears_18 : decode b_VE_bears 18 = .ok (.i2l, 1) := by decide +kernel
theorem d_VE_bears_19 : decode b_VE_bears 19 = .ok (.lmul, 1) := by decide +kernel
theorem d_VE_bears_20 : decode b_VE_bears 20 = .ok (.lstore 6, 2) := by decide +kernel
theorem d_VE_bears_22 : decode b_VE_bears 22 = .ok (.lload 4, 2) := by decide +kernel
theorem d_VE_bears_24 : decode b_VE_bears 24 = .ok (.aload_n 0, 1) := by decide +kernel
theorem d_VE_bears_25 : decode b_VE_bears 25 = .ok (.getfield 28, 3) := by decide +kernel
theorem d_VE_bears_28 : decode b_VE_bears 28 = .ok (.i2l, 1) := by decide +kernel
theorem d_VE_bears_29 : decode b_VE_bears 29 = .ok (.lmul, 1) := by decide +kernel
theorem d_VE_bears_30 : decode b_VE_bears 30 = .ok (.lload 6, 2) := by decide +kernel
theorem d_VE_bears_32 : decode b_VE_bears 32 = .ok (.lsub, 1) := by decide +kernel
theorem d_VE_bears_33 : decode b_VE_bears 33 = .ok (.lstore 8, 2) := by decide +kernel
theorem d_VE_bears_35 : decode b_VE_bears 35 = .ok (.lload 8, 2) := by decide +kernel
theorem d_VE_bears_37 : decode b_VE_bears 37 = .ok (.lconst 0, 1) := by decide +kernel
theorem d_VE_bears_38 : decode b_VE_bears 38 = .ok (.lcmp, 1) := by decide +kernel
theorem d_VE_bears_39 : decode b_VE_bears 39 = .ok (.ifCond .le 25, 3) := by decide +kernel
theorem d_VE_bears_42 : decode b_VE_bears 42 = .ok (.aload_n 0, 1) := by decide +kernel
theorem d_VE_bears_43 : decode b_VE_bears 43 = .ok (.aload_n 0, 1) := by decide +kernel
theorem d_VE_bears_44 : decode b_VE_bears 44 = .ok (.invokevirtual 51, 3) := by decide +kernel
theorem d_VE_bears_47 : decode b_VE_bears 47 = .ok (.lload 8, 2) := by decide +kernel
theorem d_VE_bears_49 : decode b_VE_bears 49 = .ok (.ladd, 1) := by decide +kernel
theorem d_VE_bears_50 : decode b_VE_bears 50 = .ok (.aload_n 0, 1) := by decide +kernel
theorem d_VE_bears_51 : decode b_VE_bears 51 = .ok (.getfield 55, 3) := by decide +kernel
theorem d_VE_bears_54 : decode b_VE_bears 54 = .ok (.invokevirtual 58, 3) := by decide +kernel
theorem d_VE_bears_57 : decode b_VE_bears 57 = .ok (.ifCond .eq 7, 3) := by decide +kernel
theorem d_VE_bears_60 : decode b_VE_bears 60 = .ok (.iconst 1, 1) := by decide +kernel
theorem d_VE_bears_61 : decode b_VE_bears 61 = .ok (.goto 4, 3) := by decide +kernel
theorem d_VE_bears_64 : decode b_VE_bears 64 = .ok (.iconst 0, 1) := by decide +kernel
theorem d_VE_bears_65 : decode b_VE_bears 65 = .ok (.istore 10, 2) := by decide +kernel
theorem d_VE_bears_67 : decode b_VE_bears 67 = .ok (.lload 6, 2) := by decide +kernel
theorem d_VE_bears_69 : decode b_VE_bears 69 = .ok (.lconst 0, 1) := by decide +kernel
theorem d_VE_bears_70 : decode b_VE_bears 70 = .ok (.lcmp, 1) := by decide +kernel
theorem d_VE_bears_71 : decode b_VE_bears 71 = .ok (.ifCond .le 25, 3) := by decide +kernel
theorem d_VE_bears_74 : decode b_VE_bears 74 = .ok (.aload_n 0, 1) := by decide +kernel
theorem d_VE_bears_75 : decode b_VE_bears 75 = .ok (.aload_n 0, 1) := by decide +kernel
theorem d_VE_bears_76 : decode b_VE_bears 76 = .ok (.invokevirtual 62, 3) := by decide +kernel
theorem d_VE_bears_79 : decode b_VE_bears 79 = .ok (.lload 6, 2) := by decide +kernel
theorem d_VE_bears_81 : decode b_VE_bears 81 = .ok (.ladd, 1) := by decide +kernel
theorem d_VE_bears_82 : decode b_VE_bears 82 = .ok (.aload_n 0, 1) := by decide +kernel
theorem d_VE_bears_83 : decode b_VE_bears 83 = .ok (.getfield 65, 3) := by decide +kernel
theorem d_VE_bears_86 : decode b_VE_bears 86 = .ok (.invokevirtual 58, 3) := by decide +kernel
theorem d_VE_bears_89 : decode b_VE_bears 89 = .ok (.ifCond .eq 7, 3) := by decide +kernel
theorem d_VE_bears_92 : decode b_VE_bears 92 = .ok (.iconst 1, 1) := by decide +kernel
theorem d_VE_bears_93 : decode b_VE_bears 93 = .ok (.goto 4, 3) := by decide +kernel
theorem d_VE_bears_96 : decode b_VE_bears 96 = .ok (.iconst 0, 1) := by decide +kernel
theorem d_VE_bears_97 : decode b_VE_bears 97 = .ok (.istore 11, 2) := by decide +kernel
theorem d_VE_bears_99 : decode b_VE_bears 99 = .ok (.iload 10, 2) := by decide +kernel
theorem d_VE_bears_101 : decode b_VE_bears 101 = .ok (.ifCond .ne 12, 3) := by decide +kernel
theorem d_VE_bears_104 : decode b_VE_bears 104 = .ok (.iload 11, 2) := by decide +kernel
theorem d_VE_bears_106 : decode b_VE_bears 106 = .ok (.ifCond .ne 7, 3) := by decide +kernel
theorem d_VE_bears_109 : decode b_VE_bears 109 = .ok (.iconst 1, 1) := by decide +kernel
theorem d_VE_bears_110 : decode b_VE_bears 110 = .ok (.goto 4, 3) := by decide +kernel
theorem d_VE_bears_113 : decode b_VE_bears 113 = .ok (.iconst 0, 1) := by decide +kernel
theorem d_VE_bears_114 : decode b_VE_bears 114 = .ok (.ireturn, 1) := by decide +kernel
theorem d_VE_load_0 : decode b_VE_load 0 = .ok (.iload_n 3, 1) := by decide +kernel
theorem d_VE_load_1 : decode b_VE_load 1 = .ok (.i2l, 1) := by decide +kernel
theorem d_VE_load_2 : decode b_VE_load 2 = .ok (.iload_n 2, 1) := by decide +kernel
theorem d_VE_load_3 : decode b_VE_load 3 = .ok (.i2l, 1) := by decide +kernel
theorem d_VE_load_4 : decode b_VE_load 4 = .ok (.lmul, 1) := by decide +kernel
theorem d_VE_load_5 : decode b_VE_load 5 = .ok (.lstore 4, 2) := by decide +kernel
theorem d_VE_load_7 : decode b_VE_load 7 = .ok (.aload_n 0, 1) := by decide +kernel
theorem d_VE_load_8 : decode b_VE_load 8 = .ok (.getfield 19, 3) := by decide +kernel
theorem d_VE_load_11 : decode b_VE_load 11 = .ok (.iload_n 1, 1) := by decide +kernel
theorem d_VE_load_12 : decode b_VE_load 12 = .ok (.dup2, 1) := by decide +kernel
theorem d_VE_load_13 : decode b_VE_load 13 = .ok (.iaload, 1) := by decide +kernel
theorem d_VE_load_14 : decode b_VE_load 14 = .ok (.iload_n 2, 1) := by decide +kernel
theorem d_VE_load_15 : decode b_VE_load 15 = .ok (.iadd, 1) := by decide +kernel
theorem d_VE_load_16 : decode b_VE_load 16 = .ok (.iastore, 1) := by decide +kernel
theorem d_VE_load_17 : decode b_VE_load 17 = .ok (.aload_n 0, 1) := by decide +kernel
theorem d_VE_load_18 : decode b_VE_load 18 = .ok (.dup, 1) := by decide +kernel
theorem d_VE_load_19 : decode b_VE_load 19 = .ok (.getfield 44, 3) := by decide +kernel
theorem d_VE_load_22 : decode b_VE_load 22 = .ok (.lload 4, 2) := by decide +kernel
theorem d_VE_load_24 : decode b_VE_load 24 = .ok (.ladd, 1) := by decide +kernel
theorem d_VE_load_25 : decode b_VE_load 25 = .ok (.putfield 44, 3) := by decide +kernel
theorem d_VE_load_28 : decode b_VE_load 28 = .ok (.aload_n 0, 1) := by decide +kernel
theorem d_VE_load_29 : decode b_VE_load 29 = .ok (.dup, 1) := by decide +kernel
theorem d_VE_load_30 : decode b_VE_load 30 = .ok (.getfield 48, 3) := by decide +kernel
theorem d_VE_load_33 : decode b_VE_load 33 = .ok (.lload 4, 2) := by decide +kernel
theorem d_VE_load_35 : decode b_VE_load 35 = .ok (.aload_n 0, 1) := by decide +kernel
theorem d_VE_load_36 : decode b_VE_load 36 = .ok (.getfield 9, 3) := by decide +kernel
theorem d_VE_load_39 : decode b_VE_load 39 = .ok (.iload_n 1, 1) := by decide +kernel
theorem d_VE_load_40 : decode b_VE_load 40 = .ok (.bipush 30, 2) := by decide +kernel
theorem d_VE_load_42 : decode b_VE_load 42 = .ok (.idiv, 1) := by decide +kernel
theorem d_VE_load_43 : decode b_VE_load 43 = .ok (.iaload, 1) := by decide +kernel
theorem d_VE_load_44 : decode b_VE_load 44 = .ok (.i2l, 1) := by decide +kernel
theorem d_VE_load_45 : decode b_VE_load 45 = .ok (.lmul, 1) := by decide +kernel
theorem d_VE_load_46 : decode b_VE_load 46 = .ok (.ladd, 1) := by decide +kernel
theorem d_VE_load_47 : decode b_VE_load 47 = .ok (.putfield 48, 3) := by decide +kernel
theorem d_VE_load_50 : decode b_VE_load 50 = .ok (.return_, 1) := by decide +kernel
theorem d_VE_isEmpty_0 : decode b_VE_isEmpty 0 = .ok (.iconst 0, 1) := by decide +kernel
theorem d_VE_isEmpty_1 : decode b_VE_isEmpty 1 = .ok (.istore_n 2, 1) := by decide +kernel
theorem d_VE_isEmpty_2 : decode b_VE_isEmpty 2 = .ok (.iload_n 2, 1) := by decide +kernel
theorem d_VE_isEmpty_3 : decode b_VE_isEmpty 3 = .ok (.bipush 30, 2) := by decide +kernel
theorem d_VE_isEmpty_5 : decode b_VE_isEmpty 5 = .ok (.if_icmp .ge 24, 3) := by decide +kernel
theorem d_VE_isEmpty_8 : decode b_VE_isEmpty 8 = .ok (.aload_n 0, 1) := by decide +kernel
theorem d_VE_isEmpty_9 : decode b_VE_isEmpty 9 = .ok (.getfield 19, 3) := by decide +kernel
theorem d_VE_isEmpty_12 : decode b_VE_isEmpty 12 = .ok (.iload_n 1, 1) := by decide +kernel
theorem d_VE_isEmpty_13 : decode b_VE_isEmpty 13 = .ok (.iload_n 2, 1) := by decide +kernel
theorem d_VE_isEmpty_14 : decode b_VE_isEmpty 14 = .ok (.invokestatic 68, 3) := by decide +kernel
theorem d_VE_isEmpty_17 : decode b_VE_isEmpty 17 = .ok (.iaload, 1) := by decide +kernel
theorem d_VE_isEmpty_18 : decode b_VE_isEmpty 18 = .ok (.ifCond .le 5, 3) := by decide +kernel
theorem d_VE_isEmpty_21 : decode b_VE_isEmpty 21 = .ok (.iconst 0, 1) := by decide +kernel
theorem d_VE_isEmpty_22 : decode b_VE_isEmpty 22 = .ok (.ireturn, 1) := by decide +kernel
theorem d_VE_isEmpty_23 : decode b_VE_isEmpty 23 = .ok (.iinc 2 1, 3) := by decide +kernel
theorem d_VE_isEmpty_26 : decode b_VE_isEmpty 26 = .ok (.goto (-24), 3) := by decide +kernel
theorem d_VE_isEmpty_29 : decode b_VE_isEmpty 29 = .ok (.iconst 1, 1) := by decide +kernel
theorem d_VE_isEmpty_30 : decode b_VE_isEmpty 30 = .ok (.ireturn, 1) := by decide +kernel
theorem d_VE_carries_0 : decode b_VE_carries 0 = .ok (.iconst 0, 1) := by decide +kernel
theorem d_VE_carries_1 : decode b_VE_carries 1 = .ok (.istore_n 2, 1) := by decide +kernel
theorem d_VE_carries_2 : decode b_VE_carries 2 = .ok (.iload_n 2, 1) := by decide +kernel
theorem d_VE_carries_3 : decode b_VE_carries 3 = .ok (.bipush 8, 2) := by decide +kernel
theorem d_VE_carries_5 : decode b_VE_carries 5 = .ok (.if_icmp .ge 24, 3) := by decide +kernel
theorem d_VE_carries_8 : decode b_VE_carries 8 = .ok (.aload_n 0, 1) := by decide +kernel
theorem d_VE_carries_9 : decode b_VE_carries 9 = .ok (.getfield 19, 3) := by decide +kernel
theorem d_VE_carries_12 : decode b_VE_carries 12 = .ok (.iload_n 2, 1) := by decide +kernel
theorem d_VE_carries_13 : decode b_VE_carries 13 = .ok (.iload_n 1, 1) := by decide +kernel
theorem d_VE_carries_14 : decode b_VE_carries 14 = .ok (.invokestatic 68, 3) := by decide +kernel
theorem d_VE_carries_17 : decode b_VE_carries 17 = .ok (.iaload, 1) := by decide +kernel
theorem d_VE_carries_18 : decode b_VE_carries 18 = .ok (.ifCond .le 5, 3) := by decide +kernel
theorem d_VE_carries_21 : decode b_VE_carries 21 = .ok (.iconst 1, 1) := by decide +kernel
theorem d_VE_carries_22 : decode b_VE_carries 22 = .ok (.ireturn, 1) := by decide +kernel
theorem d_VE_carries_23 : decode b_VE_carries 23 = .ok (.iinc 2 1, 3) := by decide +kernel
theorem d_VE_carries_26 : decode b_VE_carries 26 = .ok (.goto (-24), 3) := by decide +kernel
theorem d_VE_carries_29 : decode b_VE_carries 29 = .ok (.iconst 0, 1) := by decide +kernel
theorem d_VE_carries_30 : decode b_VE_carries 30 = .ok (.ireturn, 1) := by decide +kernel
theorem d_VE_lackOf_0 : decode b_VE_lackOf 0 = .ok (.iload_n 2, 1) := by decide +kernel
theorem d_VE_lackOf_1 : decode b_VE_lackOf 1 = .ok (.aload_n 0, 1) := by decide +kernel
theorem d_VE_lackOf_2 : decode b_VE_lackOf 2 = .ok (.getfield 19, 3) := by decide +kernel
theorem d_VE_lackOf_5 : decode b_VE_lackOf 5 = .ok (.iload_n 1, 1) := by decide +kernel
theorem d_VE_lackOf_6 : decode b_VE_lackOf 6 = .ok (.iaload, 1) := by decide +kernel
theorem d_VE_lackOf_7 : decode b_VE_lackOf 7 = .ok (.isub, 1) := by decide +kernel
theorem d_VE_lackOf_8 : decode b_VE_lackOf 8 = .ok (.iconst 0, 1) := by decide +kernel
theorem d_VE_lackOf_9 : decode b_VE_lackOf 9 = .ok (.invokestatic 72, 3) := by decide +kernel
theorem d_VE_lackOf_12 : decode b_VE_lackOf 12 = .ok (.ireturn, 1) := by decide +kernel
theorem d_VE_missingCell_0 : decode b_VE_missingCell 0 = .ok (.iconst 0, 1) := by decide +kernel
theorem d_VE_missingCell_1 : decode b_VE_missingCell 1 = .ok (.istore_n 3, 1) := by decide +kernel
theorem d_VE_missingCell_2 : decode b_VE_missingCell 2 = .ok (.iconst 0, 1) := by decide +kernel
theorem d_VE_missingCell_3 : decode b_VE_missingCell 3 = .ok (.istore 4, 2) := by decide +kernel
theorem d_VE_missingCell_5 : decode b_VE_missingCell 5 = .ok (.iload 4, 2) := by decide +kernel
theorem d_VE_missingCell_7 : decode b_VE_missingCell 7 = .ok (.sipush 240, 3) := by decide +kernel
theorem d_VE_missingCell_10 : decode b_VE_missingCell 10 = .ok (.if_icmp .ge 33, 3) := by decide +kernel
theorem d_VE_missingCell_13 : decode b_VE_missingCell 13 = .ok (.aload_n 0, 1) := by decide +kernel
theorem d_VE_missingCell_14 : decode b_VE_missingCell 14 = .ok (.iload 4, 2) := by decide +kernel
theorem d_VE_missingCell_16 : decode b_VE_missingCell 16 = .ok (.aload_n 1, 1) := by decide +kernel
theorem d_VE_missingCell_17 : decode b_VE_missingCell 17 = .ok (.iload 4, 2) := by decide +kernel
theorem d_VE_missingCell_19 : decode b_VE_missingCell 19 = .ok (.iaload, 1) := by decide +kernel
theorem d_VE_missingCell_20 : decode b_VE_missingCell 20 = .ok (.invokevirtual 77, 3) := by decide +kernel
theorem d_VE_missingCell_23 : decode b_VE_missingCell 23 = .ok (.ifCond .le 14, 3) := by decide +kernel
theorem d_VE_missingCell_26 : decode b_VE_missingCell 26 = .ok (.iload_n 3, 1) := by decide +kernel
theorem d_VE_missingCell_27 : decode b_VE_missingCell 27 = .ok (.iload_n 2, 1) := by decide +kernel
theorem d_VE_missingCell_28 : decode b_VE_missingCell 28 = .ok (.if_icmp .ne 6, 3) := by decide +kernel
theorem d_VE_missingCell_31 : decode b_VE_missingCell 31 = .ok (.iload 4, 2) := by decide +kernel
theorem d_VE_missingCell_33 : decode b_VE_missingCell 33 = .ok (.ireturn, 1) := by decide +kernel
theorem d_VE_missingCell_34 : decode b_VE_missingCell 34 = .ok (.iinc 3 1, 3) := by decide +kernel
theorem d_VE_missingCell_37 : decode b_VE_missingCell 37 = .ok (.iinc 4 1, 3) := by decide +kernel
theorem d_VE_missingCell_40 : decode b_VE_missingCell 40 = .ok (.goto (-35), 3) := by decide +kernel
theorem d_VE_missingCell_43 : decode b_VE_missingCell 43 = .ok (.iconst (-1), 1) := by decide +kernel
theorem d_VE_missingCell_44 : decode b_VE_missingCell 44 = .ok (.ireturn, 1) := by decide +kernel
theorem d_VE_hasBrokenSeal_0 : decode b_VE_hasBrokenSeal 0 = .ok (.iconst 0, 1) := by decide +kernel
theorem d_VE_hasBrokenSeal_1 : decode b_VE_hasBrokenSeal 1 = .ok (.istore_n 1, 1) := by decide +kernel
theorem d_VE_hasBrokenSeal_2 : decode b_VE_hasBrokenSeal 2 = .ok (.iload_n 1, 1) := by decide +kernel
theorem d_VE_hasBrokenSeal_3 : decode b_VE_hasBrokenSeal 3 = .ok (.bipush 8, 2) := by decide +kernel
theorem d_VE_hasBrokenSeal_5 : decode b_VE_hasBrokenSeal 5 = .ok (.if_icmp .ge 20, 3) := by decide +kernel
theorem d_VE_hasBrokenSeal_8 : decode b_VE_hasBrokenSeal 8 = .ok (.aload_n 0, 1) := by decide +kernel
theorem d_VE_hasBrokenSeal_9 : decode b_VE_hasBrokenSeal 9 = .ok (.getfield 15, 3) := by decide +kernel
theorem d_VE_hasBrokenSeal_12 : decode b_VE_hasBrokenSeal 12 = .ok (.iload_n 1, 1) := by decide +kernel
theorem d_VE_hasBrokenSeal_13 : decode b_VE_hasBrokenSeal 13 = .ok (.baload, 1) := by decide +kernel
theorem d_VE_hasBrokenSeal_14 : decode b_VE_hasBrokenSeal 14 = .ok (.ifCond .eq 5, 3) := by decide +kernel
theorem d_VE_hasBrokenSeal_17 : decode b_VE_hasBrokenSeal 17 = .ok (.iconst 1, 1) := by decide +kernel
theorem d_VE_hasBrokenSeal_18 : decode b_VE_hasBrokenSeal 18 = .ok (.ireturn, 1) := by decide +kernel
theorem d_VE_hasBrokenSeal_19 : decode b_VE_hasBrokenSeal 19 = .ok (.iinc 1 1, 3) := by decide +kernel
theorem d_VE_hasBrokenSeal_22 : decode b_VE_hasBrokenSeal 22 = .ok (.goto (-20), 3) := by decide +kernel
theorem d_VE_hasBrokenSeal_25 : decode b_VE_hasBrokenSeal 25 = .ok (.iconst 0, 1) := by decide +kernel
theorem d_VE_hasBrokenSeal_26 : decode b_VE_hasBrokenSeal 26 = .ok (.ireturn, 1) := by decide +kernel
theorem d_VE_needsPastItem_0 : decode b_VE_needsPastItem 0 = .ok (.iconst 0, 1) := by decide +kernel
theorem d_VE_needsPastItem_1 : decode b_VE_needsPastItem 1 = .ok (.istore_n 3, 1) := by decide +kernel
theorem d_VE_needsPastItem_2 : decode b_VE_needsPastItem 2 = .ok (.iload_n 3, 1) := by decide +kernel
theorem d_VE_needsPastItem_3 : decode b_VE_needsPastItem 3 = .ok (.sipush 240, 3) := by decide +kernel
theorem d_VE_needsPastItem_6 : decode b_VE_needsPastItem 6 = .ok (.if_icmp .ge 40, 3) := by decide +kernel
theorem d_VE_needsPastItem_9 : decode b_VE_needsPastItem 9 = .ok (.aload_n 0, 1) := by decide +kernel
theorem d_VE_needsPastItem_10 : decode b_VE_needsPastItem 10 = .ok (.getfield 22, 3) := by decide +kernel
theorem d_VE_needsPastItem_13 : decode b_VE_needsPastItem 13 = .ok (.iload_n 3, 1) := by decide +kernel
theorem d_VE_needsPastItem_14 : decode b_VE_needsPastItem 14 = .ok (.bipush 30, 2) := by decide +kernel
theorem d_VE_needsPastItem_16 : decode b_VE_needsPastItem 16 = .ok (.irem, 1) := by decide +kernel
theorem d_VE_needsPastItem_17 : decode b_VE_needsPastItem 17 = .ok (.iaload, 1) := by decide +kernel
theorem d_VE_needsPastItem_18 : decode b_VE_needsPastItem 18 = .ok (.istore 4, 2) := by decide +kernel
theorem d_VE_needsPastItem_20 : decode b_VE_needsPastItem 20 = .ok (.aload_n 1, 1) := by decide +kernel
theorem d_VE_needsPastItem_21 : decode b_VE_needsPastItem 21 = .ok (.iload_n 3, 1) := by decide +kernel
theorem d_VE_needsPastItem_22 : decode b_VE_needsPastItem 22 = .ok (.iaload, 1) := by decide +kernel
theorem d_VE_needsPastItem_23 : decode b_VE_needsPastItem 23 = .ok (.ifCond .le 17, 3) := by decide +kernel
theorem d_VE_needsPastItem_26 : decode b_VE_needsPastItem 26 = .ok (.iload 4, 2) := by decide +kernel
theorem d_VE_needsPastItem_28 : decode b_VE_needsPastItem 28 = .ok (.iconst (-1), 1) := by decide +kernel
theorem d_VE_needsPastItem_29 : decode b_VE_needsPastItem 29 = .ok (.if_icmp .eq 11, 3) := by decide +kernel
theorem d_VE_needsPastItem_32 : decode b_VE_needsPastItem 32 = .ok (.iload_n 2, 1) := by decide +kernel
theorem d_VE_needsPastItem_33 : decode b_VE_needsPastItem 33 = .ok (.iload 4, 2) := by decide +kernel
theorem d_VE_needsPastItem_35 : decode b_VE_needsPastItem 35 = .ok (.if_icmp .lt 5, 3) := by decide +kernel
theorem d_VE_needsPastItem_38 : decode b_VE_needsPastItem 38 = .ok (.iconst 1, 1) := by decide +kernel
theorem d_VE_needsPastItem_39 : decode b_VE_needsPastItem 39 = .ok (.ireturn, 1) := by decide +kernel
theorem d_VE_needsPastItem_40 : decode b_VE_needsPastItem 40 = .ok (.iinc 3 1, 3) := by decide +kernel
theorem d_VE_needsPastItem_43 : decode b_VE_needsPastItem 43 = .ok (.goto (-41), 3) := by decide +kernel
theorem d_VE_needsPastItem_46 : decode b_VE_needsPastItem 46 = .ok (.iconst 0, 1) := by decide +kernel
theorem d_VE_needsPastItem_47 : decode b_VE_needsPastItem 47 = .ok (.ireturn, 1) := by decide +kernel
theorem d_VE_needsWeakItem_0 : decode b_VE_needsWeakItem 0 = .ok (.iconst 0, 1) := by decide +kernel
theorem d_VE_needsWeakItem_1 : decode b_VE_needsWeakItem 1 = .ok (.istore_n 3, 1) := by decide +kernel
theorem d_VE_needsWeakItem_2 : decode b_VE_needsWeakItem 2 = .ok (.iload_n 3, 1) := by decide +kernel
theorem d_VE_needsWeakItem_3 : decode b_VE_needsWeakItem 3 = .ok (.sipush 240, 3) := by decide +kernel
theorem d_VE_needsWeakItem_6 : decode b_VE_needsWeakItem 6 = .ok (.if_icmp .ge 37, 3) := by decide +kernel
theorem d_VE_needsWeakItem_9 : decode b_VE_needsWeakItem 9 = .ok (.iload_n 3, 1) := by decide +kernel
theorem d_VE_needsWeakItem_10 : decode b_VE_needsWeakItem 10 = .ok (.bipush 30, 2) := by decide +kernel
theorem d_VE_needsWeakItem_12 : decode b_VE_needsWeakItem 12 = .ok (.irem, 1) := by decide +kernel
theorem d_VE_needsWeakItem_13 : decode b_VE_needsWeakItem 13 = .ok (.istore 4, 2) := by decide +kernel
theorem d_VE_needsWeakItem_15 : decode b_VE_needsWeakItem 15 = .ok (.aload_n 1, 1) := by decide +kernel
theorem d_VE_needsWeakItem_16 : decode b_VE_needsWeakItem 16 = .ok (.iload_n 3, 1) := by decide +kernel
theorem d_VE_needsWeakItem_17 : decode b_VE_needsWeakItem 17 = .ok (.iaload, 1) := by decide +kernel
theorem d_VE_needsWeakItem_18 : decode b_VE_needsWeakItem 18 = .ok (.ifCond .le 19, 3) := by decide +kernel
theorem d_VE_needsWeakItem_21 : decode b_VE_needsWeakItem 21 = .ok (.aload_n 0, 1) := by decide +kernel
theorem d_VE_needsWeakItem_22 : decode b_VE_needsWeakItem 22 = .ok (.getfield 25, 3) := by decide +kernel
theorem d_VE_needsWeakItem_25 : decode b_VE_needsWeakItem 25 = .ok (.iload 4, 2) := by decide +kernel
theorem d_VE_needsWeakItem_27 : decode b_VE_needsWeakItem 27 = .ok (.iaload, 1) := by decide +kernel
theorem d_VE_needsWeakItem_28 : decode b_VE_needsWeakItem 28 = .ok (.aload_n 2, 1) := by decide +kernel
theorem d_VE_needsWeakItem_29 : decode b_VE_needsWeakItem 29 = .ok (.iload 4, 2) := by decide +kernel
theorem d_VE_needsWeakItem_31 : decode b_VE_needsWeakItem 31 = .ok (.iaload, 1) := by decide +kernel
theorem d_VE_needsWeakItem_32 : decode b_VE_needsWeakItem 32 = .ok (.if_icmp .ge 5, 3) := by decide +kernel
theorem d_VE_needsWeakItem_35 : decode b_VE_needsWeakItem 35 = .ok (.iconst 1, 1) := by decide +kernel
theorem d_VE_needsWeakItem_36 : decode b_VE_needsWeakItem 36 = .ok (.ireturn, 1) := by decide +kernel
theorem d_VE_needsWeakItem_37 : decode b_VE_needsWeakItem 37 = .ok (.iinc 3 1, 3) := by decide +kernel
theorem d_VE_needsWeakItem_40 : decode b_VE_needsWeakItem 40 = .ok (.goto (-38), 3) := by decide +kernel
theorem d_VE_needsWeakItem_43 : decode b_VE_needsWeakItem 43 = .ok (.iconst 0, 1) := by decide +kernel
theorem d_VE_needsWeakItem_44 : decode b_VE_needsWeakItem 44 = .ok (.ireturn, 1) := by decide +kernel
theorem d_RW_init_0 : decode b_RW_init 0 = .ok (.aload_n 0, 1) := by decide +kernel
theorem d_RW_init_1 : decode b_RW_init 1 = .ok (.invokespecial 1, 3) := by decide +kernel
theorem d_RW_init_4 : decode b_RW_init 4 = .ok (.aload_n 0, 1) := by decide +kernel
theorem d_RW_init_5 : decode b_RW_init 5 = .ok (.sipush 300, 3) := by decide +kernel
theorem d_RW_init_8 : decode b_RW_init 8 = .ok (.newarray .int, 2) := by decide +kernel
theorem d_RW_init_10 : decode b_RW_init 10 = .ok (.putfield 9, 3) := by decide +kernel
theorem d_RW_init_13 : decode b_RW_init 13 = .ok (.return_, 1) := by decide +kernel
theorem d_RW_add_0 : decode b_RW_add 0 = .ok (.aload_n 0, 1) := by decide +kernel
theorem d_RW_add_1 : decode b_RW_add 1 = .ok (.getfield 13, 3) := by decide +kernel
theorem d_RW_add_4 : decode b_RW_add 4 = .ok (.ldc2_w 17, 3) := by decide +kernel
theorem d_RW_add_7 : decode b_RW_add 7 = .ok (.lrem, 1) := by decide +kernel
theorem d_RW_add_8 : decode b_RW_add 8 = .ok (.l2i, 1) := by decide +kernel
theorem d_RW_add_9 : decode b_RW_add 9 = .ok (.iconst 3, 1) := by decide +kernel
theorem d_RW_add_10 : decode b_RW_add 10 = .ok (.imul, 1) := by decide +kernel
theorem d_RW_add_11 : decode b_RW_add 11 = .ok (.istore 4, 2) := by decide +kernel
theorem d_RW_add_13 : decode b_RW_add 13 = .ok (.aload_n 0, 1) := by decide +kernel
theorem d_RW_add_14 : decode b_RW_add 14 = .ok (.getfield 9, 3) := by decide +kernel
theorem d_RW_add_17 : decode b_RW_add 17 = .ok (.iload 4, 2) := by decide +kernel
theorem d_RW_add_19 : decode b_RW_add 19 = .ok (.iload_n 1, 1) := by decide +kernel
theorem d_RW_add_20 : decode b_RW_add 20 = .ok (.iastore, 1) := by decide +kernel
theorem d_RW_add_21 : decode b_RW_add 21 = .ok (.aload_n 0, 1) := by decide +kernel
theorem d_RW_add_22 : decode b_RW_add 22 = .ok (.getfield 9, 3) := by decide +kernel
theorem d_RW_add_25 : decode b_RW_add 25 = .ok (.iload 4, 2) := by decide +kernel
theorem d_RW_add_27 : decode b_RW_add 27 = .ok (.iconst 1, 1) := by decide +kernel
theorem d_RW_add_28 : decode b_RW_add 28 = .ok (.iadd, 1) := by decide +kernel
theorem d_RW_add_29 : decode b_RW_add 29 = .ok (.iload_n 2, 1) := by decide +kernel
theorem d_RW_add_30 : decode b_RW_add 30 = .ok (.iastore, 1) := by decide +kernel
theorem d_RW_add_31 : decode b_RW_add 31 = .ok (.aload_n 0, 1) := by decide +kernel
theorem d_RW_add_32 : decode b_RW_add 32 = .ok (.getfield 9, 3) := by decide +kernel
theorem d_RW_add_35 : decode b_RW_add 35 = .ok (.iload 4, 2) := by decide +kernel
theorem d_RW_add_37 : decode b_RW_add 37 = .ok (.iconst 2, 1) := by decide +kernel
theorem d_RW_add_38 : decode b_RW_add 38 = .ok (.iadd, 1) := by decide +kernel
theorem d_RW_add_39 : decode b_RW_add 39 = .ok (.iload_n 3, 1) := by decide +kernel
theorem d_RW_add_40 : decode b_RW_add 40 = .ok (.iastore, 1) := by decide +kernel
theorem d_RW_add_41 : decode b_RW_add 41 = .ok (.aload_n 0, 1) := by decide +kernel
theorem d_RW_add_42 : decode b_RW_add 42 = .ok (.dup, 1) := by decide +kernel
theorem d_RW_add_43 : decode b_RW_add 43 = .ok (.getfield 13, 3) := by decide +kernel
theorem d_RW_add_46 : decode b_RW_add 46 = .ok (.lconst 1, 1) := by decide +kernel
theorem d_RW_add_47 : decode b_RW_add 47 = .ok (.ladd, 1) := by decide +kernel
theorem d_RW_add_48 : decode b_RW_add 48 = .ok (.putfield 13, 3) := by decide +kernel
theorem d_RW_add_51 : decode b_RW_add 51 = .ok (.return_, 1) := by decide +kernel
theorem d_RW_keeps_0 : decode b_RW_keeps 0 = .ok (.iload_n 1, 1) := by decide +kernel
theorem d_RW_keeps_1 : decode b_RW_keeps 1 = .ok (.ifCond .lt 31, 3) := by decide +kernel
theorem d_RW_keeps_4 : decode b_RW_keeps 4 = .ok (.iload_n 1, 1) := by decide +kernel
theorem d_RW_keeps_5 : decode b_RW_keeps 5 = .ok (.i2l, 1) := by decide +kernel
theorem d_RW_keeps_6 : decode b_RW_keeps 6 = .ok (.aload_n 0, 1) := by decide +kernel
theorem d_RW_keeps_7 : decode b_RW_keeps 7 = .ok (.getfield 13, 3) := by decide +kernel
theorem d_RW_keeps_10 : decode b_RW_keeps 10 = .ok (.lcmp, 1) := by decide +kernel
theorem d_RW_keeps_11 : decode b_RW_keeps 11 = .ok (.ifCond .ge 21, 3) := by decide +kernel
theorem d_RW_keeps_14 : decode b_RW_keeps 14 = .ok (.iload_n 1, 1) := by decide +kernel
theorem d_RW_keeps_15 : decode b_RW_keeps 15 = .ok (.i2l, 1) := by decide +kernel
theorem d_RW_keeps_16 : decode b_RW_keeps 16 = .ok (.aload_n 0, 1) := by decide +kernel
theorem d_RW_keeps_17 : decode b_RW_keeps 17 = .ok (.getfield 13, 3) := by decide +kernel
theorem d_RW_keeps_20 : decode b_RW_keeps 20 = .ok (.ldc2_w 17, 3) := by decide +kernel
theorem d_RW_keeps_23 : decode b_RW_keeps 23 = .ok (.lsub, 1) := by decide +kernel
theorem d_RW_keeps_24 : decode b_RW_keeps 24 = .ok (.lcmp, 1) := by decide +kernel
theorem d_RW_keeps_25 : decode b_RW_keeps 25 = .ok (.ifCond .lt 7, 3) := by decide +kernel
theorem d_RW_keeps_28 : decode b_RW_keeps 28 = .ok (.iconst 1, 1) := by decide +kernel
theorem d_RW_keeps_29 : decode b_RW_keeps 29 = .ok (.goto 4, 3) := by decide +kernel
theorem d_RW_keeps_32 : decode b_RW_keeps 32 = .ok (.iconst 0, 1) := by decide +kernel
theorem d_RW_keeps_33 : decode b_RW_keeps 33 = .ok (.ireturn, 1) := by decide +kernel
theorem d_RW_number_0 : decode b_RW_number 0 = .ok (.aload_n 0, 1) := by decide +kernel
theorem d_RW_number_1 : decode b_RW_number 1 = .ok (.getfield 9, 3) := by decide +kernel
theorem d_RW_number_4 : decode b_RW_number 4 = .ok (.iload_n 1, 1) := by decide +kernel
theorem d_RW_number_5 : decode b_RW_number 5 = .ok (.bipush 100, 2) := by decide +kernel
theorem d_RW_number_7 : decode b_RW_number 7 = .ok (.irem, 1) := by decide +kernel
theorem d_RW_number_8 : decode b_RW_number 8 = .ok (.iconst 3, 1) := by decide +kernel
theorem d_RW_number_9 : decode b_RW_number 9 = .ok (.imul, 1) := by decide +kernel
theorem d_RW_number_10 : decode b_RW_number 10 = .ok (.iload_n 2, 1) := by decide +kernel
theorem d_RW_number_11 : decode b_RW_number 11 = .ok (.iadd, 1) := by decide +kernel
theorem d_RW_number_12 : decode b_RW_number 12 = .ok (.iaload, 1) := by decide +kernel
theorem d_RW_number_13 : decode b_RW_number 13 = .ok (.ireturn, 1) := by decide +kernel
theorem d_AR_fill_0 : decode b_AR_fill 0 = .ok (.iconst 0, 1) := by decide +kernel
theorem d_AR_fill_1 : decode b_AR_fill 1 = .ok (.istore_n 2, 1) := by decide +kernel
theorem d_AR_fill_2 : decode b_AR_fill 2 = .ok (.aload_n 0, 1) := by decide +kernel
theorem d_AR_fill_3 : decode b_AR_fill 3 = .ok (.arraylength, 1) := by decide +kernel
theorem d_AR_fill_4 : decode b_AR_fill 4 = .ok (.istore_n 3, 1) := by decide +kernel
theorem d_AR_fill_5 : decode b_AR_fill 5 = .ok (.iload_n 2, 1) := by decide +kernel
theorem d_AR_fill_6 : decode b_AR_fill 6 = .ok (.iload_n 3, 1) := by decide +kernel
theorem d_AR_fill_7 : decode b_AR_fill 7 = .ok (.if_icmp .ge 13, 3) := by decide +kernel
theorem d_AR_fill_10 : decode b_AR_fill 10 = .ok (.aload_n 0, 1) := by decide +kernel
theorem d_AR_fill_11 : decode b_AR_fill 11 = .ok (.iload_n 2, 1) := by decide +kernel
theorem d_AR_fill_12 : decode b_AR_fill 12 = .ok (.iload_n 1, 1) := by decide +kernel
theorem d_AR_fill_13 : decode b_AR_fill 13 = .ok (.iastore, 1) := by decide +kernel
theorem d_AR_fill_14 : decode b_AR_fill 14 = .ok (.iinc 2 1, 3) := by decide +kernel
theorem d_AR_fill_17 : decode b_AR_fill 17 = .ok (.goto (-12), 3) := by decide +kernel
theorem d_AR_fill_20 : decode b_AR_fill 20 = .ok (.return_, 1) := by decide +kernel
end
section
theorem d_MO_init_0 : decode b_MO_init 0 = .ok (.aload_n 0, 1) := by decide +kernel
theorem d_MO_init_1 : decode b_MO_init 1 = .ok (.invokespecial 1, 3) := by decide +kernel
theorem d_MO_init_4 : decode b_MO_init 4 = .ok (.aload_n 0, 1) := by decide +kernel
theorem d_MO_init_5 : decode b_MO_init 5 = .ok (.bipush 30, 2) := by decide +kernel
theorem d_MO_init_7 : decode b_MO_init 7 = .ok (.newarray .int, 2) := by decide +kernel
theorem d_MO_init_9 : decode b_MO_init 9 = .ok (.putfield 7, 3) := by decide +kernel
theorem d_MO_init_12 : decode b_MO_init 12 = .ok (.aload_n 0, 1) := by decide +kernel
theorem d_MO_init_13 : decode b_MO_init 13 = .ok (.bipush 30, 2) := by decide +kernel
theorem d_MO_init_15 : decode b_MO_init 15 = .ok (.newarray .int, 2) := by decide +kernel
theorem d_MO_init_17 : decode b_MO_init 17 = .ok (.putfield 13, 3) := by decide +kernel
theorem d_MO_init_20 : decode b_MO_init 20 = .ok (.aload_n 0, 1) := by decide +kernel
theorem d_MO_init_21 : decode b_MO_init 21 = .ok (.bipush 30, 2) := by decide +kernel
theorem d_MO_init_23 : decode b_MO_init 23 = .ok (.newarray .int, 2) := by decide +kernel
theorem d_MO_init_25 : decode b_MO_init 25 = .ok (.putfield 16, 3) := by decide +kernel
theorem d_MO_init_28 : decode b_MO_init 28 = .ok (.aload_n 0, 1) := by decide +kernel
theorem d_MO_init_29 : decode b_MO_init 29 = .ok (.bipush 16, 2) := by decide +kernel
theorem d_MO_init_31 : decode b_MO_init 31 = .ok (.newarray .int, 2) := by decide +kernel
theorem d_MO_init_33 : decode b_MO_init 33 = .ok (.putfield 19, 3) := by decide +kernel
theorem d_MO_init_36 : decode b_MO_init 36 = .ok (.aload_n 0, 1) := by decide +kernel
theorem d_MO_init_37 : decode b_MO_init 37 = .ok (.bipush 16, 2) := by decide +kernel
theorem d_MO_init_39 : decode b_MO_init 39 = .ok (.newarray .int, 2) := by decide +kernel
theorem d_MO_init_41 : decode b_MO_init 41 = .ok (.putfield 22, 3) := by decide +kernel
theorem d_MO_init_44 : decode b_MO_init 44 = .ok (.aload_n 0, 1) := by decide +kernel
theorem d_MO_init_45 : decode b_MO_init 45 = .ok (.bipush 16, 2) := by decide +kernel
theorem d_MO_init_47 : decode b_MO_init 47 = .ok (.newarray .int, 2) := by decide +kernel
theorem d_MO_init_49 : decode b_MO_init 49 = .ok (.putfield 25, 3) := by decide +kernel
theorem d_MO_init_52 : decode b_MO_init 52 = .ok (.aload_n 0, 1) := by decide +kernel
theorem d_MO_init_53 : decode b_MO_init 53 = .ok (.bipush 16, 2) := by decide +kernel
theorem d_MO_init_55 : decode b_MO_init 55 = .ok (.newarray .int, 2) := by decide +kernel
theorem d_MO_init_57 : decode b_MO_init 57 = .ok (.putfield 28, 3) := by decide +kernel
theorem d_MO_init_60 : decode b_MO_init 60 = .ok (.aload_n 0, 1) := by decide +kernel
theorem d_MO_init_61 : decode b_MO_init 61 = .ok (.bipush 16, 2) := by decide +kernel
theorem d_MO_init_63 : decode b_MO_init 63 = .ok (.newarray .int, 2) := by decide +kernel
theorem d_MO_init_65 : decode b_MO_init 65 = .ok (.putfield 31, 3) := by decide +kernel
theorem d_MO_init_68 : decode b_MO_init 68 = .ok (.aload_n 0, 1) := by decide +kernel
theorem d_MO_init_69 : decode b_MO_init 69 = .ok (.sipush 128, 3) := by decide +kernel
theorem d_MO_init_72 : decode b_MO_init 72 = .ok (.newarray .int, 2) := by decide +kernel
theorem d_MO_init_74 : decode b_MO_init 74 = .ok (.putfield 34, 3) := by decide +kernel
theorem d_MO_init_77 : decode b_MO_init 77 = .ok (.aload_n 0, 1) := by decide +kernel
theorem d_MO_init_78 : decode b_MO_init 78 = .ok (.sipush 128, 3) := by decide +kernel
theorem d_MO_init_81 : decode b_MO_init 81 = .ok (.newarray .boolean, 2) := by decide +kernel
theorem d_MO_init_83 : decode b_MO_init 83 = .ok (.putfield 37, 3) := by decide +kernel
theorem d_MO_init_86 : decode b_MO_init 86 = .ok (.aload_n 0, 1) := by decide +kernel
theorem d_MO_init_87 : decode b_MO_init 87 = .ok (.sipush 480, 3) := by decide +kernel
theorem d_MO_init_90 : decode b_MO_init 90 = .ok (.newarray .int, 2) := by decide +kernel
theorem d_MO_init_92 : decode b_MO_init 92 = .ok (.putfield 41, 3) := by decide +kernel
theorem d_MO_init_95 : decode b_MO_init 95 = .ok (.aload_n 0, 1) := by decide +kernel
theorem d_MO_init_96 : decode b_MO_init 96 = .ok (.sipush 480, 3) := by decide +kernel
theorem d_MO_init_99 : decode b_MO_init 99 = .ok (.newarray .int, 2) := by decide +kernel
theorem d_MO_init_101 : decode b_MO_init 101 = .ok (.putfield 44, 3) := by decide +kernel
theorem d_MO_init_104 : decode b_MO_init 104 = .ok (.aload_n 0, 1) := by decide +kernel
theorem d_MO_init_105 : decode b_MO_init 105 = .ok (.sipush 3840, 3) := by decide +kernel
theorem d_MO_init_108 : decode b_MO_init 108 = .ok (.newarray .int, 2) := by decide +kernel
theorem d_MO_init_110 : decode b_MO_init 110 = .ok (.putfield 47, 3) := by decide +kernel
theorem d_MO_init_113 : decode b_MO_init 113 = .ok (.aload_n 0, 1) := by decide +kernel
theorem d_MO_init_114 : decode b_MO_init 114 = .ok (.sipush 1440, 3) := by decide +kernel
theorem d_MO_init_117 : decode b_MO_init 117 = .ok (.newarray .int, 2) := by decide +kernel
theorem d_MO_init_119 : decode b_MO_init 119 = .ok (.putfield 50, 3) := by decide +kernel
theorem d_MO_init_122 : decode b_MO_init 122 = .ok (.aload_n 0, 1) := by decide +kernel
theorem d_MO_init_123 : decode b_MO_init 123 = .ok (.sipush 300, 3) := by decide +kernel
theorem d_MO_init_126 : decode b_MO_init 126 = .ok (.newarray .int, 2) := by decide +kernel
theorem d_MO_init_128 : decode b_MO_init 128 = .ok (.putfield 53, 3) := by decide +kernel
theorem d_MO_init_131 : decode b_MO_init 131 = .ok (.return_, 1) := by decide +kernel
theorem d_MO_thrown_0 : decode b_MO_thrown 0 = .ok (.aload_n 0, 1) := by decide +kernel
theorem d_MO_thrown_1 : decode b_MO_thrown 1 = .ok (.getfield 56, 3) := by decide +kernel
theorem d_MO_thrown_4 : decode b_MO_thrown 4 = .ok (.ireturn, 1) := by decide +kernel
theorem d_MO_throwing_0 : decode b_MO_throwing 0 = .ok (.aload_n 0, 1) := by decide +kernel
theorem d_MO_throwing_1 : decode b_MO_throwing 1 = .ok (.iload_n 1, 1) := by decide +kernel
theorem d_MO_throwing_2 : decode b_MO_throwing 2 = .ok (.ifCond .eq 7, 3) := by decide +kernel
theorem d_MO_throwing_5 : decode b_MO_throwing 5 = .ok (.iconst 1, 1) := by decide +kernel
theorem d_MO_throwing_6 : decode b_MO_throwing 6 = .ok (.goto 29, 3) := by decide +kernel
theorem d_MO_throwing_9 : decode b_MO_throwing 9 = .ok (.iload_n 2, 1) := by decide +kernel
theorem d_MO_throwing_10 : decode b_MO_throwing 10 = .ok (.ifCond .eq 7, 3) := by decide +kernel
theorem d_MO_throwing_13 : decode b_MO_throwing 13 = .ok (.iconst 2, 1) := by decide +kernel
theorem d_MO_throwing_14 : decode b_MO_throwing 14 = .ok (.goto 21, 3) := by decide +kernel
theorem d_MO_throwing_17 : decode b_MO_throwing 17 = .ok (.iload_n 3, 1) := by decide +kernel
theorem d_MO_throwing_18 : decode b_MO_throwing 18 = .ok (.ifCond .eq 7, 3) := by decide +kernel
theorem d_MO_throwing_21 : decode b_MO_throwing 21 = .ok (.iconst 3, 1) := by decide +kernel
theorem d_MO_throwing_22 : decode b_MO_throwing 22 = .ok (.goto 13, 3) := by decide +kernel
theorem d_MO_throwing_25 : decode b_MO_throwing 25 = .ok (.iload 4, 2) := by decide +kernel
theorem d_MO_throwing_27 : decode b_MO_throwing 27 = .ok (.ifCond .eq 7, 3) := by decide +kernel
theorem d_MO_throwing_30 : decode b_MO_throwing 30 = .ok (.iconst 4, 1) := by decide +kernel
theorem d_MO_throwing_31 : decode b_MO_throwing 31 = .ok (.goto 4, 3) := by decide +kernel
theorem d_MO_throwing_34 : decode b_MO_throwing 34 = .ok (.iconst 0, 1) := by decide +kernel
theorem d_MO_throwing_35 : decode b_MO_throwing 35 = .ok (.putfield 56, 3) := by decide +kernel
theorem d_MO_throwing_38 : decode b_MO_throwing 38 = .ok (.aload_n 0, 1) := by decide +kernel
theorem d_MO_throwing_39 : decode b_MO_throwing 39 = .ok (.getfield 56, 3) := by decide +kernel
theorem d_MO_throwing_42 : decode b_MO_throwing 42 = .ok (.ifCond .le 7, 3) := by decide +kernel
theorem d_MO_throwing_45 : decode b_MO_throwing 45 = .ok (.iconst 1, 1) := by decide +kernel
theorem d_MO_throwing_46 : decode b_MO_throwing 46 = .ok (.goto 4, 3) := by decide +kernel
theorem d_MO_throwing_49 : decode b_MO_throwing 49 = .ok (.iconst 0, 1) := by decide +kernel
theorem d_MO_throwing_50 : decode b_MO_throwing 50 = .ok (.ireturn, 1) := by decide +kernel
theorem d_MO_in_0 : decode b_MO_in 0 = .ok (.iload_n 0, 1) := by decide +kernel
theorem d_MO_in_1 : decode b_MO_in 1 = .ok (.iload_n 1, 1) := by decide +kernel
theorem d_MO_in_2 : decode b_MO_in 2 = .ok (.if_icmp .lt 12, 3) := by decide +kernel
theorem d_MO_in_5 : decode b_MO_in 5 = .ok (.iload_n 0, 1) := by decide +kernel
theorem d_MO_in_6 : decode b_MO_in 6 = .ok (.iload_n 2, 1) := by decide +kernel
theorem d_MO_in_7 : decode b_MO_in 7 = .ok (.if_icmp .gt 7, 3) := by decide +kernel
theorem d_MO_in_10 : decode b_MO_in 10 = .ok (.iconst 1, 1) := by decide +kernel
theorem d_MO_in_11 : decode b_MO_in 11 = .ok (.goto 4, 3) := by decide +kernel
theorem d_MO_in_14 : decode b_MO_in 14 = .ok (.iconst 0, 1) := by decide +kernel
theorem d_MO_in_15 : decode b_MO_in 15 = .ok (.ireturn, 1) := by decide +kernel
theorem d_MO_isVehicle_0 : decode b_MO_isVehicle 0 = .ok (.iload_n 1, 1) := by decide +kernel
theorem d_MO_isVehicle_1 : decode b_MO_isVehicle 1 = .ok (.iconst 0, 1) := by decide +kernel
theorem d_MO_isVehicle_2 : decode b_MO_isVehicle 2 = .ok (.aload_n 0, 1) := by decide +kernel
theorem d_MO_isVehicle_3 : decode b_MO_isVehicle 3 = .ok (.getfield 60, 3) := by decide +kernel
theorem d_MO_isVehicle_6 : decode b_MO_isVehicle 6 = .ok (.iconst 1, 1) := by decide +kernel
theorem d_MO_isVehicle_7 : decode b_MO_isVehicle 7 = .ok (.isub, 1) := by decide +kernel
theorem d_MO_isVehicle_8 : decode b_MO_isVehicle 8 = .ok (.invokestatic 63, 3) := by decide +kernel
theorem d_MO_isVehicle_11 : decode b_MO_isVehicle 11 = .ok (.ireturn, 1) := by decide +kernel
theorem d_MO_isCupboard_0 : decode b_MO_isCupboard 0 = .ok (.iload_n 0, 1) := by decide +kernel
theorem d_MO_isCupboard_1 : decode b_MO_isCupboard 1 = .ok (.iconst 0, 1) := by decide +kernel
theorem d_MO_isCupboard_2 : decode b_MO_isCupboard 2 = .ok (.bipush 7, 2) := by decide +kernel
theorem d_MO_isCupboard_4 : decode b_MO_isCupboard 4 = .ok (.invokestatic 63, 3) := by decide +kernel
theorem d_MO_isCupboard_7 : decode b_MO_isCupboard 7 = .ok (.ireturn, 1) := by decide +kernel
theorem d_MO_isItem_0 : decode b_MO_isItem 0 = .ok (.iload_n 0, 1) := by decide +kernel
theorem d_MO_isItem_1 : decode b_MO_isItem 1 = .ok (.iconst 0, 1) := by decide +kernel
theorem d_MO_isItem_2 : decode b_MO_isItem 2 = .ok (.bipush 29, 2) := by decide +kernel
theorem d_MO_isItem_4 : decode b_MO_isItem 4 = .ok (.invokestatic 63, 3) := by decide +kernel
theorem d_MO_isItem_7 : decode b_MO_isItem 7 = .ok (.ireturn, 1) := by decide +kernel
theorem d_MO_isThing_0 : decode b_MO_isThing 0 = .ok (.aload_n 0, 1) := by decide +kernel
theorem d_MO_isThing_1 : decode b_MO_isThing 1 = .ok (.iload_n 1, 1) := by decide +kernel
theorem d_MO_isThing_2 : decode b_MO_isThing 2 = .ok (.invokevirtual 67, 3) := by decide +kernel
theorem d_MO_isThing_5 : decode b_MO_isThing 5 = .ok (.ifCond .eq 21, 3) := by decide +kernel
theorem d_MO_isThing_8 : decode b_MO_isThing 8 = .ok (.iload_n 2, 1) := by decide +kernel
theorem d_MO_isThing_9 : decode b_MO_isThing 9 = .ok (.invokestatic 71, 3) := by decide +kernel
theorem d_MO_isThing_12 : decode b_MO_isThing 12 = .ok (.ifCond .eq 14, 3) := by decide +kernel
theorem d_MO_isThing_15 : decode b_MO_isThing 15 = .ok (.iload_n 3, 1) := by decide +kernel
theorem d_MO_isThing_16 : decode b_MO_isThing 16 = .ok (.invokestatic 74, 3) := by decide +kernel
theorem d_MO_isThing_19 : decode b_MO_isThing 19 = .ok (.ifCond .eq 7, 3) := by decide +kernel
theorem d_MO_isThing_22 : decode b_MO_isThing 22 = .ok (.iconst 1, 1) := by decide +kernel
theorem d_MO_isThing_23 : decode b_MO_isThing 23 = .ok (.goto 4, 3) := by decide +kernel
theorem d_MO_isThing_26 : decode b_MO_isThing 26 = .ok (.iconst 0, 1) := by decide +kernel
theorem d_MO_isThing_27 : decode b_MO_isThing 27 = .ok (.ireturn, 1) := by decide +kernel
theorem d_MO_isLimit_0 : decode b_MO_isLimit 0 = .ok (.iload_n 0, 1) := by decide +kernel
theorem d_MO_isLimit_1 : decode b_MO_isLimit 1 = .ok (.iconst 0, 1) := by decide +kernel
theorem d_MO_isLimit_2 : decode b_MO_isLimit 2 = .ok (.ldc 77, 2) := by decide +kernel
theorem d_MO_isLimit_4 : decode b_MO_isLimit 4 = .ok (.invokestatic 63, 3) := by decide +kernel
theorem d_MO_isLimit_7 : decode b_MO_isLimit 7 = .ok (.ireturn, 1) := by decide +kernel
theorem d_MO_vehicle_0 : decode b_MO_vehicle 0 = .ok (.iload_n 2, 1) := by decide +kernel
theorem d_MO_vehicle_1 : decode b_MO_vehicle 1 = .ok (.sipush 1000, 3) := by decide +kernel
theorem d_MO_vehicle_4 : decode b_MO_vehicle 4 = .ok (.sipush 8000, 3) := by decide +kernel
theorem d_MO_vehicle_7 : decode b_MO_vehicle 7 = .ok (.invokestatic 63, 3) := by decide +kernel
theorem d_MO_vehicle_10 : decode b_MO_vehicle 10 = .ok (.ifCond .eq 18, 3) := by decide +kernel
theorem d_MO_vehicle_13 : decode b_MO_vehicle 13 = .ok (.iload_n 3, 1) := by decide +kernel
theorem d_MO_vehicle_14 : decode b_MO_vehicle 14 = .ok (.invokestatic 78, 3) := by decide +kernel
theorem d_MO_vehicle_17 : decode b_MO_vehicle 17 = .ok (.ifCond .eq 11, 3) := by decide +kernel
theorem d_MO_vehicle_20 : decode b_MO_vehicle 20 = .ok (.iload 4, 2) := by decide +kernel
theorem d_MO_vehicle_22 : decode b_MO_vehicle 22 = .ok (.invokestatic 78, 3) := by decide +kernel
theorem d_MO_vehicle_25 : decode b_MO_vehicle 25 = .ok (.ifCond .ne 7, 3) := by decide +kernel
theorem d_MO_vehicle_28 : decode b_MO_vehicle 28 = .ok (.iconst 1, 1) := by decide +kernel
theorem d_MO_vehicle_29 : decode b_MO_vehicle 29 = .ok (.goto 4, 3) := by decide +kernel
theorem d_MO_vehicle_32 : decode b_MO_vehicle 32 = .ok (.iconst 0, 1) := by decide +kernel
theorem d_MO_vehicle_33 : decode b_MO_vehicle 33 = .ok (.istore 5, 2) := by decide +kernel
theorem d_MO_vehicle_35 : decode b_MO_vehicle 35 = .ok (.aload_n 0, 1) := by decide +kernel
theorem d_MO_vehicle_36 : decode b_MO_vehicle 36 = .ok (.iload_n 1, 1) := by decide +kernel
theorem d_MO_vehicle_37 : decode b_MO_vehicle 37 = .ok (.iconst 0, 1) := by decide +kernel
theorem d_MO_vehicle_38 : decode b_MO_vehicle 38 = .ok (.iconst 5, 1) := by decide +kernel
theorem d_MO_vehicle_39 : decode b_MO_vehicle 39 = .ok (.invokestatic 63, 3) := by decide +kernel
theorem d_MO_vehicle_42 : decode b_MO_vehicle 42 = .ok (.ifCond .ne 7, 3) := by decide +kernel
theorem d_MO_vehicle_45 : decode b_MO_vehicle 45 = .ok (.iconst 1, 1) := by decide +kernel
theorem d_MO_vehicle_46 : decode b_MO_vehicle 46 = .ok (.goto 4, 3) := by decide +kernel
theorem d_MO_vehicle_49 : decode b_MO_vehicle 49 = .ok (.iconst 0, 1) := by decide +kernel
theorem d_MO_vehicle_50 : decode b_MO_vehicle 50 = .ok (.iload 5, 2) := by decide +kernel
theorem d_MO_vehicle_52 : decode b_MO_vehicle 52 = .ok (.aload_n 0, 1) := by decide +kernel
theorem d_MO_vehicle_53 : decode b_MO_vehicle 53 = .ok (.getfield 60, 3) := by decide +kernel
theorem d_MO_vehicle_56 : decode b_MO_vehicle 56 = .ok (.bipush 16, 2) := by decide +kernel
theorem d_MO_vehicle_58 : decode b_MO_vehicle 58 = .ok (.if_icmp .ne 7, 3) := by decide +kernel
theorem d_MO_vehicle_61 : decode b_MO_vehicle 61 = .ok (.iconst 1, 1) := by decide +kernel
theorem d_MO_vehicle_62 : decode b_MO_vehicle 62 = .ok (.goto 4, 3) := by decide +kernel
theorem d_MO_vehicle_65 : decode b_MO_vehicle 65 = .ok (.iconst 0, 1) := by decide +kernel
theorem d_MO_vehicle_66 : decode b_MO_vehicle 66 = .ok (.iconst 0, 1) := by decide +kernel
theorem d_MO_vehicle_67 : decode b_MO_vehicle 67 = .ok (.invokevirtual 81, 3) := by decide +kernel
theorem d_MO_vehicle_70 : decode b_MO_vehicle 70 = .ok (.ifCond .eq 5, 3) := by decide +kernel
theorem d_MO_vehicle_73 : decode b_MO_vehicle 73 = .ok (.iconst 0, 1) := by decide +kernel
theorem d_MO_vehicle_74 : decode b_MO_vehicle 74 = .ok (.ireturn, 1) := by decide +kernel
theorem d_MO_vehicle_75 : decode b_MO_vehicle 75 = .ok (.aload_n 0, 1) := by decide +kernel
theorem d_MO_vehicle_76 : decode b_MO_vehicle 76 = .ok (.getfield 19, 3) := by decide +kernel
theorem d_MO_vehicle_79 : decode b_MO_vehicle 79 = .ok (.aload_n 0, 1) := by decide +kernel
theorem d_MO_vehicle_80 : decode b_MO_vehicle 80 = .ok (.getfield 60, 3) := by decide +kernel
theorem d_MO_vehicle_83 : decode b_MO_vehicle 83 = .ok (.iload_n 1, 1) := by decide +kernel
theorem d_MO_vehicle_84 : decode b_MO_vehicle 84 = .ok (.iastore, 1) := by decide +kernel
theorem d_MO_vehicle_85 : decode b_MO_vehicle 85 = .ok (.aload_n 0, 1) := by decide +kernel
theorem d_MO_vehicle_86 : decode b_MO_vehicle 86 = .ok (.getfield 22, 3) := by decide +kernel
theorem d_MO_vehicle_89 : decode b_MO_vehicle 89 = .ok (.aload_n 0, 1) := by decide +kernel
theorem d_MO_vehicle_90 : decode b_MO_vehicle 90 = .ok (.getfield 60, 3) := by decide +kernel
theorem d_MO_vehicle_93 : decode b_MO_vehicle 93 = .ok (.iload_n 2, 1) := by decide +kernel
theorem d_MO_vehicle_94 : decode b_MO_vehicle 94 = .ok (.iastore, 1) := by decide +kernel
theorem d_MO_vehicle_95 : decode b_MO_vehicle 95 = .ok (.aload_n 0, 1) := by decide +kernel
theorem d_MO_vehicle_96 : decode b_MO_vehicle 96 = .ok (.getfield 25, 3) := by decide +kernel
theorem d_MO_vehicle_99 : decode b_MO_vehicle 99 = .ok (.aload_n 0, 1) := by decide +kernel
theorem d_MO_vehicle_100 : decode b_MO_vehicle 100 = .ok (.getfield 60, 3) := by decide +kernel
theorem d_MO_vehicle_103 : decode b_MO_vehicle 103 = .ok (.iload_n 3, 1) := by decide +kernel
theorem d_MO_vehicle_104 : decode b_MO_vehicle 104 = .ok (.iastore, 1) := by decide +kernel
theorem d_MO_vehicle_105 : decode b_MO_vehicle 105 = .ok (.aload_n 0, 1) := by decide +kernel
theorem d_MO_vehicle_106 : decode b_MO_vehicle 106 = .ok (.getfield 28, 3) := by decide +kernel
theorem d_MO_vehicle_109 : decode b_MO_vehicle 109 = .ok (.aload_n 0, 1) := by decide +kernel
theorem d_MO_vehicle_110 : decode b_MO_vehicle 110 = .ok (.getfield 60, 3) := by decide +kernel
theorem d_MO_vehicle_113 : decode b_MO_vehicle 113 = .ok (.iload 4, 2) := by decide +kernel
theorem d_MO_vehicle_115 : decode b_MO_vehicle 115 = .ok (.iastore, 1) := by decide +kernel
theorem d_MO_vehicle_116 : decode b_MO_vehicle 116 = .ok (.aload_n 0, 1) := by decide +kernel
theorem d_MO_vehicle_117 : decode b_MO_vehicle 117 = .ok (.getfield 31, 3) := by decide +kernel
theorem d_MO_vehicle_120 : decode b_MO_vehicle 120 = .ok (.aload_n 0, 1) := by decide +kernel
theorem d_MO_vehicle_121 : decode b_MO_vehicle 121 = .ok (.getfield 60, 3) := by decide +kernel
theorem d_MO_vehicle_124 : decode b_MO_vehicle 124 = .ok (.iconst (-1), 1) := by decide +kernel
theorem d_MO_vehicle_125 : decode b_MO_vehicle 125 = .ok (.iastore, 1) := by decide +kernel
theorem d_MO_vehicle_126 : decode b_MO_vehicle 126 = .ok (.iconst 0, 1) := by decide +kernel
theorem d_MO_vehicle_127 : decode b_MO_vehicle 127 = .ok (.istore 6, 2) := by decide +kernel
theorem d_MO_vehicle_129 : decode b_MO_vehicle 129 = .ok (.iload 6, 2) := by decide +kernel
theorem d_MO_vehicle_131 : decode b_MO_vehicle 131 = .ok (.bipush 30, 2) := by decide +kernel
theorem d_MO_vehicle_133 : decode b_MO_vehicle 133 = .ok (.if_icmp .ge 42, 3) := by decide +kernel
theorem d_MO_vehicle_136 : decode b_MO_vehicle 136 = .ok (.aload_n 0, 1) := by decide +kernel
theorem d_MO_vehicle_137 : decode b_MO_vehicle 137 = .ok (.getfield 41, 3) := by decide +kernel
theorem d_MO_vehicle_140 : decode b_MO_vehicle 140 = .ok (.bipush 30, 2) := by decide +kernel
theorem d_MO_vehicle_142 : decode b_MO_vehicle 142 = .ok (.aload_n 0, 1) := by decide +kernel
theorem d_MO_vehicle_143 : decode b_MO_vehicle 143 = .ok (.getfield 60, 3) := by decide +kernel
theorem d_MO_vehicle_146 : decode b_MO_vehicle 146 = .ok (.imul, 1) := by decide +kernel
theorem d_MO_vehicle_147 : decode b_MO_vehicle 147 = .ok (.iload 6, 2) := by decide +kernel
theorem d_MO_vehicle_149 : decode b_MO_vehicle 149 = .ok (.iadd, 1) := by decide +kernel
theorem d_MO_vehicle_150 : decode b_MO_vehicle 150 = .ok (.iconst (-1), 1) := by decide +kernel
theorem d_MO_vehicle_151 : decode b_MO_vehicle 151 = .ok (.iastore, 1) := by decide +kernel
theorem d_MO_vehicle_152 : decode b_MO_vehicle 152 = .ok (.aload_n 0, 1) := by decide +kernel
theorem d_MO_vehicle_153 : decode b_MO_vehicle 153 = .ok (.getfield 44, 3) := by decide +kernel
theorem d_MO_vehicle_156 : decode b_MO_vehicle 156 = .ok (.bipush 30, 2) := by decide +kernel
theorem d_MO_vehicle_158 : decode b_MO_vehicle 158 = .ok (.aload_n 0, 1) := by decide +kernel
theorem d_MO_vehicle_159 : decode b_MO_vehicle 159 = .ok (.getfield 60, 3) := by decide +kernel
theorem d_MO_vehicle_162 : decode b_MO_vehicle 162 = .ok (.imul, 1) := by decide +kernel
theorem d_MO_vehicle_163 : decode b_MO_vehicle 163 = .ok (.iload 6, 2) := by decide +kernel
theorem d_MO_vehicle_165 : decode b_MO_vehicle 165 = .ok (.iadd, 1) := by decide +kernel
theorem d_MO_vehicle_166 : decode b_MO_vehicle 166 = .ok (.bipush 100, 2) := by decide +kernel
theorem d_MO_vehicle_168 : decode b_MO_vehicle 168 = .ok (.iastore, 1) := by decide +kernel
theorem d_MO_vehicle_169 : decode b_MO_vehicle 169 = .ok (.iinc 6 1, 3) := by decide +kernel
theorem d_MO_vehicle_172 : decode b_MO_vehicle 172 = .ok (.goto (-43), 3) := by decide +kernel
theorem d_MO_vehicle_175 : decode b_MO_vehicle 175 = .ok (.aload_n 0, 1) := by decide +kernel
theorem d_MO_vehicle_176 : decode b_MO_vehicle 176 = .ok (.dup, 1) := by decide +kernel
theorem d_MO_vehicle_177 : decode b_MO_vehicle 177 = .ok (.getfield 60, 3) := by decide +kernel
theorem d_MO_vehicle_180 : decode b_MO_vehicle 180 = .ok (.iconst 1, 1) := by decide +kernel
theorem d_MO_vehicle_181 : decode b_MO_vehicle 181 = .ok (.iadd, 1) := by decide +kernel
theorem d_MO_vehicle_182 : decode b_MO_vehicle 182 = .ok (.putfield 60, 3) := by decide +kernel
theorem d_MO_vehicle_185 : decode b_MO_vehicle 185 = .ok (.aload_n 0, 1) := by decide +kernel
theorem d_MO_vehicle_186 : decode b_MO_vehicle 186 = .ok (.getfield 60, 3) := by decide +kernel
theorem d_MO_vehicle_189 : decode b_MO_vehicle 189 = .ok (.iconst 1, 1) := by decide +kernel
theorem d_MO_vehicle_190 : decode b_MO_vehicle 190 = .ok (.isub, 1) := by decide +kernel
theorem d_MO_vehicle_191 : decode b_MO_vehicle 191 = .ok (.ireturn, 1) := by decide +kernel
theorem d_MO_limits_0 : decode b_MO_limits 0 = .ok (.aload_n 0, 1) := by decide +kernel
theorem d_MO_limits_1 : decode b_MO_limits 1 = .ok (.aload_n 0, 1) := by decide +kernel
theorem d_MO_limits_2 : decode b_MO_limits 2 = .ok (.iload_n 1, 1) := by decide +kernel
theorem d_MO_limits_3 : decode b_MO_limits 3 = .ok (.invokevirtual 67, 3) := by decide +kernel
theorem d_MO_limits_6 : decode b_MO_limits 6 = .ok (.ifCond .ne 7, 3) := by decide +kernel
theorem d_MO_limits_9 : decode b_MO_limits 9 = .ok (.iconst 1, 1) := by decide +kernel
theorem d_MO_limits_10 : decode b_MO_limits 10 = .ok (.goto 4, 3) := by decide +kernel
theorem d_MO_limits_13 : decode b_MO_limits 13 = .ok (.iconst 0, 1) := by decide +kernel
theorem d_MO_limits_14 : decode b_MO_limits 14 = .ok (.iload_n 2, 1) := by decide +kernel
theorem d_MO_limits_15 : decode b_MO_limits 15 = .ok (.invokestatic 78, 3) := by decide +kernel
theorem d_MO_limits_18 : decode b_MO_limits 18 = .ok (.ifCond .eq 10, 3) := by decide +kernel
theorem d_MO_limits_21 : decode b_MO_limits 21 = .ok (.iload_n 3, 1) := by decide +kernel
theorem d_MO_limits_22 : decode b_MO_limits 22 = .ok (.invokestatic 78, 3) := by decide +kernel
theorem d_MO_limits_25 : decode b_MO_limits 25 = .ok (.ifCond .ne 7, 3) := by decide +kernel
theorem d_MO_limits_28 : decode b_MO_limits 28 = .ok (.iconst 1, 1) := by decide +kernel
theorem d_MO_limits_29 : decode b_MO_limits 29 = .ok (.goto 4, 3) := by decide +kernel
theorem d_MO_limits_32 : decode b_MO_limits 32 = .ok (.iconst 0, 1) := by decide +kernel
theorem d_MO_limits_33 : decode b_MO_limits 33 = .ok (.iconst 0, 1) := by decide +kernel
theorem d_MO_limits_34 : decode b_MO_limits 34 = .ok (.iconst 0, 1) := by decide +kernel
theorem d_MO_limits_35 : decode b_MO_limits 35 = .ok (.invokevirtual 81, 3) := by decide +kernel
theorem d_MO_limits_38 : decode b_MO_limits 38 = .ok (.ifCond .eq 4, 3) := by decide +kernel
theorem d_MO_limits_41 : decode b_MO_limits 41 = .ok (.return_, 1) := by decide +kernel
theorem d_MO_limits_42 : decode b_MO_limits 42 = .ok (.aload_n 0, 1) := by decide +kernel
theorem d_MO_limits_43 : decode b_MO_limits 43 = .ok (.getfield 25, 3) := by decide +kernel
theorem d_MO_limits_46 : decode b_MO_limits 46 = .ok (.iload_n 1, 1) := by decide +kernel
theorem d_MO_limits_47 : decode b_MO_limits 47 = .ok (.iload_n 2, 1) := by decide +kernel
theorem d_MO_limits_48 : decode b_MO_limits 48 = .ok (.iastore, 1) := by decide +kernel
theorem d_MO_limits_49 : decode b_MO_limits 49 = .ok (.aload_n 0, 1) := by decide +kernel
theorem d_MO_limits_50 : decode b_MO_limits 50 = .ok (.getfield 28, 3) := by decide +kernel
theorem d_MO_limits_53 : decode b_MO_limits 53 = .ok (.iload_n 1, 1) := by decide +kernel
theorem d_MO_limits_54 : decode b_MO_limits 54 = .ok (.iload_n 3, 1) := by decide +kernel
theorem d_MO_limits_55 : decode b_MO_limits 55 = .ok (.iastore, 1) := by decide +kernel
theorem d_MO_limits_56 : decode b_MO_limits 56 = .ok (.return_, 1) := by decide +kernel
theorem d_MO_isEmpty_0 : decode b_MO_isEmpty 0 = .ok (.iconst 1, 1) := by decide +kernel
theorem d_MO_isEmpty_1 : decode b_MO_isEmpty 1 = .ok (.istore_n 3, 1) := by decide +kernel
theorem d_MO_isEmpty_2 : decode b_MO_isEmpty 2 = .ok (.iconst 0, 1) := by decide +kernel
theorem d_MO_isEmpty_3 : decode b_MO_isEmpty 3 = .ok (.istore 4, 2) := by decide +kernel
theorem d_MO_isEmpty_5 : decode b_MO_isEmpty 5 = .ok (.iload 4, 2) := by decide +kernel
theorem d_MO_isEmpty_7 : decode b_MO_isEmpty 7 = .ok (.bipush 30, 2) := by decide +kernel
theorem d_MO_isEmpty_9 : decode b_MO_isEmpty 9 = .ok (.if_icmp .ge 40, 3) := by decide +kernel
theorem d_MO_isEmpty_12 : decode b_MO_isEmpty 12 = .ok (.iload_n 3, 1) := by decide +kernel
theorem d_MO_isEmpty_13 : decode b_MO_isEmpty 13 = .ok (.ifCond .eq 28, 3) := by decide +kernel
theorem d_MO_isEmpty_16 : decode b_MO_isEmpty 16 = .ok (.aload_n 0, 1) := by decide +kernel
theorem d_MO_isEmpty_17 : decode b_MO_isEmpty 17 = .ok (.getfield 47, 3) := by decide +kernel
theorem d_MO_isEmpty_20 : decode b_MO_isEmpty 20 = .ok (.sipush 240, 3) := by decide +kernel
theorem d_MO_isEmpty_23 : decode b_MO_isEmpty 23 = .ok (.iload_n 1, 1) := by decide +kernel
theorem d_MO_isEmpty_24 : decode b_MO_isEmpty 24 = .ok (.imul, 1) := by decide +kernel
theorem d_MO_isEmpty_25 : decode b_MO_isEmpty 25 = .ok (.bipush 30, 2) := by decide +kernel
theorem d_MO_isEmpty_27 : decode b_MO_isEmpty 27 = .ok (.iload_n 2, 1) := by decide +kernel
theorem d_MO_isEmpty_28 : decode b_MO_isEmpty 28 = .ok (.imul, 1) := by decide +kernel
theorem d_MO_isEmpty_29 : decode b_MO_isEmpty 29 = .ok (.iadd, 1) := by decide +kernel
theorem d_MO_isEmpty_30 : decode b_MO_isEmpty 30 = .ok (.iload 4, 2) := by decide +kernel
theorem d_MO_isEmpty_32 : decode b_MO_isEmpty 32 = .ok (.iadd, 1) := by decide +kernel
theorem d_MO_isEmpty_33 : decode b_MO_isEmpty 33 = .ok (.iaload, 1) := by decide +kernel
theorem d_MO_isEmpty_34 : decode b_MO_isEmpty 34 = .ok (.ifCond .ne 7, 3) := by decide +kernel
theorem d_MO_isEmpty_37 : decode b_MO_isEmpty 37 = .ok (.iconst 1, 1) := by decide +kernel
theorem d_MO_isEmpty_38 : decode b_MO_isEmpty 38 = .ok (.goto 4, 3) := by decide +kernel
theorem d_MO_isEmpty_41 : decode b_MO_isEmpty 41 = .ok (.iconst 0, 1) := by decide +kernel
theorem d_MO_isEmpty_42 : decode b_MO_isEmpty 42 = .ok (.istore_n 3, 1) := by decide +kernel
theorem d_MO_isEmpty_43 : decode b_MO_isEmpty 43 = .ok (.iinc 4 1, 3) := by decide +kernel
theorem d_MO_isEmpty_46 : decode b_MO_isEmpty 46 = .ok (.goto (-41), 3) := by decide +kernel
theorem d_MO_isEmpty_49 : decode b_MO_isEmpty 49 = .ok (.iload_n 3, 1) := by decide +kernel
theorem d_MO_isEmpty_50 : decode b_MO_isEmpty 50 = .ok (.ireturn, 1) := by decide +kernel
theorem d_MO_place_0 : decode b_MO_place 0 = .ok (.aload_n 0, 1) := by decide +kernel
theorem d_MO_place_1 : decode b_MO_place 1 = .ok (.iload_n 1, 1) := by decide +kernel
theorem d_MO_place_2 : decode b_MO_place 2 = .ok (.invokevirtual 67, 3) := by decide +kernel
theorem d_MO_place_5 : decode b_MO_place 5 = .ok (.ifCond .eq 10, 3) := by decide +kernel
theorem d_MO_place_8 : decode b_MO_place 8 = .ok (.iload_n 2, 1) := by decide +kernel
theorem d_MO_place_9 : decode b_MO_place 9 = .ok (.invokestatic 71, 3) := by decide +kernel
theorem d_MO_place_12 : decode b_MO_place 12 = .ok (.ifCond .ne 7, 3) := by decide +kernel
theorem d_MO_place_15 : decode b_MO_place 15 = .ok (.iconst 1, 1) := by decide +kernel
theorem d_MO_place_16 : decode b_MO_place 16 = .ok (.goto 4, 3) := by decide +kernel
theorem d_MO_place_19 : decode b_MO_place 19 = .ok (.iconst 0, 1) := by decide +kernel
theorem d_MO_place_20 : decode b_MO_place 20 = .ok (.istore 4, 2) := by decide +kernel
theorem d_MO_place_22 : decode b_MO_place 22 = .ok (.aload_n 0, 1) := by decide +kernel
theorem d_MO_place_23 : decode b_MO_place 23 = .ok (.iload 4, 2) := by decide +kernel
theorem d_MO_place_25 : decode b_MO_place 25 = .ok (.iload_n 3, 1) := by decide +kernel
theorem d_MO_place_26 : decode b_MO_place 26 = .ok (.sipush (-2000), 3) := by decide +kernel
theorem d_MO_place_29 : decode b_MO_place 29 = .ok (.sipush 10000, 3) := by decide +kernel
theorem d_MO_place_32 : decode b_MO_place 32 = .ok (.invokestatic 63, 3) := by decide +kernel
theorem d_MO_place_35 : decode b_MO_place 35 = .ok (.ifCond .ne 7, 3) := by decide +kernel
theorem d_MO_place_38 : decode b_MO_place 38 = .ok (.iconst 1, 1) := by decide +kernel
theorem d_MO_place_39 : decode b_MO_place 39 = .ok (.goto 4, 3) := by decide +kernel
theorem d_MO_place_42 : decode b_MO_place 42 = .ok (.iconst 0, 1) := by decide +kernel
theorem d_MO_place_43 : decode b_MO_place 43 = .ok (.iload 4, 2) := by decide +kernel
theorem d_MO_place_45 : decode b_MO_place 45 = .ok (.ifCond .ne 16, 3) := by decide +kernel
theorem d_MO_place_48 : decode b_MO_place 48 = .ok (.aload_n 0, 1) := by decide +kernel
theorem d_MO_place_49 : decode b_MO_place 49 = .ok (.iload_n 1, 1) := by decide +kernel
theorem d_MO_place_50 : decode b_MO_place 50 = .ok (.iload_n 2, 1) := by decide +kernel
theorem d_MO_place_51 : decode b_MO_place 51 = .ok (.invokevirtual 85, 3) := by decide +kernel
theorem d_MO_place_54 : decode b_MO_place 54 = .ok (.ifCond .ne 7, 3) := by decide +kernel
theorem d_MO_place_57 : decode b_MO_place 57 = .ok (.iconst 1, 1) := by decide +kernel
theorem d_MO_place_58 : decode b_MO_place 58 = .ok (.goto 4, 3) := by decide +kernel
theorem d_MO_place_61 : decode b_MO_place 61 = .ok (.iconst 0, 1) := by decide +kernel
theorem d_MO_place_62 : decode b_MO_place 62 = .ok (.iconst 0, 1) := by decide +kernel
theorem d_MO_place_63 : decode b_MO_place 63 = .ok (.invokevirtual 81, 3) := by decide +kernel
theorem d_MO_place_66 : decode b_MO_place 66 = .ok (.ifCond .eq 4, 3) := by decide +kernel
theorem d_MO_place_69 : decode b_MO_place 69 = .ok (.return_, 1) := by decide +kernel
theorem d_MO_place_70 : decode b_MO_place 70 = .ok (.aload_n 0, 1) := by decide +kernel
theorem d_MO_place_71 : decode b_MO_place 71 = .ok (.getfield 34, 3) := by decide +kernel
theorem d_MO_place_74 : decode b_MO_place 74 = .ok (.bipush 8, 2) := by decide +kernel
theorem d_MO_place_76 : decode b_MO_place 76 = .ok (.iload_n 1, 1) := by decide +kernel
theorem d_MO_place_77 : decode b_MO_place 77 = .ok (.imul, 1) := by decide +kernel
theorem d_MO_place_78 : decode b_MO_place 78 = .ok (.iload_n 2, 1) := by decide +kernel
theorem d_MO_place_79 : decode b_MO_place 79 = .ok (.iadd, 1) := by decide +kernel
theorem d_MO_place_80 : decode b_MO_place 80 = .ok (.iload_n 3, 1) := by decide +kernel
theorem d_MO_place_81 : decode b_MO_place 81 = .ok (.iastore, 1) := by decide +kernel
theorem d_MO_place_82 : decode b_MO_place 82 = .ok (.return_, 1) := by decide +kernel
theorem d_MO_isSomewhere_0 : decode b_MO_isSomewhere 0 = .ok (.aload_n 0, 1) := by decide +kernel
theorem d_MO_isSomewhere_1 : decode b_MO_isSomewhere 1 = .ok (.getfield 16, 3) := by decide +kernel
theorem d_MO_isSomewhere_4 : decode b_MO_isSomewhere 4 = .ok (.iload_n 1, 1) := by decide +kernel
theorem d_MO_isSomewhere_5 : decode b_MO_isSomewhere 5 = .ok (.iaload, 1) := by decide +kernel
theorem d_MO_isSomewhere_6 : decode b_MO_isSomewhere 6 = .ok (.ifCond .le 7, 3) := by decide +kernel
theorem d_MO_isSomewhere_9 : decode b_MO_isSomewhere 9 = .ok (.iconst 1, 1) := by decide +kernel
theorem d_MO_isSomewhere_10 : decode b_MO_isSomewhere 10 = .ok (.goto 4, 3) := by decide +kernel
theorem d_MO_isSomewhere_13 : decode b_MO_isSomewhere 13 = .ok (.iconst 0, 1) := by decide +kernel
theorem d_MO_isSomewhere_14 : decode b_MO_isSomewhere 14 = .ok (.istore_n 2, 1) := by decide +kernel
theorem d_MO_isSomewhere_15 : decode b_MO_isSomewhere 15 = .ok (.iconst 0, 1) := by decide +kernel
theorem d_MO_isSomewhere_16 : decode b_MO_isSomewhere 16 = .ok (.istore_n 3, 1) := by decide +kernel
theorem d_MO_isSomewhere_17 : decode b_MO_isSomewhere 17 = .ok (.iload_n 3, 1) := by decide +kernel
theorem d_MO_isSomewhere_18 : decode b_MO_isSomewhere 18 = .ok (.sipush 128, 3) := by decide +kernel
theorem d_MO_isSomewhere_21 : decode b_MO_isSomewhere 21 = .ok (.if_icmp .ge 33, 3) := by decide +kernel
theorem d_MO_isSomewhere_24 : decode b_MO_isSomewhere 24 = .ok (.iload_n 2, 1) := by decide +kernel
theorem d_MO_isSomewhere_25 : decode b_MO_isSomewhere 25 = .ok (.ifCond .ne 17, 3) := by decide +kernel
theorem d_MO_isSomewhere_28 : decode b_MO_isSomewhere 28 = .ok (.aload_n 0, 1) := by decide +kernel
theorem d_MO_isSomewhere_29 : decode b_MO_isSomewhere 29 = .ok (.getfield 47, 3) := by decide +kernel
theorem d_MO_isSomewhere_32 : decode b_MO_isSomewhere 32 = .ok (.bipush 30, 2) := by decide +kernel
theorem d_MO_isSomewhere_34 : decode b_MO_isSomewhere 34 = .ok (.iload_n 3, 1) := by decide +kernel
theorem d_MO_isSomewhere_35 : decode b_MO_isSomewhere 35 = .ok (.imul, 1) := by decide +kernel
theorem d_MO_isSomewhere_36 : decode b_MO_isSomewhere 36 = .ok (.iload_n 1, 1) := by decide +kernel
theorem d_MO_isSomewhere_37 : decode b_MO_isSomewhere 37 = .ok (.iadd, 1) := by decide +kernel
theorem d_MO_isSomewhere_38 : decode b_MO_isSomewhere 38 = .ok (.iaload, 1) := by decide +kernel
theorem d_MO_isSomewhere_39 : decode b_MO_isSomewhere 39 = .ok (.ifCond .le 7, 3) := by decide +kernel
theorem d_MO_isSomewhere_42 : decode b_MO_isSomewhere 42 = .ok (.iconst 1, 1) := by decide +kernel
theorem d_MO_isSomewhere_43 : decode b_MO_isSomewhere 43 = .ok (.goto 4, 3) := by decide +kernel
theorem d_MO_isSomewhere_46 : decode b_MO_isSomewhere 46 = .ok (.iconst 0, 1) := by decide +kernel
theorem d_MO_isSomewhere_47 : decode b_MO_isSomewhere 47 = .ok (.istore_n 2, 1) := by decide +kernel
theorem d_MO_isSomewhere_48 : decode b_MO_isSomewhere 48 = .ok (.iinc 3 1, 3) := by decide +kernel
theorem d_MO_isSomewhere_51 : decode b_MO_isSomewhere 51 = .ok (.goto (-34), 3) := by decide +kernel
theorem d_MO_isSomewhere_54 : decode b_MO_isSomewhere 54 = .ok (.iload_n 2, 1) := by decide +kernel
theorem d_MO_isSomewhere_55 : decode b_MO_isSomewhere 55 = .ok (.ireturn, 1) := by decide +kernel
theorem d_MO_item_0 : decode b_MO_item 0 = .ok (.iload_n 1, 1) := by decide +kernel
theorem d_MO_item_1 : decode b_MO_item 1 = .ok (.invokestatic 74, 3) := by decide +kernel
theorem d_MO_item_4 : decode b_MO_item 4 = .ok (.ifCond .ne 7, 3) := by decide +kernel
theorem d_MO_item_7 : decode b_MO_item 7 = .ok (.iconst 1, 1) := by decide +kernel
theorem d_MO_item_8 : decode b_MO_item 8 = .ok (.goto 4, 3) := by decide +kernel
theorem d_MO_item_11 : decode b_MO_item 11 = .ok (.iconst 0, 1) := by decide +kernel
theorem d_MO_item_12 : decode b_MO_item 12 = .ok (.istore 4, 2) := by decide +kernel
theorem d_MO_item_14 : decode b_MO_item 14 = .ok (.iload_n 2, 1) := by decide +kernel
theorem d_MO_item_15 : decode b_MO_item 15 = .ok (.iconst 0, 1) := by decide +kernel
theorem d_MO_item_16 : decode b_MO_item 16 = .ok (.ldc 89, 2) := by decide +kernel
theorem d_MO_item_18 : decode b_MO_item 18 = .ok (.invokestatic 63, 3) := by decide +kernel
theorem d_MO_item_21 : decode b_MO_item 21 = .ok (.ifCond .eq 13, 3) := by decide +kernel
theorem d_MO_item_24 : decode b_MO_item 24 = .ok (.iload_n 3, 1) := by decide +kernel
theorem d_MO_item_25 : decode b_MO_item 25 = .ok (.iconst 0, 1) := by decide +kernel
theorem d_MO_item_26 : decode b_MO_item 26 = .ok (.bipush 100, 2) := by decide +kernel
theorem d_MO_item_28 : decode b_MO_item 28 = .ok (.invokestatic 63, 3) := by decide +kernel
theorem d_MO_item_31 : decode b_MO_item 31 = .ok (.ifCond .ne 7, 3) := by decide +kernel
theorem d_MO_item_34 : decode b_MO_item 34 = .ok (.iconst 1, 1) := by decide +kernel
theorem d_MO_item_35 : decode b_MO_item 35 = .ok (.goto 4, 3) := by decide +kernel
theorem d_MO_item_38 : decode b_MO_item 38 = .ok (.iconst 0, 1) := by decide +kernel
theorem d_MO_item_39 : decode b_MO_item 39 = .ok (.istore 5, 2) := by decide +kernel
theorem d_MO_item_41 : decode b_MO_item 41 = .ok (.aload_n 0, 1) := by decide +kernel
theorem d_MO_item_42 : decode b_MO_item 42 = .ok (.iload 4, 2) := by decide +kernel
theorem d_MO_item_44 : decode b_MO_item 44 = .ok (.iload 5, 2) := by decide +kernel
theorem d_MO_item_46 : decode b_MO_item 46 = .ok (.iload 4, 2) := by decide +kernel
theorem d_MO_item_48 : decode b_MO_item 48 = .ok (.ifCond .ne 25, 3) := by decide +kernel
theorem d_MO_item_51 : decode b_MO_item 51 = .ok (.iload_n 2, 1) := by decide +kernel
theorem d_MO_item_52 : decode b_MO_item 52 = .ok (.aload_n 0, 1) := by decide +kernel
theorem d_MO_item_53 : decode b_MO_item 53 = .ok (.getfield 7, 3) := by decide +kernel
theorem d_MO_item_56 : decode b_MO_item 56 = .ok (.iload_n 1, 1) := by decide +kernel
theorem d_MO_item_57 : decode b_MO_item 57 = .ok (.iaload, 1) := by decide +kernel
theorem d_MO_item_58 : decode b_MO_item 58 = .ok (.if_icmp .eq 15, 3) := by decide +kernel
theorem d_MO_item_61 : decode b_MO_item 61 = .ok (.aload_n 0, 1) := by decide +kernel
theorem d_MO_item_62 : decode b_MO_item 62 = .ok (.iload_n 1, 1) := by decide +kernel
theorem d_MO_item_63 : decode b_MO_item 63 = .ok (.invokevirtual 90, 3) := by decide +kernel
theorem d_MO_item_66 : decode b_MO_item 66 = .ok (.ifCond .eq 7, 3) := by decide +kernel
theorem d_MO_item_69 : decode b_MO_item 69 = .ok (.iconst 1, 1) := by decide +kernel
theorem d_MO_item_70 : decode b_MO_item 70 = .ok (.goto 4, 3) := by decide +kernel
theorem d_MO_item_73 : decode b_MO_item 73 = .ok (.iconst 0, 1) := by decide +kernel
theorem d_MO_item_74 : decode b_MO_item 74 = .ok (.iconst 0, 1) := by decide +kernel
theorem d_MO_item_75 : decode b_MO_item 75 = .ok (.invokevirtual 81, 3) := by decide +kernel
theorem d_MO_item_78 : decode b_MO_item 78 = .ok (.ifCond .eq 4, 3) := by decide +kernel
theorem d_MO_item_81 : decode b_MO_item 81 = .ok (.return_, 1) := by decide +kernel
theorem d_MO_item_82 : decode b_MO_item 82 = .ok (.aload_n 0, 1) := by decide +kernel
theorem d_MO_item_83 : decode b_MO_item 83 = .ok (.getfield 7, 3) := by decide +kernel
theorem d_MO_item_86 : decode b_MO_item 86 = .ok (.iload_n 1, 1) := by decide +kernel
theorem d_MO_item_87 : decode b_MO_item 87 = .ok (.iload_n 2, 1) := by decide +kernel
theorem d_MO_item_88 : decode b_MO_item 88 = .ok (.iastore, 1) := by decide +kernel
theorem d_MO_item_89 : decode b_MO_item 89 = .ok (.aload_n 0, 1) := by decide +kernel
theorem d_MO_item_90 : decode b_MO_item 90 = .ok (.getfield 13, 3) := by decide +kernel
theorem d_MO_item_93 : decode b_MO_item 93 = .ok (.iload_n 1, 1) := by decide +kernel
theorem d_MO_item_94 : decode b_MO_item 94 = .ok (.iload_n 3, 1) := by decide +kernel
theorem d_MO_item_95 : decode b_MO_item 95 = .ok (.iastore, 1) := by decide +kernel
theorem d_MO_item_96 : decode b_MO_item 96 = .ok (.return_, 1) := by decide +kernel
theorem d_MO_list_0 : decode b_MO_list 0 = .ok (.aload_n 0, 1) := by decide +kernel
theorem d_MO_list_1 : decode b_MO_list 1 = .ok (.iload_n 1, 1) := by decide +kernel
theorem d_MO_list_2 : decode b_MO_list 2 = .ok (.iconst 0, 1) := by decide +kernel
theorem d_MO_list_3 : decode b_MO_list 3 = .ok (.iconst 5, 1) := by decide +kernel
theorem d_MO_list_4 : decode b_MO_list 4 = .ok (.invokestatic 63, 3) := by decide +kernel
theorem d_MO_list_7 : decode b_MO_list 7 = .ok (.ifCond .eq 17, 3) := by decide +kernel
theorem d_MO_list_10 : decode b_MO_list 10 = .ok (.iload_n 2, 1) := by decide +kernel
theorem d_MO_list_11 : decode b_MO_list 11 = .ok (.invokestatic 71, 3) := by decide +kernel
theorem d_MO_list_14 : decode b_MO_list 14 = .ok (.ifCond .eq 10, 3) := by decide +kernel
theorem d_MO_list_17 : decode b_MO_list 17 = .ok (.iload_n 3, 1) := by decide +kernel
theorem d_MO_list_18 : decode b_MO_list 18 = .ok (.invokestatic 74, 3) := by decide +kernel
theorem d_MO_list_21 : decode b_MO_list 21 = .ok (.ifCond .ne 7, 3) := by decide +kernel
theorem d_MO_list_24 : decode b_MO_list 24 = .ok (.iconst 1, 1) := by decide +kernel
theorem d_MO_list_25 : decode b_MO_list 25 = .ok (.goto 4, 3) := by decide +kernel
theorem d_MO_list_28 : decode b_MO_list 28 = .ok (.iconst 0, 1) := by decide +kernel
theorem d_MO_list_29 : decode b_MO_list 29 = .ok (.iload 4, 2) := by decide +kernel
theorem d_MO_list_31 : decode b_MO_list 31 = .ok (.iconst 0, 1) := by decide +kernel
theorem d_MO_list_32 : decode b_MO_list 32 = .ok (.bipush 99, 2) := by decide +kernel
theorem d_MO_list_34 : decode b_MO_list 34 = .ok (.invokestatic 63, 3) := by decide +kernel
theorem d_MO_list_37 : decode b_MO_list 37 = .ok (.ifCond .ne 7, 3) := by decide +kernel
theorem d_MO_list_40 : decode b_MO_list 40 = .ok (.iconst 1, 1) := by decide +kernel
theorem d_MO_list_41 : decode b_MO_list 41 = .ok (.goto 4, 3) := by decide +kernel
theorem d_MO_list_44 : decode b_MO_list 44 = .ok (.iconst 0, 1) := by decide +kernel
theorem d_MO_list_45 : decode b_MO_list 45 = .ok (.iconst 0, 1) := by decide +kernel
theorem d_MO_list_46 : decode b_MO_list 46 = .ok (.iconst 0, 1) := by decide +kernel
theorem d_MO_list_47 : decode b_MO_list 47 = .ok (.invokevirtual 81, 3) := by decide +kernel
theorem d_MO_list_50 : decode b_MO_list 50 = .ok (.ifCond .eq 4, 3) := by decide +kernel
theorem d_MO_list_53 : decode b_MO_list 53 = .ok (.return_, 1) := by decide +kernel
theorem d_MO_list_54 : decode b_MO_list 54 = .ok (.aload_n 0, 1) := by decide +kernel
theorem d_MO_list_55 : decode b_MO_list 55 = .ok (.getfield 50, 3) := by decide +kernel
theorem d_MO_list_58 : decode b_MO_list 58 = .ok (.sipush 240, 3) := by decide +kernel
theorem d_MO_list_61 : decode b_MO_list 61 = .ok (.iload_n 1, 1) := by decide +kernel
theorem d_MO_list_62 : decode b_MO_list 62 = .ok (.imul, 1) := by decide +kernel
theorem d_MO_list_63 : decode b_MO_list 63 = .ok (.bipush 30, 2) := by decide +kernel
theorem d_MO_list_65 : decode b_MO_list 65 = .ok (.iload_n 2, 1) := by decide +kernel
theorem d_MO_list_66 : decode b_MO_list 66 = .ok (.imul, 1) := by decide +kernel
theorem d_MO_list_67 : decode b_MO_list 67 = .ok (.iadd, 1) := by decide +kernel
theorem d_MO_list_68 : decode b_MO_list 68 = .ok (.iload_n 3, 1) := by decide +kernel
theorem d_MO_list_69 : decode b_MO_list 69 = .ok (.iadd, 1) := by decide +kernel
theorem d_MO_list_70 : decode b_MO_list 70 = .ok (.iload 4, 2) := by decide +kernel
theorem d_MO_list_72 : decode b_MO_list 72 = .ok (.iastore, 1) := by decide +kernel
theorem d_MO_list_73 : decode b_MO_list 73 = .ok (.return_, 1) := by decide +kernel
theorem d_MO_stock_0 : decode b_MO_stock 0 = .ok (.iload_n 1, 1) := by decide +kernel
theorem d_MO_stock_1 : decode b_MO_stock 1 = .ok (.invokestatic 74, 3) := by decide +kernel
theorem d_MO_stock_4 : decode b_MO_stock 4 = .ok (.ifCond .ne 7, 3) := by decide +kernel
theorem d_MO_stock_7 : decode b_MO_stock 7 = .ok (.iconst 1, 1) := by decide +kernel
theorem d_MO_stock_8 : decode b_MO_stock 8 = .ok (.goto 4, 3) := by decide +kernel
theorem d_MO_stock_11 : decode b_MO_stock 11 = .ok (.iconst 0, 1) := by decide +kernel
theorem d_MO_stock_12 : decode b_MO_stock 12 = .ok (.istore_n 3, 1) := by decide +kernel
theorem d_MO_stock_13 : decode b_MO_stock 13 = .ok (.iload_n 2, 1) := by decide +kernel
theorem d_MO_stock_14 : decode b_MO_stock 14 = .ok (.iconst 1, 1) := by decide +kernel
theorem d_MO_stock_15 : decode b_MO_stock 15 = .ok (.bipush 99, 2) := by decide +kernel
theorem d_MO_stock_17 : decode b_MO_stock 17 = .ok (.invokestatic 63, 3) := by decide +kernel
theorem d_MO_stock_20 : decode b_MO_stock 20 = .ok (.ifCond .ne 7, 3) := by decide +kernel
theorem d_MO_stock_23 : decode b_MO_stock 23 = .ok (.iconst 1, 1) := by decide +kernel
theorem d_MO_stock_24 : decode b_MO_stock 24 = .ok (.goto 4, 3) := by decide +kernel
theorem d_MO_stock_27 : decode b_MO_stock 27 = .ok (.iconst 0, 1) := by decide +kernel
theorem d_MO_stock_28 : decode b_MO_stock 28 = .ok (.istore 4, 2) := by decide +kernel
theorem d_MO_stock_30 : decode b_MO_stock 30 = .ok (.aload_n 0, 1) := by decide +kernel
theorem d_MO_stock_31 : decode b_MO_stock 31 = .ok (.iload_n 3, 1) := by decide +kernel
theorem d_MO_stock_32 : decode b_MO_stock 32 = .ok (.iload 4, 2) := by decide +kernel
theorem d_MO_stock_34 : decode b_MO_stock 34 = .ok (.iload_n 3, 1) := by decide +kernel
theorem d_MO_stock_35 : decode b_MO_stock 35 = .ok (.ifCond .ne 26, 3) := by decide +kernel
theorem d_MO_stock_38 : decode b_MO_stock 38 = .ok (.iload 4, 2) := by decide +kernel
theorem d_MO_stock_40 : decode b_MO_stock 40 = .ok (.ifCond .ne 21, 3) := by decide +kernel
theorem d_MO_stock_43 : decode b_MO_stock 43 = .ok (.aload_n 0, 1) := by decide +kernel
theorem d_MO_stock_44 : decode b_MO_stock 44 = .ok (.getfield 16, 3) := by decide +kernel
theorem d_MO_stock_47 : decode b_MO_stock 47 = .ok (.iload_n 1, 1) := by decide +kernel
theorem d_MO_stock_48 : decode b_MO_stock 48 = .ok (.iaload, 1) := by decide +kernel
theorem d_MO_stock_49 : decode b_MO_stock 49 = .ok (.iload_n 2, 1) := by decide +kernel
theorem d_MO_stock_50 : decode b_MO_stock 50 = .ok (.iadd, 1) := by decide +kernel
theorem d_MO_stock_51 : decode b_MO_stock 51 = .ok (.sipush 10000, 3) := by decide +kernel
theorem d_MO_stock_54 : decode b_MO_stock 54 = .ok (.if_icmp .le 7, 3) := by decide +kernel
theorem d_MO_stock_57 : decode b_MO_stock 57 = .ok (.iconst 1, 1) := by decide +kernel
theorem d_MO_stock_58 : decode b_MO_stock 58 = .ok (.goto 4, 3) := by decide +kernel
theorem d_MO_stock_61 : decode b_MO_stock 61 = .ok (.iconst 0, 1) := by decide +kernel
theorem d_MO_stock_62 : decode b_MO_stock 62 = .ok (.iconst 0, 1) := by decide +kernel
theorem d_MO_stock_63 : decode b_MO_stock 63 = .ok (.invokevirtual 81, 3) := by decide +kernel
theorem d_MO_stock_66 : decode b_MO_stock 66 = .ok (.ifCond .eq 5, 3) := by decide +kernel
theorem d_MO_stock_69 : decode b_MO_stock 69 = .ok (.iconst 0, 1) := by decide +kernel
theorem d_MO_stock_70 : decode b_MO_stock 70 = .ok (.ireturn, 1) := by decide +kernel
theorem d_MO_stock_71 : decode b_MO_stock 71 = .ok (.aload_n 0, 1) := by decide +kernel
theorem d_MO_stock_72 : decode b_MO_stock 72 = .ok (.getfield 16, 3) := by decide +kernel
theorem d_MO_stock_75 : decode b_MO_stock 75 = .ok (.iload_n 1, 1) := by decide +kernel
theorem d_MO_stock_76 : decode b_MO_stock 76 = .ok (.dup2, 1) := by decide +kernel
theorem d_MO_stock_77 : decode b_MO_stock 77 = .ok (.iaload, 1) := by decide +kernel
theorem d_MO_stock_78 : decode b_MO_stock 78 = .ok (.iload_n 2, 1) := by decide +kernel
theorem d_MO_stock_79 : decode b_MO_stock 79 = .ok (.iadd, 1) := by decide +kernel
theorem d_MO_stock_80 : decode b_MO_stock 80 = .ok (.iastore, 1) := by decide +kernel
theorem d_MO_stock_81 : decode b_MO_stock 81 = .ok (.aload_n 0, 1) := by decide +kernel
theorem d_MO_stock_82 : decode b_MO_stock 82 = .ok (.getfield 16, 3) := by decide +kernel
theorem d_MO_stock_85 : decode b_MO_stock 85 = .ok (.iload_n 1, 1) := by decide +kernel
theorem d_MO_stock_86 : decode b_MO_stock 86 = .ok (.iaload, 1) := by decide +kernel
theorem d_MO_stock_87 : decode b_MO_stock 87 = .ok (.ireturn, 1) := by decide +kernel
theorem d_MO_sumOf_0 : decode b_MO_sumOf 0 = .ok (.lconst 0, 1) := by decide +kernel
theorem d_MO_sumOf_1 : decode b_MO_sumOf 1 = .ok (.lstore_n 2, 1) := by decide +kernel
theorem d_MO_sumOf_2 : decode b_MO_sumOf 2 = .ok (.iconst 0, 1) := by decide +kernel
theorem d_MO_sumOf_3 : decode b_MO_sumOf 3 = .ok (.istore 4, 2) := by decide +kernel
theorem d_MO_sumOf_5 : decode b_MO_sumOf 5 = .ok (.iload 4, 2) := by decide +kernel
theorem d_MO_sumOf_7 : decode b_MO_sumOf 7 = .ok (.sipush 240, 3) := by decide +kernel
theorem d_MO_sumOf_10 : decode b_MO_sumOf 10 = .ok (.if_icmp .ge 38, 3) := by decide +kernel
theorem d_MO_sumOf_13 : decode b_MO_sumOf 13 = .ok (.lload_n 2, 1) := by decide +kernel
theorem d_MO_sumOf_14 : decode b_MO_sumOf 14 = .ok (.aload_n 0, 1) := by decide +kernel
theorem d_MO_sumOf_15 : decode b_MO_sumOf 15 = .ok (.getfield 7, 3) := by decide +kernel
theorem d_MO_sumOf_18 : decode b_MO_sumOf 18 = .ok (.iload 4, 2) := by decide +kernel
theorem d_MO_sumOf_20 : decode b_MO_sumOf 20 = .ok (.bipush 30, 2) := by decide +kernel
theorem d_MO_sumOf_22 : decode b_MO_sumOf 22 = .ok (.irem, 1) := by decide +kernel
theorem d_MO_sumOf_23 : decode b_MO_sumOf 23 = .ok (.iaload, 1) := by decide +kernel
theorem d_MO_sumOf_24 : decode b_MO_sumOf 24 = .ok (.i2l, 1) := by decide +kernel
theorem d_MO_sumOf_25 : decode b_MO_sumOf 25 = .ok (.aload_n 0, 1) := by decide +kernel
theorem d_MO_sumOf_26 : decode b_MO_sumOf 26 = .ok (.getfield 47, 3) := by decide +kernel
theorem d_MO_sumOf_29 : decode b_MO_sumOf 29 = .ok (.sipush 240, 3) := by decide +kernel
theorem d_MO_sumOf_32 : decode b_MO_sumOf 32 = .ok (.iload_n 1, 1) := by decide +kernel
theorem d_MO_sumOf_33 : decode b_MO_sumOf 33 = .ok (.imul, 1) := by decide +kernel
theorem d_MO_sumOf_34 : decode b_MO_sumOf 34 = .ok (.iload 4, 2) := by decide +kernel
theorem d_MO_sumOf_36 : decode b_MO_sumOf 36 = .ok (.iadd, 1) := by decide +kernel
theorem d_MO_sumOf_37 : decode b_MO_sumOf 37 = .ok (.iaload, 1) := by decide +kernel
theorem d_MO_sumOf_38 : decode b_MO_sumOf 38 = .ok (.i2l, 1) := by decide +kernel
theorem d_MO_sumOf_39 : decode b_MO_sumOf 39 = .ok (.lmul, 1) := by decide +kernel
theorem d_MO_sumOf_40 : decode b_MO_sumOf 40 = .ok (.ladd, 1) := by decide +kernel
theorem d_MO_sumOf_41 : decode b_MO_sumOf 41 = .ok (.lstore_n 2, 1) := by decide +kernel
theorem d_MO_sumOf_42 : decode b_MO_sumOf 42 = .ok (.iinc 4 1, 3) := by decide +kernel
theorem d_MO_sumOf_45 : decode b_MO_sumOf 45 = .ok (.goto (-40), 3) := by decide +kernel
theorem d_MO_sumOf_48 : decode b_MO_sumOf 48 = .ok (.lload_n 2, 1) := by decide +kernel
theorem d_MO_sumOf_49 : decode b_MO_sumOf 49 = .ok (.lreturn, 1) := by decide +kernel
theorem d_MO_momentOf_0 : decode b_MO_momentOf 0 = .ok (.lconst 0, 1) := by decide +kernel
theorem d_MO_momentOf_1 : decode b_MO_momentOf 1 = .ok (.lstore_n 2, 1) := by decide +kernel
theorem d_MO_momentOf_2 : decode b_MO_momentOf 2 = .ok (.iconst 0, 1) := by decide +kernel
theorem d_MO_momentOf_3 : decode b_MO_momentOf 3 = .ok (.istore 4, 2) := by decide +kernel
theorem d_MO_momentOf_5 : decode b_MO_momentOf 5 = .ok (.iload 4, 2) := by decide +kernel
theorem d_MO_momentOf_7 : decode b_MO_momentOf 7 = .ok (.sipush 240, 3) := by decide +kernel
theorem d_MO_momentOf_10 : decode b_MO_momentOf 10 = .ok (.if_icmp .ge 55, 3) := by decide +kernel
theorem d_MO_momentOf_13 : decode b_MO_momentOf 13 = .ok (.lload_n 2, 1) := by decide +kernel
theorem d_MO_momentOf_14 : decode b_MO_momentOf 14 = .ok (.aload_n 0, 1) := by decide +kernel
theorem d_MO_momentOf_15 : decode b_MO_momentOf 15 = .ok (.getfield 7, 3) := by decide +kernel
theorem d_MO_momentOf_18 : decode b_MO_momentOf 18 = .ok (.iload 4, 2) := by decide +kernel
theorem d_MO_momentOf_20 : decode b_MO_momentOf 20 = .ok (.bipush 30, 2) := by decide +kernel
theorem d_MO_momentOf_22 : decode b_MO_momentOf 22 = .ok (.irem, 1) := by decide +kernel
theorem d_MO_momentOf_23 : decode b_MO_momentOf 23 = .ok (.iaload, 1) := by decide +kernel
theorem d_MO_momentOf_24 : decode b_MO_momentOf 24 = .ok (.i2l, 1) := by decide +kernel
theorem d_MO_momentOf_25 : decode b_MO_momentOf 25 = .ok (.aload_n 0, 1) := by decide +kernel
theorem d_MO_momentOf_26 : decode b_MO_momentOf 26 = .ok (.getfield 47, 3) := by decide +kernel
theorem d_MO_momentOf_29 : decode b_MO_momentOf 29 = .ok (.sipush 240, 3) := by decide +kernel
theorem d_MO_momentOf_32 : decode b_MO_momentOf 32 = .ok (.iload_n 1, 1) := by decide +kernel
theorem d_MO_momentOf_33 : decode b_MO_momentOf 33 = .ok (.imul, 1) := by decide +kernel
theorem d_MO_momentOf_34 : decode b_MO_momentOf 34 = .ok (.iload 4, 2) := by decide +kernel
theorem d_MO_momentOf_36 : decode b_MO_momentOf 36 = .ok (.iadd, 1) := by decide +kernel
theorem d_MO_momentOf_37 : decode b_MO_momentOf 37 = .ok (.iaload, 1) := by decide +kernel
theorem d_MO_momentOf_38 : decode b_MO_momentOf 38 = .ok (.i2l, 1) := by decide +kernel
theorem d_MO_momentOf_39 : decode b_MO_momentOf 39 = .ok (.lmul, 1) := by decide +kernel
theorem d_MO_momentOf_40 : decode b_MO_momentOf 40 = .ok (.aload_n 0, 1) := by decide +kernel
theorem d_MO_momentOf_41 : decode b_MO_momentOf 41 = .ok (.getfield 34, 3) := by decide +kernel
theorem d_MO_momentOf_44 : decode b_MO_momentOf 44 = .ok (.bipush 8, 2) := by decide +kernel
theorem d_MO_momentOf_46 : decode b_MO_momentOf 46 = .ok (.iload_n 1, 1) := by decide +kernel
theorem d_MO_momentOf_47 : decode b_MO_momentOf 47 = .ok (.imul, 1) := by decide +kernel
theorem d_MO_momentOf_48 : decode b_MO_momentOf 48 = .ok (.iload 4, 2) := by decide +kernel
theorem d_MO_momentOf_50 : decode b_MO_momentOf 50 = .ok (.bipush 30, 2) := by decide +kernel
theorem d_MO_momentOf_52 : decode b_MO_momentOf 52 = .ok (.idiv, 1) := by decide +kernel
theorem d_MO_momentOf_53 : decode b_MO_momentOf 53 = .ok (.iadd, 1) := by decide +kernel
theorem d_MO_momentOf_54 : decode b_MO_momentOf 54 = .ok (.iaload, 1) := by decide +kernel
theorem d_MO_momentOf_55 : decode b_MO_momentOf 55 = .ok (.i2l, 1) := by decide +kernel
theorem d_MO_momentOf_56 : decode b_MO_momentOf 56 = .ok (.lmul, 1) := by decide +kernel
theorem d_MO_momentOf_57 : decode b_MO_momentOf 57 = .ok (.ladd, 1) := by decide +kernel
theorem d_MO_momentOf_58 : decode b_MO_momentOf 58 = .ok (.lstore_n 2, 1) := by decide +kernel
theorem d_MO_momentOf_59 : decode b_MO_momentOf 59 = .ok (.iinc 4 1, 3) := by decide +kernel
theorem d_MO_momentOf_62 : decode b_MO_momentOf 62 = .ok (.goto (-57), 3) := by decide +kernel
theorem d_MO_momentOf_65 : decode b_MO_momentOf 65 = .ok (.lload_n 2, 1) := by decide +kernel
theorem d_MO_momentOf_66 : decode b_MO_momentOf 66 = .ok (.lreturn, 1) := by decide +kernel
theorem d_MO_bears_0 : decode b_MO_bears 0 = .ok (.iload_n 2, 1) := by decide +kernel
theorem d_MO_bears_1 : decode b_MO_bears 1 = .ok (.ifCond .eq 11, 3) := by decide +kernel
theorem d_MO_bears_4 : decode b_MO_bears 4 = .ok (.aload_n 0, 1) := by decide +kernel
theorem d_MO_bears_5 : decode b_MO_bears 5 = .ok (.iload_n 1, 1) := by decide +kernel
theorem d_MO_bears_6 : decode b_MO_bears 6 = .ok (.invokevirtual 93, 3) := by decide +kernel
theorem d_MO_bears_9 : decode b_MO_bears 9 = .ok (.goto 22, 3) := by decide +kernel
theorem d_MO_bears_12 : decode b_MO_bears 12 = .ok (.aload_n 0, 1) := by decide +kernel
theorem d_MO_bears_13 : decode b_MO_bears 13 = .ok (.iload_n 1, 1) := by decide +kernel
theorem d_MO_bears_14 : decode b_MO_bears 14 = .ok (.invokevirtual 97, 3) := by decide +kernel
theorem d_MO_bears_17 : decode b_MO_bears 17 = .ok (.aload_n 0, 1) := by decide +kernel
theorem d_MO_bears_18 : decode b_MO_bears 18 = .ok (.getfield 22, 3) := by decide +kernel
theorem d_MO_bears_21 : decode b_MO_bears 21 = .ok (.iload_n 1, 1) := by decide +kernel
theorem d_MO_bears_22 : decode b_MO_bears 22 = .ok (.iaload, 1) := by decide +kernel
theorem d_MO_bears_23 : decode b_MO_bears 23 = .ok (.i2l, 1) := by decide +kernel
theorem d_MO_bears_24 : decode b_MO_bears 24 = .ok (.lmul, 1) := by decide +kernel
theorem d_MO_bears_25 : decode b_MO_bears 25 = .ok (.aload_n 0, 1) := by decide +kernel
theorem d_MO_bears_26 : decode b_MO_bears 26 = .ok (.iload_n 1, 1) := by decide +kernel
theorem d_MO_bears_27 : decode b_MO_bears 27 = .ok (.invokevirtual 93, 3) := by decide +kernel
theorem d_MO_bears_30 : decode b_MO_bears 30 = .ok (.lsub, 1) := by decide +kernel
theorem d_MO_bears_31 : decode b_MO_bears 31 = .ok (.lreturn, 1) := by decide +kernel
theorem d_MO_isBeyond_0 : decode b_MO_isBeyond 0 = .ok (.aload_n 0, 1) := by decide +kernel
theorem d_MO_isBeyond_1 : decode b_MO_isBeyond 1 = .ok (.iload_n 1, 1) := by decide +kernel
theorem d_MO_isBeyond_2 : decode b_MO_isBeyond 2 = .ok (.iload_n 2, 1) := by decide +kernel
theorem d_MO_isBeyond_3 : decode b_MO_isBeyond 3 = .ok (.invokevirtual 100, 3) := by decide +kernel
theorem d_MO_isBeyond_6 : decode b_MO_isBeyond 6 = .ok (.iload_n 2, 1) := by decide +kernel
theorem d_MO_isBeyond_7 : decode b_MO_isBeyond 7 = .ok (.ifCond .eq 12, 3) := by decide +kernel
theorem d_MO_isBeyond_10 : decode b_MO_isBeyond 10 = .ok (.aload_n 0, 1) := by decide +kernel
theorem d_MO_isBeyond_11 : decode b_MO_isBeyond 11 = .ok (.getfield 28, 3) := by decide +kernel
theorem d_MO_isBeyond_14 : decode b_MO_isBeyond 14 = .ok (.iload_n 1, 1) := by decide +kernel
theorem d_MO_isBeyond_15 : decode b_MO_isBeyond 15 = .ok (.iaload, 1) := by decide +kernel
theorem d_MO_isBeyond_16 : decode b_MO_isBeyond 16 = .ok (.goto 9, 3) := by decide +kernel
theorem d_MO_isBeyond_19 : decode b_MO_isBeyond 19 = .ok (.aload_n 0, 1) := by decide +kernel
theorem d_MO_isBeyond_20 : decode b_MO_isBeyond 20 = .ok (.getfield 25, 3) := by decide +kernel
theorem d_MO_isBeyond_23 : decode b_MO_isBeyond 23 = .ok (.iload_n 1, 1) := by decide +kernel
theorem d_MO_isBeyond_24 : decode b_MO_isBeyond 24 = .ok (.iaload, 1) := by decide +kernel
theorem d_MO_isBeyond_25 : decode b_MO_isBeyond 25 = .ok (.i2l, 1) := by decide +kernel
theorem d_MO_isBeyond_26 : decode b_MO_isBeyond 26 = .ok (.aload_n 0, 1) := by decide +kernel
theorem d_MO_isBeyond_27 : decode b_MO_isBeyond 27 = .ok (.getfield 22, 3) := by decide +kernel
theorem d_MO_isBeyond_30 : decode b_MO_isBeyond 30 = .ok (.iload_n 1, 1) := by decide +kernel
theorem d_MO_isBeyond_31 : decode b_MO_isBeyond 31 = .ok (.iaload, 1) := by decide +kernel
theorem d_MO_isBeyond_32 : decode b_MO_isBeyond 32 = .ok (.i2l, 1) := by decide +kernel
theorem d_MO_isBeyond_33 : decode b_MO_isBeyond 33 = .ok (.lmul, 1) := by decide +kernel
theorem d_MO_isBeyond_34 : decode b_MO_isBeyond 34 = .ok (.lcmp, 1) := by decide +kernel
theorem d_MO_isBeyond_35 : decode b_MO_isBeyond 35 = .ok (.ifCond .le 7, 3) := by decide +kernel
theorem d_MO_isBeyond_38 : decode b_MO_isBeyond 38 = .ok (.iconst 1, 1) := by decide +kernel
theorem d_MO_isBeyond_39 : decode b_MO_isBeyond 39 = .ok (.goto 4, 3) := by decide +kernel
theorem d_MO_isBeyond_42 : decode b_MO_isBeyond 42 = .ok (.iconst 0, 1) := by decide +kernel
theorem d_MO_isBeyond_43 : decode b_MO_isBeyond 43 = .ok (.ireturn, 1) := by decide +kernel
theorem d_MO_isTooMuch_0 : decode b_MO_isTooMuch 0 = .ok (.aload_n 0, 1) := by decide +kernel
theorem d_MO_isTooMuch_1 : decode b_MO_isTooMuch 1 = .ok (.iload_n 1, 1) := by decide +kernel
theorem d_MO_isTooMuch_2 : decode b_MO_isTooMuch 2 = .ok (.iconst 0, 1) := by decide +kernel
theorem d_MO_isTooMuch_3 : decode b_MO_isTooMuch 3 = .ok (.invokevirtual 100, 3) := by decide +kernel
theorem d_MO_isTooMuch_6 : decode b_MO_isTooMuch 6 = .ok (.lstore 5, 2) := by decide +kernel
theorem d_MO_isTooMuch_8 : decode b_MO_isTooMuch 8 = .ok (.aload_n 0, 1) := by decide +kernel
theorem d_MO_isTooMuch_9 : decode b_MO_isTooMuch 9 = .ok (.iload_n 1, 1) := by decide +kernel
theorem d_MO_isTooMuch_10 : decode b_MO_isTooMuch 10 = .ok (.iconst 1, 1) := by decide +kernel
theorem d_MO_isTooMuch_11 : decode b_MO_isTooMuch 11 = .ok (.invokevirtual 100, 3) := by decide +kernel
theorem d_MO_isTooMuch_14 : decode b_MO_isTooMuch 14 = .ok (.lstore 7, 2) := by decide +kernel
theorem d_MO_isTooMuch_16 : decode b_MO_isTooMuch 16 = .ok (.aload_n 0, 1) := by decide +kernel
theorem d_MO_isTooMuch_17 : decode b_MO_isTooMuch 17 = .ok (.getfield 47, 3) := by decide +kernel
theorem d_MO_isTooMuch_20 : decode b_MO_isTooMuch 20 = .ok (.sipush 240, 3) := by decide +kernel
theorem d_MO_isTooMuch_23 : decode b_MO_isTooMuch 23 = .ok (.iload_n 1, 1) := by decide +kernel
theorem d_MO_isTooMuch_24 : decode b_MO_isTooMuch 24 = .ok (.imul, 1) := by decide +kernel
theorem d_MO_isTooMuch_25 : decode b_MO_isTooMuch 25 = .ok (.bipush 30, 2) := by decide +kernel
theorem d_MO_isTooMuch_27 : decode b_MO_isTooMuch 27 = .ok (.iload_n 2, 1) := by decide +kernel
theorem d_MO_isTooMuch_28 : decode b_MO_isTooMuch 28 = .ok (.imul, 1) := by decide +kernel
theorem d_MO_isTooMuch_29 : decode b_MO_isTooMuch 29 = .ok (.iadd, 1) := by decide +kernel
theorem d_MO_isTooMuch_30 : decode b_MO_isTooMuch 30 = .ok (.iload_n 3, 1) := by decide +kernel
theorem d_MO_isTooMuch_31 : decode b_MO_isTooMuch 31 = .ok (.iadd, 1) := by decide +kernel
theorem d_MO_isTooMuch_32 : decode b_MO_isTooMuch 32 = .ok (.dup2, 1) := by decide +kernel
theorem d_MO_isTooMuch_33 : decode b_MO_isTooMuch 33 = .ok (.iaload, 1) := by decide +kernel
theorem d_MO_isTooMuch_34 : decode b_MO_isTooMuch 34 = .ok (.iload 4, 2) := by decide +kernel
theorem d_MO_isTooMuch_36 : decode b_MO_isTooMuch 36 = .ok (.iadd, 1) := by decide +kernel
theorem d_MO_isTooMuch_37 : decode b_MO_isTooMuch 37 = .ok (.iastore, 1) := by decide +kernel
theorem d_MO_isTooMuch_38 : decode b_MO_isTooMuch 38 = .ok (.aload_n 0, 1) := by decide +kernel
theorem d_MO_isTooMuch_39 : decode b_MO_isTooMuch 39 = .ok (.iload_n 1, 1) := by decide +kernel
theorem d_MO_isTooMuch_40 : decode b_MO_isTooMuch 40 = .ok (.iconst 0, 1) := by decide +kernel
theorem d_MO_isTooMuch_41 : decode b_MO_isTooMuch 41 = .ok (.invokevirtual 104, 3) := by decide +kernel
theorem d_MO_isTooMuch_44 : decode b_MO_isTooMuch 44 = .ok (.ifCond .eq 15, 3) := by decide +kernel
theorem d_MO_isTooMuch_47 : decode b_MO_isTooMuch 47 = .ok (.aload_n 0, 1) := by decide +kernel
theorem d_MO_isTooMuch_48 : decode b_MO_isTooMuch 48 = .ok (.iload_n 1, 1) := by decide +kernel
theorem d_MO_isTooMuch_49 : decode b_MO_isTooMuch 49 = .ok (.iconst 0, 1) := by decide +kernel
theorem d_MO_isTooMuch_50 : decode b_MO_isTooMuch 50 = .ok (.invokevirtual 100, 3) := by decide +kernel
theorem d_MO_isTooMuch_53 : decode b_MO_isTooMuch 53 = .ok (.lload 5, 2) := by decide +kernel
theorem d_MO_isTooMuch_55 : decode b_MO_isTooMuch 55 = .ok (.lcmp, 1) := by decide +kernel
theorem d_MO_isTooMuch_56 : decode b_MO_isTooMuch 56 = .ok (.ifCond .gt 24, 3) := by decide +kernel
theorem d_MO_isTooMuch_59 : decode b_MO_isTooMuch 59 = .ok (.aload_n 0, 1) := by decide +kernel
theorem d_MO_isTooMuch_60 : decode b_MO_isTooMuch 60 = .ok (.iload_n 1, 1) := by decide +kernel
theorem d_MO_isTooMuch_61 : decode b_MO_isTooMuch 61 = .ok (.iconst 1, 1) := by decide +kernel
theorem d_MO_isTooMuch_62 : decode b_MO_isTooMuch 62 = .ok (.invokevirtual 104, 3) := by decide +kernel
theorem d_MO_isTooMuch_65 : decode b_MO_isTooMuch 65 = .ok (.ifCond .eq 19, 3) := by decide +kernel
theorem d_MO_isTooMuch_68 : decode b_MO_isTooMuch 68 = .ok (.aload_n 0, 1) := by decide +kernel
theorem d_MO_isTooMuch_69 : decode b_MO_isTooMuch 69 = .ok (.iload_n 1, 1) := by decide +kernel
theorem d_MO_isTooMuch_70 : decode b_MO_isTooMuch 70 = .ok (.iconst 1, 1) := by decide +kernel
theorem d_MO_isTooMuch_71 : decode b_MO_isTooMuch 71 = .ok (.invokevirtual 100, 3) := by decide +kernel
theorem d_MO_isTooMuch_74 : decode b_MO_isTooMuch 74 = .ok (.lload 7, 2) := by decide +kernel
theorem d_MO_isTooMuch_76 : decode b_MO_isTooMuch 76 = .ok (.lcmp, 1) := by decide +kernel
theorem d_MO_isTooMuch_77 : decode b_MO_isTooMuch 77 = .ok (.ifCond .le 7, 3) := by decide +kernel
theorem d_MO_isTooMuch_80 : decode b_MO_isTooMuch 80 = .ok (.iconst 1, 1) := by decide +kernel
theorem d_MO_isTooMuch_81 : decode b_MO_isTooMuch 81 = .ok (.goto 4, 3) := by decide +kernel
theorem d_MO_isTooMuch_84 : decode b_MO_isTooMuch 84 = .ok (.iconst 0, 1) := by decide +kernel
theorem d_MO_isTooMuch_85 : decode b_MO_isTooMuch 85 = .ok (.istore 9, 2) := by decide +kernel
theorem d_MO_isTooMuch_87 : decode b_MO_isTooMuch 87 = .ok (.aload_n 0, 1) := by decide +kernel
theorem d_MO_isTooMuch_88 : decode b_MO_isTooMuch 88 = .ok (.getfield 47, 3) := by decide +kernel
theorem d_MO_isTooMuch_91 : decode b_MO_isTooMuch 91 = .ok (.sipush 240, 3) := by decide +kernel
theorem d_MO_isTooMuch_94 : decode b_MO_isTooMuch 94 = .ok (.iload_n 1, 1) := by decide +kernel
theorem d_MO_isTooMuch_95 : decode b_MO_isTooMuch 95 = .ok (.imul, 1) := by decide +kernel
theorem d_MO_isTooMuch_96 : decode b_MO_isTooMuch 96 = .ok (.bipush 30, 2) := by decide +kernel
theorem d_MO_isTooMuch_98 : decode b_MO_isTooMuch 98 = .ok (.iload_n 2, 1) := by decide +kernel
theorem d_MO_isTooMuch_99 : decode b_MO_isTooMuch 99 = .ok (.imul, 1) := by decide +kernel
theorem d_MO_isTooMuch_100 : decode b_MO_isTooMuch 100 = .ok (.iadd, 1) := by decide +kernel
theorem d_MO_isTooMuch_101 : decode b_MO_isTooMuch 101 = .ok (.iload_n 3, 1) := by decide +kernel
theorem d_MO_isTooMuch_102 : decode b_MO_isTooMuch 102 = .ok (.iadd, 1) := by decide +kernel
theorem d_MO_isTooMuch_103 : decode b_MO_isTooMuch 103 = .ok (.dup2, 1) := by decide +kernel
theorem d_MO_isTooMuch_104 : decode b_MO_isTooMuch 104 = .ok (.iaload, 1) := by decide +kernel
theorem d_MO_isTooMuch_105 : decode b_MO_isTooMuch 105 = .ok (.iload 4, 2) := by decide +kernel
theorem d_MO_isTooMuch_107 : decode b_MO_isTooMuch 107 = .ok (.isub, 1) := by decide +kernel
theorem d_MO_isTooMuch_108 : decode b_MO_isTooMuch 108 = .ok (.iastore, 1) := by decide +kernel
theorem d_MO_isTooMuch_109 : decode b_MO_isTooMuch 109 = .ok (.iload 9, 2) := by decide +kernel
theorem d_MO_isTooMuch_111 : decode b_MO_isTooMuch 111 = .ok (.ireturn, 1) := by decide +kernel
theorem d_MO_put_0 : decode b_MO_put 0 = .ok (.aload_n 0, 1) := by decide +kernel
theorem d_MO_put_1 : decode b_MO_put 1 = .ok (.iload_n 1, 1) := by decide +kernel
theorem d_MO_put_2 : decode b_MO_put 2 = .ok (.iload_n 2, 1) := by decide +kernel
theorem d_MO_put_3 : decode b_MO_put 3 = .ok (.iload_n 3, 1) := by decide +kernel
theorem d_MO_put_4 : decode b_MO_put 4 = .ok (.invokevirtual 108, 3) := by decide +kernel
theorem d_MO_put_7 : decode b_MO_put 7 = .ok (.ifCond .ne 7, 3) := by decide +kernel
theorem d_MO_put_10 : decode b_MO_put 10 = .ok (.iconst 1, 1) := by decide +kernel
theorem d_MO_put_11 : decode b_MO_put 11 = .ok (.goto 4, 3) := by decide +kernel
theorem d_MO_put_14 : decode b_MO_put 14 = .ok (.iconst 0, 1) := by decide +kernel
theorem d_MO_put_15 : decode b_MO_put 15 = .ok (.istore 5, 2) := by decide +kernel
theorem d_MO_put_17 : decode b_MO_put 17 = .ok (.iload 4, 2) := by decide +kernel
theorem d_MO_put_19 : decode b_MO_put 19 = .ok (.iconst 1, 1) := by decide +kernel
theorem d_MO_put_20 : decode b_MO_put 20 = .ok (.bipush 99, 2) := by decide +kernel
theorem d_MO_put_22 : decode b_MO_put 22 = .ok (.invokestatic 63, 3) := by decide +kernel
theorem d_MO_put_25 : decode b_MO_put 25 = .ok (.ifCond .ne 7, 3) := by decide +kernel
theorem d_MO_put_28 : decode b_MO_put 28 = .ok (.iconst 1, 1) := by decide +kernel
theorem d_MO_put_29 : decode b_MO_put 29 = .ok (.goto 4, 3) := by decide +kernel
theorem d_MO_put_32 : decode b_MO_put 32 = .ok (.iconst 0, 1) := by decide +kernel
theorem d_MO_put_33 : decode b_MO_put 33 = .ok (.istore 6, 2) := by decide +kernel
theorem d_MO_put_35 : decode b_MO_put 35 = .ok (.iload 5, 2) := by decide +kernel
theorem d_MO_put_37 : decode b_MO_put 37 = .ok (.ifCond .ne 24, 3) := by decide +kernel
theorem d_MO_put_40 : decode b_MO_put 40 = .ok (.iload 6, 2) := by decide +kernel
theorem d_MO_put_42 : decode b_MO_put 42 = .ok (.ifCond .ne 19, 3) := by decide +kernel
theorem d_MO_put_45 : decode b_MO_put 45 = .ok (.aload_n 0, 1) := by decide +kernel
theorem d_MO_put_46 : decode b_MO_put 46 = .ok (.iload_n 1, 1) := by decide +kernel
theorem d_MO_put_47 : decode b_MO_put 47 = .ok (.iload_n 2, 1) := by decide +kernel
theorem d_MO_put_48 : decode b_MO_put 48 = .ok (.iload_n 3, 1) := by decide +kernel
theorem d_MO_put_49 : decode b_MO_put 49 = .ok (.iload 4, 2) := by decide +kernel
theorem d_MO_put_51 : decode b_MO_put 51 = .ok (.invokevirtual 111, 3) := by decide +kernel
theorem d_MO_put_54 : decode b_MO_put 54 = .ok (.ifCond .eq 7, 3) := by decide +kernel
theorem d_MO_put_57 : decode b_MO_put 57 = .ok (.iconst 1, 1) := by decide +kernel
theorem d_MO_put_58 : decode b_MO_put 58 = .ok (.goto 4, 3) := by decide +kernel
theorem d_MO_put_61 : decode b_MO_put 61 = .ok (.iconst 0, 1) := by decide +kernel
theorem d_MO_put_62 : decode b_MO_put 62 = .ok (.istore 7, 2) := by decide +kernel
theorem d_MO_put_64 : decode b_MO_put 64 = .ok (.aload_n 0, 1) := by decide +kernel
theorem d_MO_put_65 : decode b_MO_put 65 = .ok (.iload 5, 2) := by decide +kernel
theorem d_MO_put_67 : decode b_MO_put 67 = .ok (.iload 6, 2) := by decide +kernel
theorem d_MO_put_69 : decode b_MO_put 69 = .ok (.iload 7, 2) := by decide +kernel
theorem d_MO_put_71 : decode b_MO_put 71 = .ok (.iload 5, 2) := by decide +kernel
theorem d_MO_put_73 : decode b_MO_put 73 = .ok (.ifCond .ne 37, 3) := by decide +kernel
theorem d_MO_put_76 : decode b_MO_put 76 = .ok (.iload 6, 2) := by decide +kernel
theorem d_MO_put_78 : decode b_MO_put 78 = .ok (.ifCond .ne 32, 3) := by decide +kernel
theorem d_MO_put_81 : decode b_MO_put 81 = .ok (.aload_n 0, 1) := by decide +kernel
theorem d_MO_put_82 : decode b_MO_put 82 = .ok (.getfield 47, 3) := by decide +kernel
theorem d_MO_put_85 : decode b_MO_put 85 = .ok (.sipush 240, 3) := by decide +kernel
theorem d_MO_put_88 : decode b_MO_put 88 = .ok (.iload_n 1, 1) := by decide +kernel
theorem d_MO_put_89 : decode b_MO_put 89 = .ok (.imul, 1) := by decide +kernel
theorem d_MO_put_90 : decode b_MO_put 90 = .ok (.bipush 30, 2) := by decide +kernel
theorem d_MO_put_92 : decode b_MO_put 92 = .ok (.iload_n 2, 1) := by decide +kernel
theorem d_MO_put_93 : decode b_MO_put 93 = .ok (.imul, 1) := by decide +kernel
theorem d_MO_put_94 : decode b_MO_put 94 = .ok (.iadd, 1) := by decide +kernel
theorem d_MO_put_95 : decode b_MO_put 95 = .ok (.iload_n 3, 1) := by decide +kernel
theorem d_MO_put_96 : decode b_MO_put 96 = .ok (.iadd, 1) := by decide +kernel
theorem d_MO_put_97 : decode b_MO_put 97 = .ok (.iaload, 1) := by decide +kernel
theorem d_MO_put_98 : decode b_MO_put 98 = .ok (.iload 4, 2) := by decide +kernel
theorem d_MO_put_100 : decode b_MO_put 100 = .ok (.iadd, 1) := by decide +kernel
theorem d_MO_put_101 : decode b_MO_put 101 = .ok (.bipush 99, 2) := by decide +kernel
theorem d_MO_put_103 : decode b_MO_put 103 = .ok (.if_icmp .le 7, 3) := by decide +kernel
theorem d_MO_put_106 : decode b_MO_put 106 = .ok (.iconst 1, 1) := by decide +kernel
theorem d_MO_put_107 : decode b_MO_put 107 = .ok (.goto 4, 3) := by decide +kernel
theorem d_MO_put_110 : decode b_MO_put 110 = .ok (.iconst 0, 1) := by decide +kernel
theorem d_MO_put_111 : decode b_MO_put 111 = .ok (.invokevirtual 81, 3) := by decide +kernel
theorem d_MO_put_114 : decode b_MO_put 114 = .ok (.ifCond .eq 5, 3) := by decide +kernel
theorem d_MO_put_117 : decode b_MO_put 117 = .ok (.iconst 0, 1) := by decide +kernel
theorem d_MO_put_118 : decode b_MO_put 118 = .ok (.ireturn, 1) := by decide +kernel
theorem d_MO_put_119 : decode b_MO_put 119 = .ok (.aload_n 0, 1) := by decide +kernel
theorem d_MO_put_120 : decode b_MO_put 120 = .ok (.getfield 47, 3) := by decide +kernel
theorem d_MO_put_123 : decode b_MO_put 123 = .ok (.sipush 240, 3) := by decide +kernel
theorem d_MO_put_126 : decode b_MO_put 126 = .ok (.iload_n 1, 1) := by decide +kernel
theorem d_MO_put_127 : decode b_MO_put 127 = .ok (.imul, 1) := by decide +kernel
theorem d_MO_put_128 : decode b_MO_put 128 = .ok (.bipush 30, 2) := by decide +kernel
theorem d_MO_put_130 : decode b_MO_put 130 = .ok (.iload_n 2, 1) := by decide +kernel
theorem d_MO_put_131 : decode b_MO_put 131 = .ok (.imul, 1) := by decide +kernel
theorem d_MO_put_132 : decode b_MO_put 132 = .ok (.iadd, 1) := by decide +kernel
theorem d_MO_put_133 : decode b_MO_put 133 = .ok (.iload_n 3, 1) := by decide +kernel
theorem d_MO_put_134 : decode b_MO_put 134 = .ok (.iadd, 1) := by decide +kernel
theorem d_MO_put_135 : decode b_MO_put 135 = .ok (.dup2, 1) := by decide +kernel
theorem d_MO_put_136 : decode b_MO_put 136 = .ok (.iaload, 1) := by decide +kernel
theorem d_MO_put_137 : decode b_MO_put 137 = .ok (.iload 4, 2) := by decide +kernel
theorem d_MO_put_139 : decode b_MO_put 139 = .ok (.iadd, 1) := by decide +kernel
theorem d_MO_put_140 : decode b_MO_put 140 = .ok (.iastore, 1) := by decide +kernel
theorem d_MO_put_141 : decode b_MO_put 141 = .ok (.aload_n 0, 1) := by decide +kernel
theorem d_MO_put_142 : decode b_MO_put 142 = .ok (.getfield 47, 3) := by decide +kernel
theorem d_MO_put_145 : decode b_MO_put 145 = .ok (.sipush 240, 3) := by decide +kernel
theorem d_MO_put_148 : decode b_MO_put 148 = .ok (.iload_n 1, 1) := by decide +kernel
theorem d_MO_put_149 : decode b_MO_put 149 = .ok (.imul, 1) := by decide +kernel
theorem d_MO_put_150 : decode b_MO_put 150 = .ok (.bipush 30, 2) := by decide +kernel
theorem d_MO_put_152 : decode b_MO_put 152 = .ok (.iload_n 2, 1) := by decide +kernel
theorem d_MO_put_153 : decode b_MO_put 153 = .ok (.imul, 1) := by decide +kernel
theorem d_MO_put_154 : decode b_MO_put 154 = .ok (.iadd, 1) := by decide +kernel
theorem d_MO_put_155 : decode b_MO_put 155 = .ok (.iload_n 3, 1) := by decide +kernel
theorem d_MO_put_156 : decode b_MO_put 156 = .ok (.iadd, 1) := by decide +kernel
theorem d_MO_put_157 : decode b_MO_put 157 = .ok (.iaload, 1) := by decide +kernel
theorem d_MO_put_158 : decode b_MO_put 158 = .ok (.ireturn, 1) := by decide +kernel
theorem d_MO_use_0 : decode b_MO_use 0 = .ok (.aload_n 0, 1) := by decide +kernel
theorem d_MO_use_1 : decode b_MO_use 1 = .ok (.iload_n 1, 1) := by decide +kernel
theorem d_MO_use_2 : decode b_MO_use 2 = .ok (.iload_n 2, 1) := by decide +kernel
theorem d_MO_use_3 : decode b_MO_use 3 = .ok (.iload_n 3, 1) := by decide +kernel
theorem d_MO_use_4 : decode b_MO_use 4 = .ok (.invokevirtual 108, 3) := by decide +kernel
theorem d_MO_use_7 : decode b_MO_use 7 = .ok (.ifCond .ne 7, 3) := by decide +kernel
theorem d_MO_use_10 : decode b_MO_use 10 = .ok (.iconst 1, 1) := by decide +kernel
theorem d_MO_use_11 : decode b_MO_use 11 = .ok (.goto 4, 3) := by decide +kernel
theorem d_MO_use_14 : decode b_MO_use 14 = .ok (.iconst 0, 1) := by decide +kernel
theorem d_MO_use_15 : decode b_MO_use 15 = .ok (.istore 5, 2) := by decide +kernel
theorem d_MO_use_17 : decode b_MO_use 17 = .ok (.aload_n 0, 1) := by decide +kernel
theorem d_MO_use_18 : decode b_MO_use 18 = .ok (.iload 5, 2) := by decide +kernel
theorem d_MO_use_20 : decode b_MO_use 20 = .ok (.iload 4, 2) := by decide +kernel
theorem d_MO_use_22 : decode b_MO_use 22 = .ok (.iconst 1, 1) := by decide +kernel
theorem d_MO_use_23 : decode b_MO_use 23 = .ok (.bipush 99, 2) := by decide +kernel
theorem d_MO_use_25 : decode b_MO_use 25 = .ok (.invokestatic 63, 3) := by decide +kernel
theorem d_MO_use_28 : decode b_MO_use 28 = .ok (.ifCond .ne 7, 3) := by decide +kernel
theorem d_MO_use_31 : decode b_MO_use 31 = .ok (.iconst 1, 1) := by decide +kernel
theorem d_MO_use_32 : decode b_MO_use 32 = .ok (.goto 4, 3) := by decide +kernel
theorem d_MO_use_35 : decode b_MO_use 35 = .ok (.iconst 0, 1) := by decide +kernel
theorem d_MO_use_36 : decode b_MO_use 36 = .ok (.iload 5, 2) := by decide +kernel
theorem d_MO_use_38 : decode b_MO_use 38 = .ok (.ifCond .ne 29, 3) := by decide +kernel
theorem d_MO_use_41 : decode b_MO_use 41 = .ok (.aload_n 0, 1) := by decide +kernel
theorem d_MO_use_42 : decode b_MO_use 42 = .ok (.getfield 47, 3) := by decide +kernel
theorem d_MO_use_45 : decode b_MO_use 45 = .ok (.sipush 240, 3) := by decide +kernel
theorem d_MO_use_48 : decode b_MO_use 48 = .ok (.iload_n 1, 1) := by decide +kernel
theorem d_MO_use_49 : decode b_MO_use 49 = .ok (.imul, 1) := by decide +kernel
theorem d_MO_use_50 : decode b_MO_use 50 = .ok (.bipush 30, 2) := by decide +kernel
theorem d_MO_use_52 : decode b_MO_use 52 = .ok (.iload_n 2, 1) := by decide +kernel
theorem d_MO_use_53 : decode b_MO_use 53 = .ok (.imul, 1) := by decide +kernel
theorem d_MO_use_54 : decode b_MO_use 54 = .ok (.iadd, 1) := by decide +kernel
theorem d_MO_use_55 : decode b_MO_use 55 = .ok (.iload_n 3, 1) := by decide +kernel
theorem d_MO_use_56 : decode b_MO_use 56 = .ok (.iadd, 1) := by decide +kernel
theorem d_MO_use_57 : decode b_MO_use 57 = .ok (.iaload, 1) := by decide +kernel
theorem d_MO_use_58 : decode b_MO_use 58 = .ok (.iload 4, 2) := by decide +kernel
theorem d_MO_use_60 : decode b_MO_use 60 = .ok (.if_icmp .ge 7, 3) := by decide +kernel
theorem d_MO_use_63 : decode b_MO_use 63 = .ok (.iconst 1, 1) := by decide +kernel
theorem d_MO_use_64 : decode b_MO_use 64 = .ok (.goto 4, 3) := by decide +kernel
theorem d_MO_use_67 : decode b_MO_use 67 = .ok (.iconst 0, 1) := by decide +kernel
theorem d_MO_use_68 : decode b_MO_use 68 = .ok (.iconst 0, 1) := by decide +kernel
theorem d_MO_use_69 : decode b_MO_use 69 = .ok (.invokevirtual 81, 3) := by decide +kernel
theorem d_MO_use_72 : decode b_MO_use 72 = .ok (.ifCond .eq 5, 3) := by decide +kernel
theorem d_MO_use_75 : decode b_MO_use 75 = .ok (.iconst 0, 1) := by decide +kernel
theorem d_MO_use_76 : decode b_MO_use 76 = .ok (.ireturn, 1) := by decide +kernel
theorem d_MO_use_77 : decode b_MO_use 77 = .ok (.aload_n 0, 1) := by decide +kernel
theorem d_MO_use_78 : decode b_MO_use 78 = .ok (.getfield 47, 3) := by decide +kernel
theorem d_MO_use_81 : decode b_MO_use 81 = .ok (.sipush 240, 3) := by decide +kernel
theorem d_MO_use_84 : decode b_MO_use 84 = .ok (.iload_n 1, 1) := by decide +kernel
theorem d_MO_use_85 : decode b_MO_use 85 = .ok (.imul, 1) := by decide +kernel
theorem d_MO_use_86 : decode b_MO_use 86 = .ok (.bipush 30, 2) := by decide +kernel
theorem d_MO_use_88 : decode b_MO_use 88 = .ok (.iload_n 2, 1) := by decide +kernel
theorem d_MO_use_89 : decode b_MO_use 89 = .ok (.imul, 1) := by decide +kernel
theorem d_MO_use_90 : decode b_MO_use 90 = .ok (.iadd, 1) := by decide +kernel
theorem d_MO_use_91 : decode b_MO_use 91 = .ok (.iload_n 3, 1) := by decide +kernel
theorem d_MO_use_92 : decode b_MO_use 92 = .ok (.iadd, 1) := by decide +kernel
theorem d_MO_use_93 : decode b_MO_use 93 = .ok (.dup2, 1) := by decide +kernel
theorem d_MO_use_94 : decode b_MO_use 94 = .ok (.iaload, 1) := by decide +kernel
theorem d_MO_use_95 : decode b_MO_use 95 = .ok (.iload 4, 2) := by decide +kernel
theorem d_MO_use_97 : decode b_MO_use 97 = .ok (.isub, 1) := by decide +kernel
theorem d_MO_use_98 : decode b_MO_use 98 = .ok (.iastore, 1) := by decide +kernel
theorem d_MO_use_99 : decode b_MO_use 99 = .ok (.aload_n 0, 1) := by decide +kernel
theorem d_MO_use_100 : decode b_MO_use 100 = .ok (.getfield 47, 3) := by decide +kernel
theorem d_MO_use_103 : decode b_MO_use 103 = .ok (.sipush 240, 3) := by decide +kernel
theorem d_MO_use_106 : decode b_MO_use 106 = .ok (.iload_n 1, 1) := by decide +kernel
theorem d_MO_use_107 : decode b_MO_use 107 = .ok (.imul, 1) := by decide +kernel
theorem d_MO_use_108 : decode b_MO_use 108 = .ok (.bipush 30, 2) := by decide +kernel
theorem d_MO_use_110 : decode b_MO_use 110 = .ok (.iload_n 2, 1) := by decide +kernel
theorem d_MO_use_111 : decode b_MO_use 111 = .ok (.imul, 1) := by decide +kernel
theorem d_MO_use_112 : decode b_MO_use 112 = .ok (.iadd, 1) := by decide +kernel
theorem d_MO_use_113 : decode b_MO_use 113 = .ok (.iload_n 3, 1) := by decide +kernel
theorem d_MO_use_114 : decode b_MO_use 114 = .ok (.iadd, 1) := by decide +kernel
theorem d_MO_use_115 : decode b_MO_use 115 = .ok (.iaload, 1) := by decide +kernel
theorem d_MO_use_116 : decode b_MO_use 116 = .ok (.ireturn, 1) := by decide +kernel
theorem d_MO_missingOf_0 : decode b_MO_missingOf 0 = .ok (.aload_n 0, 1) := by decide +kernel
theorem d_MO_missingOf_1 : decode b_MO_missingOf 1 = .ok (.getfield 50, 3) := by decide +kernel
theorem d_MO_missingOf_4 : decode b_MO_missingOf 4 = .ok (.sipush 240, 3) := by decide +kernel
theorem d_MO_missingOf_7 : decode b_MO_missingOf 7 = .ok (.aload_n 0, 1) := by decide +kernel
theorem d_MO_missingOf_8 : decode b_MO_missingOf 8 = .ok (.getfield 19, 3) := by decide +kernel
theorem d_MO_missingOf_11 : decode b_MO_missingOf 11 = .ok (.iload_n 1, 1) := by decide +kernel
theorem d_MO_missingOf_12 : decode b_MO_missingOf 12 = .ok (.iaload, 1) := by decide +kernel
theorem d_MO_missingOf_13 : decode b_MO_missingOf 13 = .ok (.imul, 1) := by decide +kernel
theorem d_MO_missingOf_14 : decode b_MO_missingOf 14 = .ok (.iload_n 2, 1) := by decide +kernel
theorem d_MO_missingOf_15 : decode b_MO_missingOf 15 = .ok (.iadd, 1) := by decide +kernel
theorem d_MO_missingOf_16 : decode b_MO_missingOf 16 = .ok (.iaload, 1) := by decide +kernel
theorem d_MO_missingOf_17 : decode b_MO_missingOf 17 = .ok (.aload_n 0, 1) := by decide +kernel
theorem d_MO_missingOf_18 : decode b_MO_missingOf 18 = .ok (.getfield 47, 3) := by decide +kernel
theorem d_MO_missingOf_21 : decode b_MO_missingOf 21 = .ok (.sipush 240, 3) := by decide +kernel
theorem d_MO_missingOf_24 : decode b_MO_missingOf 24 = .ok (.iload_n 1, 1) := by decide +kernel
theorem d_MO_missingOf_25 : decode b_MO_missingOf 25 = .ok (.imul, 1) := by decide +kernel
theorem d_MO_missingOf_26 : decode b_MO_missingOf 26 = .ok (.iload_n 2, 1) := by decide +kernel
theorem d_MO_missingOf_27 : decode b_MO_missingOf 27 = .ok (.iadd, 1) := by decide +kernel
theorem d_MO_missingOf_28 : decode b_MO_missingOf 28 = .ok (.iaload, 1) := by decide +kernel
theorem d_MO_missingOf_29 : decode b_MO_missingOf 29 = .ok (.isub, 1) := by decide +kernel
theorem d_MO_missingOf_30 : decode b_MO_missingOf 30 = .ok (.istore_n 3, 1) := by decide +kernel
theorem d_MO_missingOf_31 : decode b_MO_missingOf 31 = .ok (.iload_n 3, 1) := by decide +kernel
theorem d_MO_missingOf_32 : decode b_MO_missingOf 32 = .ok (.ifCond .ge 7, 3) := by decide +kernel
theorem d_MO_missingOf_35 : decode b_MO_missingOf 35 = .ok (.iconst 0, 1) := by decide +kernel
theorem d_MO_missingOf_36 : decode b_MO_missingOf 36 = .ok (.goto 4, 3) := by decide +kernel
theorem d_MO_missingOf_39 : decode b_MO_missingOf 39 = .ok (.iload_n 3, 1) := by decide +kernel
theorem d_MO_missingOf_40 : decode b_MO_missingOf 40 = .ok (.ireturn, 1) := by decide +kernel
theorem d_MO_replace_0 : decode b_MO_replace 0 = .ok (.aload_n 0, 1) := by decide +kernel
theorem d_MO_replace_1 : decode b_MO_replace 1 = .ok (.aload_n 0, 1) := by decide +kernel
theorem d_MO_replace_2 : decode b_MO_replace 2 = .ok (.iload_n 1, 1) := by decide +kernel
theorem d_MO_replace_3 : decode b_MO_replace 3 = .ok (.invokevirtual 67, 3) := by decide +kernel
theorem d_MO_replace_6 : decode b_MO_replace 6 = .ok (.ifCond .ne 7, 3) := by decide +kernel
theorem d_MO_replace_9 : decode b_MO_replace 9 = .ok (.iconst 1, 1) := by decide +kernel
theorem d_MO_replace_10 : decode b_MO_replace 10 = .ok (.goto 4, 3) := by decide +kernel
theorem d_MO_replace_13 : decode b_MO_replace 13 = .ok (.iconst 0, 1) := by decide +kernel
theorem d_MO_replace_14 : decode b_MO_replace 14 = .ok (.iconst 0, 1) := by decide +kernel
theorem d_MO_replace_15 : decode b_MO_replace 15 = .ok (.iconst 0, 1) := by decide +kernel
theorem d_MO_replace_16 : decode b_MO_replace 16 = .ok (.iconst 0, 1) := by decide +kernel
theorem d_MO_replace_17 : decode b_MO_replace 17 = .ok (.invokevirtual 81, 3) := by decide +kernel
theorem d_MO_replace_20 : decode b_MO_replace 20 = .ok (.ifCond .eq 5, 3) := by decide +kernel
theorem d_MO_replace_23 : decode b_MO_replace 23 = .ok (.iconst 0, 1) := by decide +kernel
theorem d_MO_replace_24 : decode b_MO_replace 24 = .ok (.ireturn, 1) := by decide +kernel
theorem d_MO_replace_25 : decode b_MO_replace 25 = .ok (.iconst 0, 1) := by decide +kernel
theorem d_MO_replace_26 : decode b_MO_replace 26 = .ok (.istore_n 2, 1) := by decide +kernel
theorem d_MO_replace_27 : decode b_MO_replace 27 = .ok (.iconst 0, 1) := by decide +kernel
theorem d_MO_replace_28 : decode b_MO_replace 28 = .ok (.istore_n 3, 1) := by decide +kernel
theorem d_MO_replace_29 : decode b_MO_replace 29 = .ok (.iload_n 3, 1) := by decide +kernel
theorem d_MO_replace_30 : decode b_MO_replace 30 = .ok (.sipush 240, 3) := by decide +kernel
theorem d_MO_replace_33 : decode b_MO_replace 33 = .ok (.if_icmp .ge 104, 3) := by decide +kernel
theorem d_MO_replace_36 : decode b_MO_replace 36 = .ok (.aload_n 0, 1) := by decide +kernel
theorem d_MO_replace_37 : decode b_MO_replace 37 = .ok (.iload_n 1, 1) := by decide +kernel
theorem d_MO_replace_38 : decode b_MO_replace 38 = .ok (.iload_n 3, 1) := by decide +kernel
theorem d_MO_replace_39 : decode b_MO_replace 39 = .ok (.invokevirtual 115, 3) := by decide +kernel
theorem d_MO_replace_42 : decode b_MO_replace 42 = .ok (.istore 4, 2) := by decide +kernel
theorem d_MO_replace_44 : decode b_MO_replace 44 = .ok (.iload_n 3, 1) := by decide +kernel
theorem d_MO_replace_45 : decode b_MO_replace 45 = .ok (.bipush 30, 2) := by decide +kernel
theorem d_MO_replace_47 : decode b_MO_replace 47 = .ok (.irem, 1) := by decide +kernel
theorem d_MO_replace_48 : decode b_MO_replace 48 = .ok (.istore 5, 2) := by decide +kernel
theorem d_MO_replace_50 : decode b_MO_replace 50 = .ok (.iload 4, 2) := by decide +kernel
theorem d_MO_replace_52 : decode b_MO_replace 52 = .ok (.aload_n 0, 1) := by decide +kernel
theorem d_MO_replace_53 : decode b_MO_replace 53 = .ok (.getfield 16, 3) := by decide +kernel
theorem d_MO_replace_56 : decode b_MO_replace 56 = .ok (.iload 5, 2) := by decide +kernel
theorem d_MO_replace_58 : decode b_MO_replace 58 = .ok (.iaload, 1) := by decide +kernel
theorem d_MO_replace_59 : decode b_MO_replace 59 = .ok (.if_icmp .ge 8, 3) := by decide +kernel
theorem d_MO_replace_62 : decode b_MO_replace 62 = .ok (.iload 4, 2) := by decide +kernel
theorem d_MO_replace_64 : decode b_MO_replace 64 = .ok (.goto 10, 3) := by decide +kernel
theorem d_MO_replace_67 : decode b_MO_replace 67 = .ok (.aload_n 0, 1) := by decide +kernel
theorem d_MO_replace_68 : decode b_MO_replace 68 = .ok (.getfield 16, 3) := by decide +kernel
theorem d_MO_replace_71 : decode b_MO_replace 71 = .ok (.iload 5, 2) := by decide +kernel
theorem d_MO_replace_73 : decode b_MO_replace 73 = .ok (.iaload, 1) := by decide +kernel
theorem d_MO_replace_74 : decode b_MO_replace 74 = .ok (.istore 4, 2) := by decide +kernel
theorem d_MO_replace_76 : decode b_MO_replace 76 = .ok (.iload 4, 2) := by decide +kernel
theorem d_MO_replace_78 : decode b_MO_replace 78 = .ok (.ifCond .le 53, 3) := by decide +kernel
theorem d_MO_replace_81 : decode b_MO_replace 81 = .ok (.aload_n 0, 1) := by decide +kernel
theorem d_MO_replace_82 : decode b_MO_replace 82 = .ok (.iload_n 1, 1) := by decide +kernel
theorem d_MO_replace_83 : decode b_MO_replace 83 = .ok (.iload_n 3, 1) := by decide +kernel
theorem d_MO_replace_84 : decode b_MO_replace 84 = .ok (.bipush 30, 2) := by decide +kernel
theorem d_MO_replace_86 : decode b_MO_replace 86 = .ok (.idiv, 1) := by decide +kernel
theorem d_MO_replace_87 : decode b_MO_replace 87 = .ok (.iload 5, 2) := by decide +kernel
theorem d_MO_replace_89 : decode b_MO_replace 89 = .ok (.iload 4, 2) := by decide +kernel
theorem d_MO_replace_91 : decode b_MO_replace 91 = .ok (.invokevirtual 111, 3) := by decide +kernel
theorem d_MO_replace_94 : decode b_MO_replace 94 = .ok (.ifCond .ne 37, 3) := by decide +kernel
theorem d_MO_replace_97 : decode b_MO_replace 97 = .ok (.aload_n 0, 1) := by decide +kernel
theorem d_MO_replace_98 : decode b_MO_replace 98 = .ok (.getfield 47, 3) := by decide +kernel
theorem d_MO_replace_101 : decode b_MO_replace 101 = .ok (.sipush 240, 3) := by decide +kernel
theorem d_MO_replace_104 : decode b_MO_replace 104 = .ok (.iload_n 1, 1) := by decide +kernel
theorem d_MO_replace_105 : decode b_MO_replace 105 = .ok (.imul, 1) := by decide +kernel
theorem d_MO_replace_106 : decode b_MO_replace 106 = .ok (.iload_n 3, 1) := by decide +kernel
theorem d_MO_replace_107 : decode b_MO_replace 107 = .ok (.iadd, 1) := by decide +kernel
theorem d_MO_replace_108 : decode b_MO_replace 108 = .ok (.dup2, 1) := by decide +kernel
theorem d_MO_replace_109 : decode b_MO_replace 109 = .ok (.iaload, 1) := by decide +kernel
theorem d_MO_replace_110 : decode b_MO_replace 110 = .ok (.iload 4, 2) := by decide +kernel
theorem d_MO_replace_112 : decode b_MO_replace 112 = .ok (.iadd, 1) := by decide +kernel
theorem d_MO_replace_113 : decode b_MO_replace 113 = .ok (.iastore, 1) := by decide +kernel
theorem d_MO_replace_114 : decode b_MO_replace 114 = .ok (.aload_n 0, 1) := by decide +kernel
theorem d_MO_replace_115 : decode b_MO_replace 115 = .ok (.getfield 16, 3) := by decide +kernel
theorem d_MO_replace_118 : decode b_MO_replace 118 = .ok (.iload 5, 2) := by decide +kernel
theorem d_MO_replace_120 : decode b_MO_replace 120 = .ok (.dup2, 1) := by decide +kernel
theorem d_MO_replace_121 : decode b_MO_replace 121 = .ok (.iaload, 1) := by decide +kernel
theorem d_MO_replace_122 : decode b_MO_replace 122 = .ok (.iload 4, 2) := by decide +kernel
theorem d_MO_replace_124 : decode b_MO_replace 124 = .ok (.isub, 1) := by decide +kernel
theorem d_MO_replace_125 : decode b_MO_replace 125 = .ok (.iastore, 1) := by decide +kernel
theorem d_MO_replace_126 : decode b_MO_replace 126 = .ok (.iload_n 2, 1) := by decide +kernel
theorem d_MO_replace_127 : decode b_MO_replace 127 = .ok (.iload 4, 2) := by decide +kernel
theorem d_MO_replace_129 : decode b_MO_replace 129 = .ok (.iadd, 1) := by decide +kernel
theorem d_MO_replace_130 : decode b_MO_replace 130 = .ok (.istore_n 2, 1) := by decide +kernel
theorem d_MO_replace_131 : decode b_MO_replace 131 = .ok (.iinc 3 1, 3) := by decide +kernel
theorem d_MO_replace_134 : decode b_MO_replace 134 = .ok (.goto (-105), 3) := by decide +kernel
theorem d_MO_replace_137 : decode b_MO_replace 137 = .ok (.iload_n 2, 1) := by decide +kernel
theorem d_MO_replace_138 : decode b_MO_replace 138 = .ok (.ireturn, 1) := by decide +kernel
theorem d_MO_tell_0 : decode b_MO_tell 0 = .ok (.iconst 3, 1) := by decide +kernel
theorem d_MO_tell_1 : decode b_MO_tell 1 = .ok (.aload_n 0, 1) := by decide +kernel
theorem d_MO_tell_2 : decode b_MO_tell 2 = .ok (.getfield 119, 3) := by decide +kernel
theorem d_MO_tell_5 : decode b_MO_tell 5 = .ok (.bipush 100, 2) := by decide +kernel
theorem d_MO_tell_7 : decode b_MO_tell 7 = .ok (.irem, 1) := by decide +kernel
theorem d_MO_tell_8 : decode b_MO_tell 8 = .ok (.imul, 1) := by decide +kernel
theorem d_MO_tell_9 : decode b_MO_tell 9 = .ok (.istore 4, 2) := by decide +kernel
theorem d_MO_tell_11 : decode b_MO_tell 11 = .ok (.aload_n 0, 1) := by decide +kernel
theorem d_MO_tell_12 : decode b_MO_tell 12 = .ok (.getfield 53, 3) := by decide +kernel
theorem d_MO_tell_15 : decode b_MO_tell 15 = .ok (.iload 4, 2) := by decide +kernel
theorem d_MO_tell_17 : decode b_MO_tell 17 = .ok (.iload_n 1, 1) := by decide +kernel
theorem d_MO_tell_18 : decode b_MO_tell 18 = .ok (.iastore, 1) := by decide +kernel
theorem d_MO_tell_19 : decode b_MO_tell 19 = .ok (.aload_n 0, 1) := by decide +kernel
theorem d_MO_tell_20 : decode b_MO_tell 20 = .ok (.getfield 53, 3) := by decide +kernel
theorem d_MO_tell_23 : decode b_MO_tell 23 = .ok (.iload 4, 2) := by decide +kernel
theorem d_MO_tell_25 : decode b_MO_tell 25 = .ok (.iconst 1, 1) := by decide +kernel
theorem d_MO_tell_26 : decode b_MO_tell 26 = .ok (.iadd, 1) := by decide +kernel
theorem d_MO_tell_27 : decode b_MO_tell 27 = .ok (.iload_n 2, 1) := by decide +kernel
theorem d_MO_tell_28 : decode b_MO_tell 28 = .ok (.iastore, 1) := by decide +kernel
theorem d_MO_tell_29 : decode b_MO_tell 29 = .ok (.aload_n 0, 1) := by decide +kernel
theorem d_MO_tell_30 : decode b_MO_tell 30 = .ok (.getfield 53, 3) := by decide +kernel
theorem d_MO_tell_33 : decode b_MO_tell 33 = .ok (.iload 4, 2) := by decide +kernel
theorem d_MO_tell_35 : decode b_MO_tell 35 = .ok (.iconst 2, 1) := by decide +kernel
theorem d_MO_tell_36 : decode b_MO_tell 36 = .ok (.iadd, 1) := by decide +kernel
theorem d_MO_tell_37 : decode b_MO_tell 37 = .ok (.iload_n 3, 1) := by decide +kernel
theorem d_MO_tell_38 : decode b_MO_tell 38 = .ok (.iastore, 1) := by decide +kernel
theorem d_MO_tell_39 : decode b_MO_tell 39 = .ok (.aload_n 0, 1) := by decide +kernel
theorem d_MO_tell_40 : decode b_MO_tell 40 = .ok (.dup, 1) := by decide +kernel
theorem d_MO_tell_41 : decode b_MO_tell 41 = .ok (.getfield 119, 3) := by decide +kernel
theorem d_MO_tell_44 : decode b_MO_tell 44 = .ok (.iconst 1, 1) := by decide +kernel
theorem d_MO_tell_45 : decode b_MO_tell 45 = .ok (.iadd, 1) := by decide +kernel
theorem d_MO_tell_46 : decode b_MO_tell 46 = .ok (.putfield 119, 3) := by decide +kernel
theorem d_MO_tell_49 : decode b_MO_tell 49 = .ok (.return_, 1) := by decide +kernel
theorem d_MO_swap_0 : decode b_MO_swap 0 = .ok (.aload_n 0, 1) := by decide +kernel
theorem d_MO_swap_1 : decode b_MO_swap 1 = .ok (.iload_n 1, 1) := by decide +kernel
theorem d_MO_swap_2 : decode b_MO_swap 2 = .ok (.iload_n 3, 1) := by decide +kernel
theorem d_MO_swap_3 : decode b_MO_swap 3 = .ok (.iload 4, 2) := by decide +kernel
theorem d_MO_swap_5 : decode b_MO_swap 5 = .ok (.invokevirtual 108, 3) := by decide +kernel
theorem d_MO_swap_8 : decode b_MO_swap 8 = .ok (.ifCond .eq 16, 3) := by decide +kernel
theorem d_MO_swap_11 : decode b_MO_swap 11 = .ok (.aload_n 0, 1) := by decide +kernel
theorem d_MO_swap_12 : decode b_MO_swap 12 = .ok (.iload_n 2, 1) := by decide +kernel
theorem d_MO_swap_13 : decode b_MO_swap 13 = .ok (.invokevirtual 67, 3) := by decide +kernel
theorem d_MO_swap_16 : decode b_MO_swap 16 = .ok (.ifCond .eq 8, 3) := by decide +kernel
theorem d_MO_swap_19 : decode b_MO_swap 19 = .ok (.iload_n 2, 1) := by decide +kernel
theorem d_MO_swap_20 : decode b_MO_swap 20 = .ok (.iload_n 1, 1) := by decide +kernel
theorem d_MO_swap_21 : decode b_MO_swap 21 = .ok (.if_icmp .ne 7, 3) := by decide +kernel
theorem d_MO_swap_24 : decode b_MO_swap 24 = .ok (.iconst 1, 1) := by decide +kernel
theorem d_MO_swap_25 : decode b_MO_swap 25 = .ok (.goto 4, 3) := by decide +kernel
theorem d_MO_swap_28 : decode b_MO_swap 28 = .ok (.iconst 0, 1) := by decide +kernel
theorem d_MO_swap_29 : decode b_MO_swap 29 = .ok (.istore 6, 2) := by decide +kernel
theorem d_MO_swap_31 : decode b_MO_swap 31 = .ok (.iload 5, 2) := by decide +kernel
theorem d_MO_swap_33 : decode b_MO_swap 33 = .ok (.iconst 1, 1) := by decide +kernel
theorem d_MO_swap_34 : decode b_MO_swap 34 = .ok (.bipush 99, 2) := by decide +kernel
theorem d_MO_swap_36 : decode b_MO_swap 36 = .ok (.invokestatic 63, 3) := by decide +kernel
theorem d_MO_swap_39 : decode b_MO_swap 39 = .ok (.ifCond .ne 7, 3) := by decide +kernel
theorem d_MO_swap_42 : decode b_MO_swap 42 = .ok (.iconst 1, 1) := by decide +kernel
theorem d_MO_swap_43 : decode b_MO_swap 43 = .ok (.goto 4, 3) := by decide +kernel
theorem d_MO_swap_46 : decode b_MO_swap 46 = .ok (.iconst 0, 1) := by decide +kernel
theorem d_MO_swap_47 : decode b_MO_swap 47 = .ok (.istore 7, 2) := by decide +kernel
theorem d_MO_swap_49 : decode b_MO_swap 49 = .ok (.iload 6, 2) := by decide +kernel
theorem d_MO_swap_51 : decode b_MO_swap 51 = .ok (.ifCond .ne 48, 3) := by decide +kernel
theorem d_MO_swap_54 : decode b_MO_swap 54 = .ok (.iload 7, 2) := by decide +kernel
theorem d_MO_swap_56 : decode b_MO_swap 56 = .ok (.ifCond .ne 43, 3) := by decide +kernel
theorem d_MO_swap_59 : decode b_MO_swap 59 = .ok (.aload_n 0, 1) := by decide +kernel
theorem d_MO_swap_60 : decode b_MO_swap 60 = .ok (.getfield 47, 3) := by decide +kernel
theorem d_MO_swap_63 : decode b_MO_swap 63 = .ok (.sipush 240, 3) := by decide +kernel
theorem d_MO_swap_66 : decode b_MO_swap 66 = .ok (.iload_n 1, 1) := by decide +kernel
theorem d_MO_swap_67 : decode b_MO_swap 67 = .ok (.imul, 1) := by decide +kernel
theorem d_MO_swap_68 : decode b_MO_swap 68 = .ok (.bipush 30, 2) := by decide +kernel
theorem d_MO_swap_70 : decode b_MO_swap 70 = .ok (.iload_n 3, 1) := by decide +kernel
theorem d_MO_swap_71 : decode b_MO_swap 71 = .ok (.imul, 1) := by decide +kernel
theorem d_MO_swap_72 : decode b_MO_swap 72 = .ok (.iadd, 1) := by decide +kernel
theorem d_MO_swap_73 : decode b_MO_swap 73 = .ok (.iload 4, 2) := by decide +kernel
theorem d_MO_swap_75 : decode b_MO_swap 75 = .ok (.iadd, 1) := by decide +kernel
theorem d_MO_swap_76 : decode b_MO_swap 76 = .ok (.iaload, 1) := by decide +kernel
theorem d_MO_swap_77 : decode b_MO_swap 77 = .ok (.iload 5, 2) := by decide +kernel
theorem d_MO_swap_79 : decode b_MO_swap 79 = .ok (.if_icmp .lt 16, 3) := by decide +kernel
theorem d_MO_swap_82 : decode b_MO_swap 82 = .ok (.aload_n 0, 1) := by decide +kernel
theorem d_MO_swap_83 : decode b_MO_swap 83 = .ok (.iload_n 2, 1) := by decide +kernel
theorem d_MO_swap_84 : decode b_MO_swap 84 = .ok (.iload_n 3, 1) := by decide +kernel
theorem d_MO_swap_85 : decode b_MO_swap 85 = .ok (.iload 4, 2) := by decide +kernel
theorem d_MO_swap_87 : decode b_MO_swap 87 = .ok (.iload 5, 2) := by decide +kernel
theorem d_MO_swap_89 : decode b_MO_swap 89 = .ok (.invokevirtual 111, 3) := by decide +kernel
theorem d_MO_swap_92 : decode b_MO_swap 92 = .ok (.ifCond .eq 7, 3) := by decide +kernel
theorem d_MO_swap_95 : decode b_MO_swap 95 = .ok (.iconst 1, 1) := by decide +kernel
theorem d_MO_swap_96 : decode b_MO_swap 96 = .ok (.goto 4, 3) := by decide +kernel
theorem d_MO_swap_99 : decode b_MO_swap 99 = .ok (.iconst 0, 1) := by decide +kernel
theorem d_MO_swap_100 : decode b_MO_swap 100 = .ok (.istore 8, 2) := by decide +kernel
theorem d_MO_swap_102 : decode b_MO_swap 102 = .ok (.aload_n 0, 1) := by decide +kernel
theorem d_MO_swap_103 : decode b_MO_swap 103 = .ok (.iload 6, 2) := by decide +kernel
theorem d_MO_swap_105 : decode b_MO_swap 105 = .ok (.iload 7, 2) := by decide +kernel
theorem d_MO_swap_107 : decode b_MO_swap 107 = .ok (.iload 8, 2) := by decide +kernel
theorem d_MO_swap_109 : decode b_MO_swap 109 = .ok (.iload 6, 2) := by decide +kernel
theorem d_MO_swap_111 : decode b_MO_swap 111 = .ok (.ifCond .ne 38, 3) := by decide +kernel
theorem d_MO_swap_114 : decode b_MO_swap 114 = .ok (.iload 7, 2) := by decide +kernel
theorem d_MO_swap_116 : decode b_MO_swap 116 = .ok (.ifCond .ne 33, 3) := by decide +kernel
theorem d_MO_swap_119 : decode b_MO_swap 119 = .ok (.aload_n 0, 1) := by decide +kernel
theorem d_MO_swap_120 : decode b_MO_swap 120 = .ok (.getfield 47, 3) := by decide +kernel
theorem d_MO_swap_123 : decode b_MO_swap 123 = .ok (.sipush 240, 3) := by decide +kernel
theorem d_MO_swap_126 : decode b_MO_swap 126 = .ok (.iload_n 2, 1) := by decide +kernel
theorem d_MO_swap_127 : decode b_MO_swap 127 = .ok (.imul, 1) := by decide +kernel
theorem d_MO_swap_128 : decode b_MO_swap 128 = .ok (.bipush 30, 2) := by decide +kernel
theorem d_MO_swap_130 : decode b_MO_swap 130 = .ok (.iload_n 3, 1) := by decide +kernel
theorem d_MO_swap_131 : decode b_MO_swap 131 = .ok (.imul, 1) := by decide +kernel
theorem d_MO_swap_132 : decode b_MO_swap 132 = .ok (.iadd, 1) := by decide +kernel
theorem d_MO_swap_133 : decode b_MO_swap 133 = .ok (.iload 4, 2) := by decide +kernel
theorem d_MO_swap_135 : decode b_MO_swap 135 = .ok (.iadd, 1) := by decide +kernel
theorem d_MO_swap_136 : decode b_MO_swap 136 = .ok (.iaload, 1) := by decide +kernel
theorem d_MO_swap_137 : decode b_MO_swap 137 = .ok (.iload 5, 2) := by decide +kernel
theorem d_MO_swap_139 : decode b_MO_swap 139 = .ok (.iadd, 1) := by decide +kernel
theorem d_MO_swap_140 : decode b_MO_swap 140 = .ok (.bipush 99, 2) := by decide +kernel
theorem d_MO_swap_142 : decode b_MO_swap 142 = .ok (.if_icmp .le 7, 3) := by decide +kernel
theorem d_MO_swap_145 : decode b_MO_swap 145 = .ok (.iconst 1, 1) := by decide +kernel
theorem d_MO_swap_146 : decode b_MO_swap 146 = .ok (.goto 4, 3) := by decide +kernel
theorem d_MO_swap_149 : decode b_MO_swap 149 = .ok (.iconst 0, 1) := by decide +kernel
theorem d_MO_swap_150 : decode b_MO_swap 150 = .ok (.invokevirtual 81, 3) := by decide +kernel
theorem d_MO_swap_153 : decode b_MO_swap 153 = .ok (.ifCond .eq 4, 3) := by decide +kernel
theorem d_MO_swap_156 : decode b_MO_swap 156 = .ok (.return_, 1) := by decide +kernel
theorem d_MO_swap_157 : decode b_MO_swap 157 = .ok (.aload_n 0, 1) := by decide +kernel
theorem d_MO_swap_158 : decode b_MO_swap 158 = .ok (.getfield 47, 3) := by decide +kernel
theorem d_MO_swap_161 : decode b_MO_swap 161 = .ok (.sipush 240, 3) := by decide +kernel
theorem d_MO_swap_164 : decode b_MO_swap 164 = .ok (.iload_n 1, 1) := by decide +kernel
theorem d_MO_swap_165 : decode b_MO_swap 165 = .ok (.imul, 1) := by decide +kernel
theorem d_MO_swap_166 : decode b_MO_swap 166 = .ok (.bipush 30, 2) := by decide +kernel
theorem d_MO_swap_168 : decode b_MO_swap 168 = .ok (.iload_n 3, 1) := by decide +kernel
theorem d_MO_swap_169 : decode b_MO_swap 169 = .ok (.imul, 1) := by decide +kernel
theorem d_MO_swap_170 : decode b_MO_swap 170 = .ok (.iadd, 1) := by decide +kernel
theorem d_MO_swap_171 : decode b_MO_swap 171 = .ok (.iload 4, 2) := by decide +kernel
theorem d_MO_swap_173 : decode b_MO_swap 173 = .ok (.iadd, 1) := by decide +kernel
theorem d_MO_swap_174 : decode b_MO_swap 174 = .ok (.dup2, 1) := by decide +kernel
theorem d_MO_swap_175 : decode b_MO_swap 175 = .ok (.iaload, 1) := by decide +kernel
theorem d_MO_swap_176 : decode b_MO_swap 176 = .ok (.iload 5, 2) := by decide +kernel
theorem d_MO_swap_178 : decode b_MO_swap 178 = .ok (.isub, 1) := by decide +kernel
theorem d_MO_swap_179 : decode b_MO_swap 179 = .ok (.iastore, 1) := by decide +kernel
theorem d_MO_swap_180 : decode b_MO_swap 180 = .ok (.aload_n 0, 1) := by decide +kernel
theorem d_MO_swap_181 : decode b_MO_swap 181 = .ok (.getfield 47, 3) := by decide +kernel
theorem d_MO_swap_184 : decode b_MO_swap 184 = .ok (.sipush 240, 3) := by decide +kernel
theorem d_MO_swap_187 : decode b_MO_swap 187 = .ok (.iload_n 2, 1) := by decide +kernel
theorem d_MO_swap_188 : decode b_MO_swap 188 = .ok (.imul, 1) := by decide +kernel
theorem d_MO_swap_189 : decode b_MO_swap 189 = .ok (.bipush 30, 2) := by decide +kernel
theorem d_MO_swap_191 : decode b_MO_swap 191 = .ok (.iload_n 3, 1) := by decide +kernel
theorem d_MO_swap_192 : decode b_MO_swap 192 = .ok (.imul, 1) := by decide +kernel
theorem d_MO_swap_193 : decode b_MO_swap 193 = .ok (.iadd, 1) := by decide +kernel
theorem d_MO_swap_194 : decode b_MO_swap 194 = .ok (.iload 4, 2) := by decide +kernel
theorem d_MO_swap_196 : decode b_MO_swap 196 = .ok (.iadd, 1) := by decide +kernel
theorem d_MO_swap_197 : decode b_MO_swap 197 = .ok (.dup2, 1) := by decide +kernel
theorem d_MO_swap_198 : decode b_MO_swap 198 = .ok (.iaload, 1) := by decide +kernel
theorem d_MO_swap_199 : decode b_MO_swap 199 = .ok (.iload 5, 2) := by decide +kernel
theorem d_MO_swap_201 : decode b_MO_swap 201 = .ok (.iadd, 1) := by decide +kernel
theorem d_MO_swap_202 : decode b_MO_swap 202 = .ok (.iastore, 1) := by decide +kernel
theorem d_MO_swap_203 : decode b_MO_swap 203 = .ok (.aload_n 0, 1) := by decide +kernel
theorem d_MO_swap_204 : decode b_MO_swap 204 = .ok (.iload_n 1, 1) := by decide +kernel
theorem d_MO_swap_205 : decode b_MO_swap 205 = .ok (.iload 4, 2) := by decide +kernel
theorem d_MO_swap_207 : decode b_MO_swap 207 = .ok (.iload 5, 2) := by decide +kernel
theorem d_MO_swap_209 : decode b_MO_swap 209 = .ok (.ineg, 1) := by decide +kernel
theorem d_MO_swap_210 : decode b_MO_swap 210 = .ok (.invokevirtual 122, 3) := by decide +kernel
theorem d_MO_swap_213 : decode b_MO_swap 213 = .ok (.aload_n 0, 1) := by decide +kernel
theorem d_MO_swap_214 : decode b_MO_swap 214 = .ok (.iload_n 2, 1) := by decide +kernel
theorem d_MO_swap_215 : decode b_MO_swap 215 = .ok (.iload 4, 2) := by decide +kernel
theorem d_MO_swap_217 : decode b_MO_swap 217 = .ok (.iload 5, 2) := by decide +kernel
theorem d_MO_swap_219 : decode b_MO_swap 219 = .ok (.invokevirtual 122, 3) := by decide +kernel
theorem d_MO_swap_222 : decode b_MO_swap 222 = .ok (.return_, 1) := by decide +kernel
theorem d_MO_ends_0 : decode b_MO_ends 0 = .ok (.aload_n 0, 1) := by decide +kernel
theorem d_MO_ends_1 : decode b_MO_ends 1 = .ok (.aload_n 0, 1) := by decide +kernel
theorem d_MO_ends_2 : decode b_MO_ends 2 = .ok (.iload_n 1, 1) := by decide +kernel
theorem d_MO_ends_3 : decode b_MO_ends 3 = .ok (.invokevirtual 67, 3) := by decide +kernel
theorem d_MO_ends_6 : decode b_MO_ends 6 = .ok (.ifCond .eq 10, 3) := by decide +kernel
theorem d_MO_ends_9 : decode b_MO_ends 9 = .ok (.iload_n 2, 1) := by decide +kernel
theorem d_MO_ends_10 : decode b_MO_ends 10 = .ok (.invokestatic 74, 3) := by decide +kernel
theorem d_MO_ends_13 : decode b_MO_ends 13 = .ok (.ifCond .ne 7, 3) := by decide +kernel
theorem d_MO_ends_16 : decode b_MO_ends 16 = .ok (.iconst 1, 1) := by decide +kernel
theorem d_MO_ends_17 : decode b_MO_ends 17 = .ok (.goto 4, 3) := by decide +kernel
theorem d_MO_ends_20 : decode b_MO_ends 20 = .ok (.iconst 0, 1) := by decide +kernel
theorem d_MO_ends_21 : decode b_MO_ends 21 = .ok (.iload_n 3, 1) := by decide +kernel
theorem d_MO_ends_22 : decode b_MO_ends 22 = .ok (.iconst (-1), 1) := by decide +kernel
theorem d_MO_ends_23 : decode b_MO_ends 23 = .ok (.sipush 9999, 3) := by decide +kernel
theorem d_MO_ends_26 : decode b_MO_ends 26 = .ok (.invokestatic 63, 3) := by decide +kernel
theorem d_MO_ends_29 : decode b_MO_ends 29 = .ok (.ifCond .ne 7, 3) := by decide +kernel
theorem d_MO_ends_32 : decode b_MO_ends 32 = .ok (.iconst 1, 1) := by decide +kernel
theorem d_MO_ends_33 : decode b_MO_ends 33 = .ok (.goto 4, 3) := by decide +kernel
theorem d_MO_ends_36 : decode b_MO_ends 36 = .ok (.iconst 0, 1) := by decide +kernel
theorem d_MO_ends_37 : decode b_MO_ends 37 = .ok (.iconst 0, 1) := by decide +kernel
theorem d_MO_ends_38 : decode b_MO_ends 38 = .ok (.iconst 0, 1) := by decide +kernel
theorem d_MO_ends_39 : decode b_MO_ends 39 = .ok (.invokevirtual 81, 3) := by decide +kernel
theorem d_MO_ends_42 : decode b_MO_ends 42 = .ok (.ifCond .eq 4, 3) := by decide +kernel
theorem d_MO_ends_45 : decode b_MO_ends 45 = .ok (.return_, 1) := by decide +kernel
theorem d_MO_ends_46 : decode b_MO_ends 46 = .ok (.aload_n 0, 1) := by decide +kernel
theorem d_MO_ends_47 : decode b_MO_ends 47 = .ok (.getfield 41, 3) := by decide +kernel
theorem d_MO_ends_50 : decode b_MO_ends 50 = .ok (.bipush 30, 2) := by decide +kernel
theorem d_MO_ends_52 : decode b_MO_ends 52 = .ok (.iload_n 1, 1) := by decide +kernel
theorem d_MO_ends_53 : decode b_MO_ends 53 = .ok (.imul, 1) := by decide +kernel
theorem d_MO_ends_54 : decode b_MO_ends 54 = .ok (.iload_n 2, 1) := by decide +kernel
theorem d_MO_ends_55 : decode b_MO_ends 55 = .ok (.iadd, 1) := by decide +kernel
theorem d_MO_ends_56 : decode b_MO_ends 56 = .ok (.iload_n 3, 1) := by decide +kernel
theorem d_MO_ends_57 : decode b_MO_ends 57 = .ok (.iastore, 1) := by decide +kernel
theorem d_MO_ends_58 : decode b_MO_ends 58 = .ok (.return_, 1) := by decide +kernel
theorem d_MO_battery_0 : decode b_MO_battery 0 = .ok (.aload_n 0, 1) := by decide +kernel
theorem d_MO_battery_1 : decode b_MO_battery 1 = .ok (.aload_n 0, 1) := by decide +kernel
theorem d_MO_battery_2 : decode b_MO_battery 2 = .ok (.iload_n 1, 1) := by decide +kernel
theorem d_MO_battery_3 : decode b_MO_battery 3 = .ok (.invokevirtual 67, 3) := by decide +kernel
theorem d_MO_battery_6 : decode b_MO_battery 6 = .ok (.ifCond .eq 10, 3) := by decide +kernel
theorem d_MO_battery_9 : decode b_MO_battery 9 = .ok (.iload_n 2, 1) := by decide +kernel
theorem d_MO_battery_10 : decode b_MO_battery 10 = .ok (.invokestatic 74, 3) := by decide +kernel
theorem d_MO_battery_13 : decode b_MO_battery 13 = .ok (.ifCond .ne 7, 3) := by decide +kernel
theorem d_MO_battery_16 : decode b_MO_battery 16 = .ok (.iconst 1, 1) := by decide +kernel
theorem d_MO_battery_17 : decode b_MO_battery 17 = .ok (.goto 4, 3) := by decide +kernel
theorem d_MO_battery_20 : decode b_MO_battery 20 = .ok (.iconst 0, 1) := by decide +kernel
theorem d_MO_battery_21 : decode b_MO_battery 21 = .ok (.iload_n 3, 1) := by decide +kernel
theorem d_MO_battery_22 : decode b_MO_battery 22 = .ok (.iconst 0, 1) := by decide +kernel
theorem d_MO_battery_23 : decode b_MO_battery 23 = .ok (.bipush 100, 2) := by decide +kernel
theorem d_MO_battery_25 : decode b_MO_battery 25 = .ok (.invokestatic 63, 3) := by decide +kernel
theorem d_MO_battery_28 : decode b_MO_battery 28 = .ok (.ifCond .ne 7, 3) := by decide +kernel
theorem d_MO_battery_31 : decode b_MO_battery 31 = .ok (.iconst 1, 1) := by decide +kernel
theorem d_MO_battery_32 : decode b_MO_battery 32 = .ok (.goto 4, 3) := by decide +kernel
theorem d_MO_battery_35 : decode b_MO_battery 35 = .ok (.iconst 0, 1) := by decide +kernel
theorem d_MO_battery_36 : decode b_MO_battery 36 = .ok (.iconst 0, 1) := by decide +kernel
theorem d_MO_battery_37 : decode b_MO_battery 37 = .ok (.iconst 0, 1) := by decide +kernel
theorem d_MO_battery_38 : decode b_MO_battery 38 = .ok (.invokevirtual 81, 3) := by decide +kernel
theorem d_MO_battery_41 : decode b_MO_battery 41 = .ok (.ifCond .eq 4, 3) := by decide +kernel
theorem d_MO_battery_44 : decode b_MO_battery 44 = .ok (.return_, 1) := by decide +kernel
theorem d_MO_battery_45 : decode b_MO_battery 45 = .ok (.aload_n 0, 1) := by decide +kernel
theorem d_MO_battery_46 : decode b_MO_battery 46 = .ok (.getfield 44, 3) := by decide +kernel
theorem d_MO_battery_49 : decode b_MO_battery 49 = .ok (.bipush 30, 2) := by decide +kernel
theorem d_MO_battery_51 : decode b_MO_battery 51 = .ok (.iload_n 1, 1) := by decide +kernel
theorem d_MO_battery_52 : decode b_MO_battery 52 = .ok (.imul, 1) := by decide +kernel
theorem d_MO_battery_53 : decode b_MO_battery 53 = .ok (.iload_n 2, 1) := by decide +kernel
theorem d_MO_battery_54 : decode b_MO_battery 54 = .ok (.iadd, 1) := by decide +kernel
theorem d_MO_battery_55 : decode b_MO_battery 55 = .ok (.iload_n 3, 1) := by decide +kernel
theorem d_MO_battery_56 : decode b_MO_battery 56 = .ok (.iastore, 1) := by decide +kernel
theorem d_MO_battery_57 : decode b_MO_battery 57 = .ok (.return_, 1) := by decide +kernel
theorem d_MO_seal_0 : decode b_MO_seal 0 = .ok (.aload_n 0, 1) := by decide +kernel
theorem d_MO_seal_1 : decode b_MO_seal 1 = .ok (.iload_n 1, 1) := by decide +kernel
theorem d_MO_seal_2 : decode b_MO_seal 2 = .ok (.invokevirtual 67, 3) := by decide +kernel
theorem d_MO_seal_5 : decode b_MO_seal 5 = .ok (.ifCond .eq 10, 3) := by decide +kernel
theorem d_MO_seal_8 : decode b_MO_seal 8 = .ok (.iload_n 2, 1) := by decide +kernel
theorem d_MO_seal_9 : decode b_MO_seal 9 = .ok (.invokestatic 71, 3) := by decide +kernel
theorem d_MO_seal_12 : decode b_MO_seal 12 = .ok (.ifCond .ne 7, 3) := by decide +kernel
theorem d_MO_seal_15 : decode b_MO_seal 15 = .ok (.iconst 1, 1) := by decide +kernel
theorem d_MO_seal_16 : decode b_MO_seal 16 = .ok (.goto 4, 3) := by decide +kernel
theorem d_MO_seal_19 : decode b_MO_seal 19 = .ok (.iconst 0, 1) := by decide +kernel
theorem d_MO_seal_20 : decode b_MO_seal 20 = .ok (.istore 4, 2) := by decide +kernel
theorem d_MO_seal_22 : decode b_MO_seal 22 = .ok (.aload_n 0, 1) := by decide +kernel
theorem d_MO_seal_23 : decode b_MO_seal 23 = .ok (.iload 4, 2) := by decide +kernel
theorem d_MO_seal_25 : decode b_MO_seal 25 = .ok (.iload 4, 2) := by decide +kernel
theorem d_MO_seal_27 : decode b_MO_seal 27 = .ok (.ifCond .ne 22, 3) := by decide +kernel
theorem d_MO_seal_30 : decode b_MO_seal 30 = .ok (.aload_n 0, 1) := by decide +kernel
theorem d_MO_seal_31 : decode b_MO_seal 31 = .ok (.getfield 37, 3) := by decide +kernel
theorem d_MO_seal_34 : decode b_MO_seal 34 = .ok (.bipush 8, 2) := by decide +kernel
theorem d_MO_seal_36 : decode b_MO_seal 36 = .ok (.iload_n 1, 1) := by decide +kernel
theorem d_MO_seal_37 : decode b_MO_seal 37 = .ok (.imul, 1) := by decide +kernel
theorem d_MO_seal_38 : decode b_MO_seal 38 = .ok (.iload_n 2, 1) := by decide +kernel
theorem d_MO_seal_39 : decode b_MO_seal 39 = .ok (.iadd, 1) := by decide +kernel
theorem d_MO_seal_40 : decode b_MO_seal 40 = .ok (.baload, 1) := by decide +kernel
theorem d_MO_seal_41 : decode b_MO_seal 41 = .ok (.iload_n 3, 1) := by decide +kernel
theorem d_MO_seal_42 : decode b_MO_seal 42 = .ok (.if_icmp .eq 7, 3) := by decide +kernel
theorem d_MO_seal_45 : decode b_MO_seal 45 = .ok (.iconst 1, 1) := by decide +kernel
theorem d_MO_seal_46 : decode b_MO_seal 46 = .ok (.goto 4, 3) := by decide +kernel
theorem d_MO_seal_49 : decode b_MO_seal 49 = .ok (.iconst 0, 1) := by decide +kernel
theorem d_MO_seal_50 : decode b_MO_seal 50 = .ok (.iconst 0, 1) := by decide +kernel
theorem d_MO_seal_51 : decode b_MO_seal 51 = .ok (.iconst 0, 1) := by decide +kernel
theorem d_MO_seal_52 : decode b_MO_seal 52 = .ok (.invokevirtual 81, 3) := by decide +kernel
theorem d_MO_seal_55 : decode b_MO_seal 55 = .ok (.ifCond .eq 4, 3) := by decide +kernel
theorem d_MO_seal_58 : decode b_MO_seal 58 = .ok (.return_, 1) := by decide +kernel
theorem d_MO_seal_59 : decode b_MO_seal 59 = .ok (.aload_n 0, 1) := by decide +kernel
theorem d_MO_seal_60 : decode b_MO_seal 60 = .ok (.getfield 37, 3) := by decide +kernel
theorem d_MO_seal_63 : decode b_MO_seal 63 = .ok (.bipush 8, 2) := by decide +kernel
theorem d_MO_seal_65 : decode b_MO_seal 65 = .ok (.iload_n 1, 1) := by decide +kernel
theorem d_MO_seal_66 : decode b_MO_seal 66 = .ok (.imul, 1) := by decide +kernel
theorem d_MO_seal_67 : decode b_MO_seal 67 = .ok (.iload_n 2, 1) := by decide +kernel
theorem d_MO_seal_68 : decode b_MO_seal 68 = .ok (.iadd, 1) := by decide +kernel
theorem d_MO_seal_69 : decode b_MO_seal 69 = .ok (.iload_n 3, 1) := by decide +kernel
theorem d_MO_seal_70 : decode b_MO_seal 70 = .ok (.ifCond .ne 7, 3) := by decide +kernel
theorem d_MO_seal_73 : decode b_MO_seal 73 = .ok (.iconst 1, 1) := by decide +kernel
theorem d_MO_seal_74 : decode b_MO_seal 74 = .ok (.goto 4, 3) := by decide +kernel
theorem d_MO_seal_77 : decode b_MO_seal 77 = .ok (.iconst 0, 1) := by decide +kernel
theorem d_MO_seal_78 : decode b_MO_seal 78 = .ok (.bastore, 1) := by decide +kernel
theorem d_MO_seal_79 : decode b_MO_seal 79 = .ok (.return_, 1) := by decide +kernel
theorem d_MO_check_0 : decode b_MO_check 0 = .ok (.aload_n 0, 1) := by decide +kernel
theorem d_MO_check_1 : decode b_MO_check 1 = .ok (.aload_n 0, 1) := by decide +kernel
theorem d_MO_check_2 : decode b_MO_check 2 = .ok (.iload_n 1, 1) := by decide +kernel
theorem d_MO_check_3 : decode b_MO_check 3 = .ok (.invokevirtual 67, 3) := by decide +kernel
theorem d_MO_check_6 : decode b_MO_check 6 = .ok (.ifCond .ne 7, 3) := by decide +kernel
theorem d_MO_check_9 : decode b_MO_check 9 = .ok (.iconst 1, 1) := by decide +kernel
theorem d_MO_check_10 : decode b_MO_check 10 = .ok (.goto 4, 3) := by decide +kernel
theorem d_MO_check_13 : decode b_MO_check 13 = .ok (.iconst 0, 1) := by decide +kernel
theorem d_MO_check_14 : decode b_MO_check 14 = .ok (.iconst 0, 1) := by decide +kernel
theorem d_MO_check_15 : decode b_MO_check 15 = .ok (.iconst 0, 1) := by decide +kernel
theorem d_MO_check_16 : decode b_MO_check 16 = .ok (.iconst 0, 1) := by decide +kernel
theorem d_MO_check_17 : decode b_MO_check 17 = .ok (.invokevirtual 81, 3) := by decide +kernel
theorem d_MO_check_20 : decode b_MO_check 20 = .ok (.ifCond .eq 4, 3) := by decide +kernel
theorem d_MO_check_23 : decode b_MO_check 23 = .ok (.return_, 1) := by decide +kernel
theorem d_MO_check_24 : decode b_MO_check 24 = .ok (.aload_n 0, 1) := by decide +kernel
theorem d_MO_check_25 : decode b_MO_check 25 = .ok (.getfield 31, 3) := by decide +kernel
theorem d_MO_check_28 : decode b_MO_check 28 = .ok (.iload_n 1, 1) := by decide +kernel
theorem d_MO_check_29 : decode b_MO_check 29 = .ok (.iconst 3, 1) := by decide +kernel
theorem d_MO_check_30 : decode b_MO_check 30 = .ok (.aload_n 0, 1) := by decide +kernel
theorem d_MO_check_31 : decode b_MO_check 31 = .ok (.getfield 126, 3) := by decide +kernel
theorem d_MO_check_34 : decode b_MO_check 34 = .ok (.imul, 1) := by decide +kernel
theorem d_MO_check_35 : decode b_MO_check 35 = .ok (.aload_n 0, 1) := by decide +kernel
theorem d_MO_check_36 : decode b_MO_check 36 = .ok (.getfield 129, 3) := by decide +kernel
theorem d_MO_check_39 : decode b_MO_check 39 = .ok (.iadd, 1) := by decide +kernel
theorem d_MO_check_40 : decode b_MO_check 40 = .ok (.iastore, 1) := by decide +kernel
theorem d_MO_check_41 : decode b_MO_check 41 = .ok (.return_, 1) := by decide +kernel
theorem d_MO_now_0 : decode b_MO_now 0 = .ok (.iload_n 1, 1) := by decide +kernel
theorem d_MO_now_1 : decode b_MO_now 1 = .ok (.iconst 0, 1) := by decide +kernel
theorem d_MO_now_2 : decode b_MO_now 2 = .ok (.sipush 9999, 3) := by decide +kernel
theorem d_MO_now_5 : decode b_MO_now 5 = .ok (.invokestatic 63, 3) := by decide +kernel
theorem d_MO_now_8 : decode b_MO_now 8 = .ok (.ifCond .eq 36, 3) := by decide +kernel
theorem d_MO_now_11 : decode b_MO_now 11 = .ok (.iload_n 2, 1) := by decide +kernel
theorem d_MO_now_12 : decode b_MO_now 12 = .ok (.iconst 0, 1) := by decide +kernel
theorem d_MO_now_13 : decode b_MO_now 13 = .ok (.iconst 2, 1) := by decide +kernel
theorem d_MO_now_14 : decode b_MO_now 14 = .ok (.invokestatic 63, 3) := by decide +kernel
theorem d_MO_now_17 : decode b_MO_now 17 = .ok (.ifCond .eq 27, 3) := by decide +kernel
theorem d_MO_now_20 : decode b_MO_now 20 = .ok (.iload_n 1, 1) := by decide +kernel
theorem d_MO_now_21 : decode b_MO_now 21 = .ok (.aload_n 0, 1) := by decide +kernel
theorem d_MO_now_22 : decode b_MO_now 22 = .ok (.getfield 126, 3) := by decide +kernel
theorem d_MO_now_25 : decode b_MO_now 25 = .ok (.if_icmp .lt 19, 3) := by decide +kernel
theorem d_MO_now_28 : decode b_MO_now 28 = .ok (.iload_n 1, 1) := by decide +kernel
theorem d_MO_now_29 : decode b_MO_now 29 = .ok (.aload_n 0, 1) := by decide +kernel
theorem d_MO_now_30 : decode b_MO_now 30 = .ok (.getfield 126, 3) := by decide +kernel
theorem d_MO_now_33 : decode b_MO_now 33 = .ok (.if_icmp .ne 15, 3) := by decide +kernel
theorem d_MO_now_36 : decode b_MO_now 36 = .ok (.iload_n 2, 1) := by decide +kernel
theorem d_MO_now_37 : decode b_MO_now 37 = .ok (.aload_n 0, 1) := by decide +kernel
theorem d_MO_now_38 : decode b_MO_now 38 = .ok (.getfield 129, 3) := by decide +kernel
theorem d_MO_now_41 : decode b_MO_now 41 = .ok (.if_icmp .ge 7, 3) := by decide +kernel
theorem d_MO_now_44 : decode b_MO_now 44 = .ok (.iconst 1, 1) := by decide +kernel
theorem d_MO_now_45 : decode b_MO_now 45 = .ok (.goto 4, 3) := by decide +kernel
theorem d_MO_now_48 : decode b_MO_now 48 = .ok (.iconst 0, 1) := by decide +kernel
theorem d_MO_now_49 : decode b_MO_now 49 = .ok (.istore_n 3, 1) := by decide +kernel
theorem d_MO_now_50 : decode b_MO_now 50 = .ok (.aload_n 0, 1) := by decide +kernel
theorem d_MO_now_51 : decode b_MO_now 51 = .ok (.iload_n 3, 1) := by decide +kernel
theorem d_MO_now_52 : decode b_MO_now 52 = .ok (.iconst 0, 1) := by decide +kernel
theorem d_MO_now_53 : decode b_MO_now 53 = .ok (.iconst 0, 1) := by decide +kernel
theorem d_MO_now_54 : decode b_MO_now 54 = .ok (.iconst 0, 1) := by decide +kernel
theorem d_MO_now_55 : decode b_MO_now 55 = .ok (.invokevirtual 81, 3) := by decide +kernel
theorem d_MO_now_58 : decode b_MO_now 58 = .ok (.ifCond .eq 4, 3) := by decide +kernel
theorem d_MO_now_61 : decode b_MO_now 61 = .ok (.return_, 1) := by decide +kernel
theorem d_MO_now_62 : decode b_MO_now 62 = .ok (.aload_n 0, 1) := by decide +kernel
theorem d_MO_now_63 : decode b_MO_now 63 = .ok (.iload_n 1, 1) := by decide +kernel
theorem d_MO_now_64 : decode b_MO_now 64 = .ok (.putfield 126, 3) := by decide +kernel
theorem d_MO_now_67 : decode b_MO_now 67 = .ok (.aload_n 0, 1) := by decide +kernel
theorem d_MO_now_68 : decode b_MO_now 68 = .ok (.iload_n 2, 1) := by decide +kernel
theorem d_MO_now_69 : decode b_MO_now 69 = .ok (.putfield 129, 3) := by decide +kernel
theorem d_MO_now_72 : decode b_MO_now 72 = .ok (.return_, 1) := by decide +kernel
theorem d_MO_isNeeded_0 : decode b_MO_isNeeded 0 = .ok (.iconst 0, 1) := by decide +kernel
theorem d_MO_isNeeded_1 : decode b_MO_isNeeded 1 = .ok (.istore_n 3, 1) := by decide +kernel
theorem d_MO_isNeeded_2 : decode b_MO_isNeeded 2 = .ok (.iconst 0, 1) := by decide +kernel
theorem d_MO_isNeeded_3 : decode b_MO_isNeeded 3 = .ok (.istore 4, 2) := by decide +kernel
theorem d_MO_isNeeded_5 : decode b_MO_isNeeded 5 = .ok (.iload 4, 2) := by decide +kernel
theorem d_MO_isNeeded_7 : decode b_MO_isNeeded 7 = .ok (.bipush 8, 2) := by decide +kernel
theorem d_MO_isNeeded_9 : decode b_MO_isNeeded 9 = .ok (.if_icmp .ge 45, 3) := by decide +kernel
theorem d_MO_isNeeded_12 : decode b_MO_isNeeded 12 = .ok (.iload_n 3, 1) := by decide +kernel
theorem d_MO_isNeeded_13 : decode b_MO_isNeeded 13 = .ok (.ifCond .ne 29, 3) := by decide +kernel
theorem d_MO_isNeeded_16 : decode b_MO_isNeeded 16 = .ok (.aload_n 0, 1) := by decide +kernel
theorem d_MO_isNeeded_17 : decode b_MO_isNeeded 17 = .ok (.getfield 50, 3) := by decide +kernel
theorem d_MO_isNeeded_20 : decode b_MO_isNeeded 20 = .ok (.sipush 240, 3) := by decide +kernel
theorem d_MO_isNeeded_23 : decode b_MO_isNeeded 23 = .ok (.aload_n 0, 1) := by decide +kernel
theorem d_MO_isNeeded_24 : decode b_MO_isNeeded 24 = .ok (.getfield 19, 3) := by decide +kernel
theorem d_MO_isNeeded_27 : decode b_MO_isNeeded 27 = .ok (.iload_n 1, 1) := by decide +kernel
theorem d_MO_isNeeded_28 : decode b_MO_isNeeded 28 = .ok (.iaload, 1) := by decide +kernel
theorem d_MO_isNeeded_29 : decode b_MO_isNeeded 29 = .ok (.imul, 1) := by decide +kernel
theorem d_MO_isNeeded_30 : decode b_MO_isNeeded 30 = .ok (.bipush 30, 2) := by decide +kernel
theorem d_MO_isNeeded_32 : decode b_MO_isNeeded 32 = .ok (.iload 4, 2) := by decide +kernel
theorem d_MO_isNeeded_34 : decode b_MO_isNeeded 34 = .ok (.imul, 1) := by decide +kernel
theorem d_MO_isNeeded_35 : decode b_MO_isNeeded 35 = .ok (.iadd, 1) := by decide +kernel
theorem d_MO_isNeeded_36 : decode b_MO_isNeeded 36 = .ok (.iload_n 2, 1) := by decide +kernel
theorem d_MO_isNeeded_37 : decode b_MO_isNeeded 37 = .ok (.iadd, 1) := by decide +kernel
theorem d_MO_isNeeded_38 : decode b_MO_isNeeded 38 = .ok (.iaload, 1) := by decide +kernel
theorem d_MO_isNeeded_39 : decode b_MO_isNeeded 39 = .ok (.ifCond .le 7, 3) := by decide +kernel
theorem d_MO_isNeeded_42 : decode b_MO_isNeeded 42 = .ok (.iconst 1, 1) := by decide +kernel
theorem d_MO_isNeeded_43 : decode b_MO_isNeeded 43 = .ok (.goto 4, 3) := by decide +kernel
theorem d_MO_isNeeded_46 : decode b_MO_isNeeded 46 = .ok (.iconst 0, 1) := by decide +kernel
theorem d_MO_isNeeded_47 : decode b_MO_isNeeded 47 = .ok (.istore_n 3, 1) := by decide +kernel
theorem d_MO_isNeeded_48 : decode b_MO_isNeeded 48 = .ok (.iinc 4 1, 3) := by decide +kernel
theorem d_MO_isNeeded_51 : decode b_MO_isNeeded 51 = .ok (.goto (-46), 3) := by decide +kernel
theorem d_MO_isNeeded_54 : decode b_MO_isNeeded 54 = .ok (.iload_n 3, 1) := by decide +kernel
theorem d_MO_isNeeded_55 : decode b_MO_isNeeded 55 = .ok (.ireturn, 1) := by decide +kernel
theorem d_MO_ready_0 : decode b_MO_ready 0 = .ok (.aload_n 0, 1) := by decide +kernel
theorem d_MO_ready_1 : decode b_MO_ready 1 = .ok (.aload_n 0, 1) := by decide +kernel
theorem d_MO_ready_2 : decode b_MO_ready 2 = .ok (.iload_n 1, 1) := by decide +kernel
theorem d_MO_ready_3 : decode b_MO_ready 3 = .ok (.invokevirtual 67, 3) := by decide +kernel
theorem d_MO_ready_6 : decode b_MO_ready 6 = .ok (.ifCond .ne 7, 3) := by decide +kernel
theorem d_MO_ready_9 : decode b_MO_ready 9 = .ok (.iconst 1, 1) := by decide +kernel
theorem d_MO_ready_10 : decode b_MO_ready 10 = .ok (.goto 4, 3) := by decide +kernel
theorem d_MO_ready_13 : decode b_MO_ready 13 = .ok (.iconst 0, 1) := by decide +kernel
theorem d_MO_ready_14 : decode b_MO_ready 14 = .ok (.iconst 0, 1) := by decide +kernel
theorem d_MO_ready_15 : decode b_MO_ready 15 = .ok (.iconst 0, 1) := by decide +kernel
theorem d_MO_ready_16 : decode b_MO_ready 16 = .ok (.iconst 0, 1) := by decide +kernel
theorem d_MO_ready_17 : decode b_MO_ready 17 = .ok (.invokevirtual 81, 3) := by decide +kernel
theorem d_MO_ready_20 : decode b_MO_ready 20 = .ok (.ifCond .eq 5, 3) := by decide +kernel
theorem d_MO_ready_23 : decode b_MO_ready 23 = .ok (.iconst 0, 1) := by decide +kernel
theorem d_MO_ready_24 : decode b_MO_ready 24 = .ok (.ireturn, 1) := by decide +kernel
theorem d_MO_ready_25 : decode b_MO_ready 25 = .ok (.aload_n 0, 1) := by decide +kernel
theorem d_MO_ready_26 : decode b_MO_ready 26 = .ok (.getfield 31, 3) := by decide +kernel
theorem d_MO_ready_29 : decode b_MO_ready 29 = .ok (.iload_n 1, 1) := by decide +kernel
theorem d_MO_ready_30 : decode b_MO_ready 30 = .ok (.iaload, 1) := by decide +kernel
theorem d_MO_ready_31 : decode b_MO_ready 31 = .ok (.iconst 3, 1) := by decide +kernel
theorem d_MO_ready_32 : decode b_MO_ready 32 = .ok (.aload_n 0, 1) := by decide +kernel
theorem d_MO_ready_33 : decode b_MO_ready 33 = .ok (.getfield 126, 3) := by decide +kernel
theorem d_MO_ready_36 : decode b_MO_ready 36 = .ok (.imul, 1) := by decide +kernel
theorem d_MO_ready_37 : decode b_MO_ready 37 = .ok (.aload_n 0, 1) := by decide +kernel
theorem d_MO_ready_38 : decode b_MO_ready 38 = .ok (.getfield 129, 3) := by decide +kernel
theorem d_MO_ready_41 : decode b_MO_ready 41 = .ok (.iadd, 1) := by decide +kernel
theorem d_MO_ready_42 : decode b_MO_ready 42 = .ok (.if_icmp .eq 5, 3) := by decide +kernel
theorem d_MO_ready_45 : decode b_MO_ready 45 = .ok (.iconst 1, 1) := by decide +kernel
theorem d_MO_ready_46 : decode b_MO_ready 46 = .ok (.ireturn, 1) := by decide +kernel
theorem d_MO_ready_47 : decode b_MO_ready 47 = .ok (.iconst 0, 1) := by decide +kernel
theorem d_MO_ready_48 : decode b_MO_ready 48 = .ok (.istore_n 2, 1) := by decide +kernel
theorem d_MO_ready_49 : decode b_MO_ready 49 = .ok (.iload_n 2, 1) := by decide +kernel
theorem d_MO_ready_50 : decode b_MO_ready 50 = .ok (.sipush 240, 3) := by decide +kernel
theorem d_MO_ready_53 : decode b_MO_ready 53 = .ok (.if_icmp .ge 20, 3) := by decide +kernel
theorem d_MO_ready_56 : decode b_MO_ready 56 = .ok (.aload_n 0, 1) := by decide +kernel
theorem d_MO_ready_57 : decode b_MO_ready 57 = .ok (.iload_n 1, 1) := by decide +kernel
theorem d_MO_ready_58 : decode b_MO_ready 58 = .ok (.iload_n 2, 1) := by decide +kernel
theorem d_MO_ready_59 : decode b_MO_ready 59 = .ok (.invokevirtual 115, 3) := by decide +kernel
theorem d_MO_ready_62 : decode b_MO_ready 62 = .ok (.ifCond .le 5, 3) := by decide +kernel
theorem d_MO_ready_65 : decode b_MO_ready 65 = .ok (.iconst 2, 1) := by decide +kernel
theorem d_MO_ready_66 : decode b_MO_ready 66 = .ok (.ireturn, 1) := by decide +kernel
theorem d_MO_ready_67 : decode b_MO_ready 67 = .ok (.iinc 2 1, 3) := by decide +kernel
theorem d_MO_ready_70 : decode b_MO_ready 70 = .ok (.goto (-21), 3) := by decide +kernel
theorem d_MO_ready_73 : decode b_MO_ready 73 = .ok (.iconst 0, 1) := by decide +kernel
theorem d_MO_ready_74 : decode b_MO_ready 74 = .ok (.istore_n 2, 1) := by decide +kernel
theorem d_MO_ready_75 : decode b_MO_ready 75 = .ok (.iload_n 2, 1) := by decide +kernel
theorem d_MO_ready_76 : decode b_MO_ready 76 = .ok (.bipush 8, 2) := by decide +kernel
theorem d_MO_ready_78 : decode b_MO_ready 78 = .ok (.if_icmp .ge 25, 3) := by decide +kernel
theorem d_MO_ready_81 : decode b_MO_ready 81 = .ok (.aload_n 0, 1) := by decide +kernel
theorem d_MO_ready_82 : decode b_MO_ready 82 = .ok (.getfield 37, 3) := by decide +kernel
theorem d_MO_ready_85 : decode b_MO_ready 85 = .ok (.bipush 8, 2) := by decide +kernel
theorem d_MO_ready_87 : decode b_MO_ready 87 = .ok (.iload_n 1, 1) := by decide +kernel
theorem d_MO_ready_88 : decode b_MO_ready 88 = .ok (.imul, 1) := by decide +kernel
theorem d_MO_ready_89 : decode b_MO_ready 89 = .ok (.iload_n 2, 1) := by decide +kernel
theorem d_MO_ready_90 : decode b_MO_ready 90 = .ok (.iadd, 1) := by decide +kernel
theorem d_MO_ready_91 : decode b_MO_ready 91 = .ok (.baload, 1) := by decide +kernel
theorem d_MO_ready_92 : decode b_MO_ready 92 = .ok (.ifCond .eq 5, 3) := by decide +kernel
theorem d_MO_ready_95 : decode b_MO_ready 95 = .ok (.iconst 3, 1) := by decide +kernel
theorem d_MO_ready_96 : decode b_MO_ready 96 = .ok (.ireturn, 1) := by decide +kernel
theorem d_MO_ready_97 : decode b_MO_ready 97 = .ok (.iinc 2 1, 3) := by decide +kernel
theorem d_MO_ready_100 : decode b_MO_ready 100 = .ok (.goto (-25), 3) := by decide +kernel
theorem d_MO_ready_103 : decode b_MO_ready 103 = .ok (.iconst 0, 1) := by decide +kernel
theorem d_MO_ready_104 : decode b_MO_ready 104 = .ok (.istore_n 2, 1) := by decide +kernel
theorem d_MO_ready_105 : decode b_MO_ready 105 = .ok (.iload_n 2, 1) := by decide +kernel
theorem d_MO_ready_106 : decode b_MO_ready 106 = .ok (.bipush 30, 2) := by decide +kernel
theorem d_MO_ready_108 : decode b_MO_ready 108 = .ok (.if_icmp .ge 52, 3) := by decide +kernel
theorem d_MO_ready_111 : decode b_MO_ready 111 = .ok (.aload_n 0, 1) := by decide +kernel
theorem d_MO_ready_112 : decode b_MO_ready 112 = .ok (.iload_n 1, 1) := by decide +kernel
theorem d_MO_ready_113 : decode b_MO_ready 113 = .ok (.iload_n 2, 1) := by decide +kernel
theorem d_MO_ready_114 : decode b_MO_ready 114 = .ok (.invokevirtual 132, 3) := by decide +kernel
theorem d_MO_ready_117 : decode b_MO_ready 117 = .ok (.ifCond .eq 37, 3) := by decide +kernel
theorem d_MO_ready_120 : decode b_MO_ready 120 = .ok (.aload_n 0, 1) := by decide +kernel
theorem d_MO_ready_121 : decode b_MO_ready 121 = .ok (.getfield 41, 3) := by decide +kernel
theorem d_MO_ready_124 : decode b_MO_ready 124 = .ok (.bipush 30, 2) := by decide +kernel
theorem d_MO_ready_126 : decode b_MO_ready 126 = .ok (.iload_n 1, 1) := by decide +kernel
theorem d_MO_ready_127 : decode b_MO_ready 127 = .ok (.imul, 1) := by decide +kernel
theorem d_MO_ready_128 : decode b_MO_ready 128 = .ok (.iload_n 2, 1) := by decide +kernel
theorem d_MO_ready_129 : decode b_MO_ready 129 = .ok (.iadd, 1) := by decide +kernel
theorem d_MO_ready_130 : decode b_MO_ready 130 = .ok (.iaload, 1) := by decide +kernel
theorem d_MO_ready_131 : decode b_MO_ready 131 = .ok (.ifCond .lt 23, 3) := by decide +kernel
theorem d_MO_ready_134 : decode b_MO_ready 134 = .ok (.aload_n 0, 1) := by decide +kernel
theorem d_MO_ready_135 : decode b_MO_ready 135 = .ok (.getfield 126, 3) := by decide +kernel
theorem d_MO_ready_138 : decode b_MO_ready 138 = .ok (.aload_n 0, 1) := by decide +kernel
theorem d_MO_ready_139 : decode b_MO_ready 139 = .ok (.getfield 41, 3) := by decide +kernel
theorem d_MO_ready_142 : decode b_MO_ready 142 = .ok (.bipush 30, 2) := by decide +kernel
theorem d_MO_ready_144 : decode b_MO_ready 144 = .ok (.iload_n 1, 1) := by decide +kernel
theorem d_MO_ready_145 : decode b_MO_ready 145 = .ok (.imul, 1) := by decide +kernel
theorem d_MO_ready_146 : decode b_MO_ready 146 = .ok (.iload_n 2, 1) := by decide +kernel
theorem d_MO_ready_147 : decode b_MO_ready 147 = .ok (.iadd, 1) := by decide +kernel
theorem d_MO_ready_148 : decode b_MO_ready 148 = .ok (.iaload, 1) := by decide +kernel
theorem d_MO_ready_149 : decode b_MO_ready 149 = .ok (.if_icmp .lt 5, 3) := by decide +kernel
theorem d_MO_ready_152 : decode b_MO_ready 152 = .ok (.iconst 4, 1) := by decide +kernel
theorem d_MO_ready_153 : decode b_MO_ready 153 = .ok (.ireturn, 1) := by decide +kernel
theorem d_MO_ready_154 : decode b_MO_ready 154 = .ok (.iinc 2 1, 3) := by decide +kernel
theorem d_MO_ready_157 : decode b_MO_ready 157 = .ok (.goto (-52), 3) := by decide +kernel
theorem d_MO_ready_160 : decode b_MO_ready 160 = .ok (.iconst 0, 1) := by decide +kernel
theorem d_MO_ready_161 : decode b_MO_ready 161 = .ok (.istore_n 2, 1) := by decide +kernel
theorem d_MO_ready_162 : decode b_MO_ready 162 = .ok (.iload_n 2, 1) := by decide +kernel
theorem d_MO_ready_163 : decode b_MO_ready 163 = .ok (.bipush 30, 2) := by decide +kernel
theorem d_MO_ready_165 : decode b_MO_ready 165 = .ok (.if_icmp .ge 40, 3) := by decide +kernel
theorem d_MO_ready_168 : decode b_MO_ready 168 = .ok (.aload_n 0, 1) := by decide +kernel
theorem d_MO_ready_169 : decode b_MO_ready 169 = .ok (.iload_n 1, 1) := by decide +kernel
theorem d_MO_ready_170 : decode b_MO_ready 170 = .ok (.iload_n 2, 1) := by decide +kernel
theorem d_MO_ready_171 : decode b_MO_ready 171 = .ok (.invokevirtual 132, 3) := by decide +kernel
theorem d_MO_ready_174 : decode b_MO_ready 174 = .ok (.ifCond .eq 25, 3) := by decide +kernel
theorem d_MO_ready_177 : decode b_MO_ready 177 = .ok (.aload_n 0, 1) := by decide +kernel
theorem d_MO_ready_178 : decode b_MO_ready 178 = .ok (.getfield 44, 3) := by decide +kernel
theorem d_MO_ready_181 : decode b_MO_ready 181 = .ok (.bipush 30, 2) := by decide +kernel
theorem d_MO_ready_183 : decode b_MO_ready 183 = .ok (.iload_n 1, 1) := by decide +kernel
theorem d_MO_ready_184 : decode b_MO_ready 184 = .ok (.imul, 1) := by decide +kernel
theorem d_MO_ready_185 : decode b_MO_ready 185 = .ok (.iload_n 2, 1) := by decide +kernel
theorem d_MO_ready_186 : decode b_MO_ready 186 = .ok (.iadd, 1) := by decide +kernel
theorem d_MO_ready_187 : decode b_MO_ready 187 = .ok (.iaload, 1) := by decide +kernel
theorem d_MO_ready_188 : decode b_MO_ready 188 = .ok (.aload_n 0, 1) := by decide +kernel
theorem d_MO_ready_189 : decode b_MO_ready 189 = .ok (.getfield 13, 3) := by decide +kernel
theorem d_MO_ready_192 : decode b_MO_ready 192 = .ok (.iload_n 2, 1) := by decide +kernel
theorem d_MO_ready_193 : decode b_MO_ready 193 = .ok (.iaload, 1) := by decide +kernel
theorem d_MO_ready_194 : decode b_MO_ready 194 = .ok (.if_icmp .ge 5, 3) := by decide +kernel
theorem d_MO_ready_197 : decode b_MO_ready 197 = .ok (.iconst 5, 1) := by decide +kernel
theorem d_MO_ready_198 : decode b_MO_ready 198 = .ok (.ireturn, 1) := by decide +kernel
theorem d_MO_ready_199 : decode b_MO_ready 199 = .ok (.iinc 2 1, 3) := by decide +kernel
theorem d_MO_ready_202 : decode b_MO_ready 202 = .ok (.goto (-40), 3) := by decide +kernel
theorem d_MO_ready_205 : decode b_MO_ready 205 = .ok (.aload_n 0, 1) := by decide +kernel
theorem d_MO_ready_206 : decode b_MO_ready 206 = .ok (.iload_n 1, 1) := by decide +kernel
theorem d_MO_ready_207 : decode b_MO_ready 207 = .ok (.iconst 0, 1) := by decide +kernel
theorem d_MO_ready_208 : decode b_MO_ready 208 = .ok (.invokevirtual 104, 3) := by decide +kernel
theorem d_MO_ready_211 : decode b_MO_ready 211 = .ok (.ifCond .ne 12, 3) := by decide +kernel
theorem d_MO_ready_214 : decode b_MO_ready 214 = .ok (.aload_n 0, 1) := by decide +kernel
theorem d_MO_ready_215 : decode b_MO_ready 215 = .ok (.iload_n 1, 1) := by decide +kernel
theorem d_MO_ready_216 : decode b_MO_ready 216 = .ok (.iconst 1, 1) := by decide +kernel
theorem d_MO_ready_217 : decode b_MO_ready 217 = .ok (.invokevirtual 104, 3) := by decide +kernel
theorem d_MO_ready_220 : decode b_MO_ready 220 = .ok (.ifCond .eq 8, 3) := by decide +kernel
theorem d_MO_ready_223 : decode b_MO_ready 223 = .ok (.bipush 6, 2) := by decide +kernel
theorem d_MO_ready_225 : decode b_MO_ready 225 = .ok (.goto 4, 3) := by decide +kernel
theorem d_MO_ready_228 : decode b_MO_ready 228 = .ok (.iconst 0, 1) := by decide +kernel
theorem d_MO_ready_229 : decode b_MO_ready 229 = .ok (.ireturn, 1) := by decide +kernel
theorem d_MO_missing_0 : decode b_MO_missing 0 = .ok (.aload_n 0, 1) := by decide +kernel
theorem d_MO_missing_1 : decode b_MO_missing 1 = .ok (.aload_n 0, 1) := by decide +kernel
theorem d_MO_missing_2 : decode b_MO_missing 2 = .ok (.iload_n 1, 1) := by decide +kernel
theorem d_MO_missing_3 : decode b_MO_missing 3 = .ok (.invokevirtual 67, 3) := by decide +kernel
theorem d_MO_missing_6 : decode b_MO_missing 6 = .ok (.ifCond .ne 7, 3) := by decide +kernel
theorem d_MO_missing_9 : decode b_MO_missing 9 = .ok (.iconst 1, 1) := by decide +kernel
theorem d_MO_missing_10 : decode b_MO_missing 10 = .ok (.goto 4, 3) := by decide +kernel
theorem d_MO_missing_13 : decode b_MO_missing 13 = .ok (.iconst 0, 1) := by decide +kernel
theorem d_MO_missing_14 : decode b_MO_missing 14 = .ok (.iload_n 2, 1) := by decide +kernel
theorem d_MO_missing_15 : decode b_MO_missing 15 = .ok (.ifCond .ge 7, 3) := by decide +kernel
theorem d_MO_missing_18 : decode b_MO_missing 18 = .ok (.iconst 1, 1) := by decide +kernel
theorem d_MO_missing_19 : decode b_MO_missing 19 = .ok (.goto 4, 3) := by decide +kernel
theorem d_MO_missing_22 : decode b_MO_missing 22 = .ok (.iconst 0, 1) := by decide +kernel
theorem d_MO_missing_23 : decode b_MO_missing 23 = .ok (.iconst 0, 1) := by decide +kernel
theorem d_MO_missing_24 : decode b_MO_missing 24 = .ok (.iconst 0, 1) := by decide +kernel
theorem d_MO_missing_25 : decode b_MO_missing 25 = .ok (.invokevirtual 81, 3) := by decide +kernel
theorem d_MO_missing_28 : decode b_MO_missing 28 = .ok (.ifCond .eq 5, 3) := by decide +kernel
theorem d_MO_missing_31 : decode b_MO_missing 31 = .ok (.iconst 0, 1) := by decide +kernel
theorem d_MO_missing_32 : decode b_MO_missing 32 = .ok (.ireturn, 1) := by decide +kernel
theorem d_MO_missing_33 : decode b_MO_missing 33 = .ok (.iload_n 2, 1) := by decide +kernel
theorem d_MO_missing_34 : decode b_MO_missing 34 = .ok (.istore_n 3, 1) := by decide +kernel
theorem d_MO_missing_35 : decode b_MO_missing 35 = .ok (.iconst 0, 1) := by decide +kernel
theorem d_MO_missing_36 : decode b_MO_missing 36 = .ok (.istore 4, 2) := by decide +kernel
theorem d_MO_missing_38 : decode b_MO_missing 38 = .ok (.iload 4, 2) := by decide +kernel
theorem d_MO_missing_40 : decode b_MO_missing 40 = .ok (.sipush 240, 3) := by decide +kernel
theorem d_MO_missing_43 : decode b_MO_missing 43 = .ok (.if_icmp .ge 53, 3) := by decide +kernel
theorem d_MO_missing_46 : decode b_MO_missing 46 = .ok (.aload_n 0, 1) := by decide +kernel
theorem d_MO_missing_47 : decode b_MO_missing 47 = .ok (.iload_n 1, 1) := by decide +kernel
theorem d_MO_missing_48 : decode b_MO_missing 48 = .ok (.iload 4, 2) := by decide +kernel
theorem d_MO_missing_50 : decode b_MO_missing 50 = .ok (.invokevirtual 115, 3) := by decide +kernel
theorem d_MO_missing_53 : decode b_MO_missing 53 = .ok (.ifCond .le 37, 3) := by decide +kernel
theorem d_MO_missing_56 : decode b_MO_missing 56 = .ok (.iload_n 3, 1) := by decide +kernel
theorem d_MO_missing_57 : decode b_MO_missing 57 = .ok (.ifCond .ne 30, 3) := by decide +kernel
theorem d_MO_missing_60 : decode b_MO_missing 60 = .ok (.sipush 10000, 3) := by decide +kernel
theorem d_MO_missing_63 : decode b_MO_missing 63 = .ok (.iload 4, 2) := by decide +kernel
theorem d_MO_missing_65 : decode b_MO_missing 65 = .ok (.bipush 30, 2) := by decide +kernel
theorem d_MO_missing_67 : decode b_MO_missing 67 = .ok (.idiv, 1) := by decide +kernel
theorem d_MO_missing_68 : decode b_MO_missing 68 = .ok (.imul, 1) := by decide +kernel
theorem d_MO_missing_69 : decode b_MO_missing 69 = .ok (.bipush 100, 2) := by decide +kernel
theorem d_MO_missing_71 : decode b_MO_missing 71 = .ok (.iload 4, 2) := by decide +kernel
theorem d_MO_missing_73 : decode b_MO_missing 73 = .ok (.bipush 30, 2) := by decide +kernel
theorem d_MO_missing_75 : decode b_MO_missing 75 = .ok (.irem, 1) := by decide +kernel
theorem d_MO_missing_76 : decode b_MO_missing 76 = .ok (.imul, 1) := by decide +kernel
theorem d_MO_missing_77 : decode b_MO_missing 77 = .ok (.iadd, 1) := by decide +kernel
theorem d_MO_missing_78 : decode b_MO_missing 78 = .ok (.aload_n 0, 1) := by decide +kernel
theorem d_MO_missing_79 : decode b_MO_missing 79 = .ok (.iload_n 1, 1) := by decide +kernel
theorem d_MO_missing_80 : decode b_MO_missing 80 = .ok (.iload 4, 2) := by decide +kernel
theorem d_MO_missing_82 : decode b_MO_missing 82 = .ok (.invokevirtual 115, 3) := by decide +kernel
theorem d_MO_missing_85 : decode b_MO_missing 85 = .ok (.iadd, 1) := by decide +kernel
theorem d_MO_missing_86 : decode b_MO_missing 86 = .ok (.ireturn, 1) := by decide +kernel
theorem d_MO_missing_87 : decode b_MO_missing 87 = .ok (.iinc 3 (-1), 3) := by decide +kernel
theorem d_MO_missing_90 : decode b_MO_missing 90 = .ok (.iinc 4 1, 3) := by decide +kernel
theorem d_MO_missing_93 : decode b_MO_missing 93 = .ok (.goto (-55), 3) := by decide +kernel
theorem d_MO_missing_96 : decode b_MO_missing 96 = .ok (.iconst (-1), 1) := by decide +kernel
theorem d_MO_missing_97 : decode b_MO_missing 97 = .ok (.ireturn, 1) := by decide +kernel
theorem d_MO_share_0 : decode b_MO_share 0 = .ok (.aload_n 0, 1) := by decide +kernel
theorem d_MO_share_1 : decode b_MO_share 1 = .ok (.iload_n 1, 1) := by decide +kernel
theorem d_MO_share_2 : decode b_MO_share 2 = .ok (.invokevirtual 67, 3) := by decide +kernel
theorem d_MO_share_5 : decode b_MO_share 5 = .ok (.ifCond .ne 7, 3) := by decide +kernel
theorem d_MO_share_8 : decode b_MO_share 8 = .ok (.iconst 1, 1) := by decide +kernel
theorem d_MO_share_9 : decode b_MO_share 9 = .ok (.goto 4, 3) := by decide +kernel
theorem d_MO_share_12 : decode b_MO_share 12 = .ok (.iconst 0, 1) := by decide +kernel
theorem d_MO_share_13 : decode b_MO_share 13 = .ok (.istore_n 2, 1) := by decide +kernel
theorem d_MO_share_14 : decode b_MO_share 14 = .ok (.iconst 0, 1) := by decide +kernel
theorem d_MO_share_15 : decode b_MO_share 15 = .ok (.istore_n 3, 1) := by decide +kernel
theorem d_MO_share_16 : decode b_MO_share 16 = .ok (.iconst 0, 1) := by decide +kernel
theorem d_MO_share_17 : decode b_MO_share 17 = .ok (.istore 4, 2) := by decide +kernel
theorem d_MO_share_19 : decode b_MO_share 19 = .ok (.iconst 0, 1) := by decide +kernel
theorem d_MO_share_20 : decode b_MO_share 20 = .ok (.istore 5, 2) := by decide +kernel
theorem d_MO_share_22 : decode b_MO_share 22 = .ok (.iload 5, 2) := by decide +kernel
theorem d_MO_share_24 : decode b_MO_share 24 = .ok (.sipush 240, 3) := by decide +kernel
theorem d_MO_share_27 : decode b_MO_share 27 = .ok (.if_icmp .ge 65, 3) := by decide +kernel
theorem d_MO_share_30 : decode b_MO_share 30 = .ok (.iload_n 2, 1) := by decide +kernel
theorem d_MO_share_31 : decode b_MO_share 31 = .ok (.ifCond .ne 61, 3) := by decide +kernel
theorem d_MO_share_34 : decode b_MO_share 34 = .ok (.iload_n 3, 1) := by decide +kernel
theorem d_MO_share_35 : decode b_MO_share 35 = .ok (.aload_n 0, 1) := by decide +kernel
theorem d_MO_share_36 : decode b_MO_share 36 = .ok (.getfield 50, 3) := by decide +kernel
theorem d_MO_share_39 : decode b_MO_share 39 = .ok (.sipush 240, 3) := by decide +kernel
theorem d_MO_share_42 : decode b_MO_share 42 = .ok (.aload_n 0, 1) := by decide +kernel
theorem d_MO_share_43 : decode b_MO_share 43 = .ok (.getfield 19, 3) := by decide +kernel
theorem d_MO_share_46 : decode b_MO_share 46 = .ok (.iload_n 1, 1) := by decide +kernel
theorem d_MO_share_47 : decode b_MO_share 47 = .ok (.iaload, 1) := by decide +kernel
theorem d_MO_share_48 : decode b_MO_share 48 = .ok (.imul, 1) := by decide +kernel
theorem d_MO_share_49 : decode b_MO_share 49 = .ok (.iload 5, 2) := by decide +kernel
theorem d_MO_share_51 : decode b_MO_share 51 = .ok (.iadd, 1) := by decide +kernel
theorem d_MO_share_52 : decode b_MO_share 52 = .ok (.iaload, 1) := by decide +kernel
theorem d_MO_share_53 : decode b_MO_share 53 = .ok (.iadd, 1) := by decide +kernel
theorem d_MO_share_54 : decode b_MO_share 54 = .ok (.istore_n 3, 1) := by decide +kernel
theorem d_MO_share_55 : decode b_MO_share 55 = .ok (.iload 4, 2) := by decide +kernel
theorem d_MO_share_57 : decode b_MO_share 57 = .ok (.aload_n 0, 1) := by decide +kernel
theorem d_MO_share_58 : decode b_MO_share 58 = .ok (.getfield 50, 3) := by decide +kernel
theorem d_MO_share_61 : decode b_MO_share 61 = .ok (.sipush 240, 3) := by decide +kernel
theorem d_MO_share_64 : decode b_MO_share 64 = .ok (.aload_n 0, 1) := by decide +kernel
theorem d_MO_share_65 : decode b_MO_share 65 = .ok (.getfield 19, 3) := by decide +kernel
theorem d_MO_share_68 : decode b_MO_share 68 = .ok (.iload_n 1, 1) := by decide +kernel
theorem d_MO_share_69 : decode b_MO_share 69 = .ok (.iaload, 1) := by decide +kernel
theorem d_MO_share_70 : decode b_MO_share 70 = .ok (.imul, 1) := by decide +kernel
theorem d_MO_share_71 : decode b_MO_share 71 = .ok (.iload 5, 2) := by decide +kernel
theorem d_MO_share_73 : decode b_MO_share 73 = .ok (.iadd, 1) := by decide +kernel
theorem d_MO_share_74 : decode b_MO_share 74 = .ok (.iaload, 1) := by decide +kernel
theorem d_MO_share_75 : decode b_MO_share 75 = .ok (.aload_n 0, 1) := by decide +kernel
theorem d_MO_share_76 : decode b_MO_share 76 = .ok (.iload_n 1, 1) := by decide +kernel
theorem d_MO_share_77 : decode b_MO_share 77 = .ok (.iload 5, 2) := by decide +kernel
theorem d_MO_share_79 : decode b_MO_share 79 = .ok (.invokevirtual 115, 3) := by decide +kernel
theorem d_MO_share_82 : decode b_MO_share 82 = .ok (.isub, 1) := by decide +kernel
theorem d_MO_share_83 : decode b_MO_share 83 = .ok (.iadd, 1) := by decide +kernel
theorem d_MO_share_84 : decode b_MO_share 84 = .ok (.istore 4, 2) := by decide +kernel
theorem d_MO_share_86 : decode b_MO_share 86 = .ok (.iinc 5 1, 3) := by decide +kernel
theorem d_MO_share_89 : decode b_MO_share 89 = .ok (.goto (-67), 3) := by decide +kernel
theorem d_MO_share_92 : decode b_MO_share 92 = .ok (.aload_n 0, 1) := by decide +kernel
theorem d_MO_share_93 : decode b_MO_share 93 = .ok (.iload_n 2, 1) := by decide +kernel
theorem d_MO_share_94 : decode b_MO_share 94 = .ok (.iload_n 3, 1) := by decide +kernel
theorem d_MO_share_95 : decode b_MO_share 95 = .ok (.ifCond .ne 7, 3) := by decide +kernel
theorem d_MO_share_98 : decode b_MO_share 98 = .ok (.iconst 1, 1) := by decide +kernel
theorem d_MO_share_99 : decode b_MO_share 99 = .ok (.goto 4, 3) := by decide +kernel
theorem d_MO_share_102 : decode b_MO_share 102 = .ok (.iconst 0, 1) := by decide +kernel
theorem d_MO_share_103 : decode b_MO_share 103 = .ok (.iconst 0, 1) := by decide +kernel
theorem d_MO_share_104 : decode b_MO_share 104 = .ok (.iconst 0, 1) := by decide +kernel
theorem d_MO_share_105 : decode b_MO_share 105 = .ok (.invokevirtual 81, 3) := by decide +kernel
theorem d_MO_share_108 : decode b_MO_share 108 = .ok (.ifCond .eq 5, 3) := by decide +kernel
theorem d_MO_share_111 : decode b_MO_share 111 = .ok (.iconst 0, 1) := by decide +kernel
theorem d_MO_share_112 : decode b_MO_share 112 = .ok (.ireturn, 1) := by decide +kernel
theorem d_MO_share_113 : decode b_MO_share 113 = .ok (.sipush 1000, 3) := by decide +kernel
theorem d_MO_share_116 : decode b_MO_share 116 = .ok (.iload 4, 2) := by decide +kernel
theorem d_MO_share_118 : decode b_MO_share 118 = .ok (.imul, 1) := by decide +kernel
theorem d_MO_share_119 : decode b_MO_share 119 = .ok (.iload_n 3, 1) := by decide +kernel
theorem d_MO_share_120 : decode b_MO_share 120 = .ok (.idiv, 1) := by decide +kernel
theorem d_MO_share_121 : decode b_MO_share 121 = .ok (.ireturn, 1) := by decide +kernel
theorem d_MO_axle_0 : decode b_MO_axle 0 = .ok (.aload_n 0, 1) := by decide +kernel
theorem d_MO_axle_1 : decode b_MO_axle 1 = .ok (.aload_n 0, 1) := by decide +kernel
theorem d_MO_axle_2 : decode b_MO_axle 2 = .ok (.iload_n 1, 1) := by decide +kernel
theorem d_MO_axle_3 : decode b_MO_axle 3 = .ok (.invokevirtual 67, 3) := by decide +kernel
theorem d_MO_axle_6 : decode b_MO_axle 6 = .ok (.ifCond .eq 12, 3) := by decide +kernel
theorem d_MO_axle_9 : decode b_MO_axle 9 = .ok (.iload_n 2, 1) := by decide +kernel
theorem d_MO_axle_10 : decode b_MO_axle 10 = .ok (.iconst 0, 1) := by decide +kernel
theorem d_MO_axle_11 : decode b_MO_axle 11 = .ok (.iconst 3, 1) := by decide +kernel
theorem d_MO_axle_12 : decode b_MO_axle 12 = .ok (.invokestatic 63, 3) := by decide +kernel
theorem d_MO_axle_15 : decode b_MO_axle 15 = .ok (.ifCond .ne 7, 3) := by decide +kernel
theorem d_MO_axle_18 : decode b_MO_axle 18 = .ok (.iconst 1, 1) := by decide +kernel
theorem d_MO_axle_19 : decode b_MO_axle 19 = .ok (.goto 4, 3) := by decide +kernel
theorem d_MO_axle_22 : decode b_MO_axle 22 = .ok (.iconst 0, 1) := by decide +kernel
theorem d_MO_axle_23 : decode b_MO_axle 23 = .ok (.iconst 0, 1) := by decide +kernel
theorem d_MO_axle_24 : decode b_MO_axle 24 = .ok (.iconst 0, 1) := by decide +kernel
theorem d_MO_axle_25 : decode b_MO_axle 25 = .ok (.iconst 0, 1) := by decide +kernel
theorem d_MO_axle_26 : decode b_MO_axle 26 = .ok (.invokevirtual 81, 3) := by decide +kernel
theorem d_MO_axle_29 : decode b_MO_axle 29 = .ok (.ifCond .eq 5, 3) := by decide +kernel
theorem d_MO_axle_32 : decode b_MO_axle 32 = .ok (.lconst 0, 1) := by decide +kernel
theorem d_MO_axle_33 : decode b_MO_axle 33 = .ok (.lreturn, 1) := by decide +kernel
theorem d_MO_axle_34 : decode b_MO_axle 34 = .ok (.aload_n 0, 1) := by decide +kernel
theorem d_MO_axle_35 : decode b_MO_axle 35 = .ok (.iload_n 1, 1) := by decide +kernel
theorem d_MO_axle_36 : decode b_MO_axle 36 = .ok (.iload_n 2, 1) := by decide +kernel
theorem d_MO_axle_37 : decode b_MO_axle 37 = .ok (.iconst 1, 1) := by decide +kernel
theorem d_MO_axle_38 : decode b_MO_axle 38 = .ok (.if_icmp .le 7, 3) := by decide +kernel
theorem d_MO_axle_41 : decode b_MO_axle 41 = .ok (.iconst 1, 1) := by decide +kernel
theorem d_MO_axle_42 : decode b_MO_axle 42 = .ok (.goto 4, 3) := by decide +kernel
theorem d_MO_axle_45 : decode b_MO_axle 45 = .ok (.iconst 0, 1) := by decide +kernel
theorem d_MO_axle_46 : decode b_MO_axle 46 = .ok (.invokevirtual 100, 3) := by decide +kernel
theorem d_MO_axle_49 : decode b_MO_axle 49 = .ok (.lstore_n 3, 1) := by decide +kernel
theorem d_MO_axle_50 : decode b_MO_axle 50 = .ok (.lload_n 3, 1) := by decide +kernel
theorem d_MO_axle_51 : decode b_MO_axle 51 = .ok (.lconst 0, 1) := by decide +kernel
theorem d_MO_axle_52 : decode b_MO_axle 52 = .ok (.lcmp, 1) := by decide +kernel
theorem d_MO_axle_53 : decode b_MO_axle 53 = .ok (.ifCond .ge 8, 3) := by decide +kernel
theorem d_MO_axle_56 : decode b_MO_axle 56 = .ok (.lload_n 3, 1) := by decide +kernel
theorem d_MO_axle_57 : decode b_MO_axle 57 = .ok (.lneg, 1) := by decide +kernel
theorem d_MO_axle_58 : decode b_MO_axle 58 = .ok (.goto 4, 3) := by decide +kernel
theorem d_MO_axle_61 : decode b_MO_axle 61 = .ok (.lload_n 3, 1) := by decide +kernel
theorem d_MO_axle_62 : decode b_MO_axle 62 = .ok (.lstore 5, 2) := by decide +kernel
theorem d_MO_axle_64 : decode b_MO_axle 64 = .ok (.aload_n 0, 1) := by decide +kernel
theorem d_MO_axle_65 : decode b_MO_axle 65 = .ok (.getfield 22, 3) := by decide +kernel
theorem d_MO_axle_68 : decode b_MO_axle 68 = .ok (.iload_n 1, 1) := by decide +kernel
theorem d_MO_axle_69 : decode b_MO_axle 69 = .ok (.iaload, 1) := by decide +kernel
theorem d_MO_axle_70 : decode b_MO_axle 70 = .ok (.i2l, 1) := by decide +kernel
theorem d_MO_axle_71 : decode b_MO_axle 71 = .ok (.lstore 7, 2) := by decide +kernel
theorem d_MO_axle_73 : decode b_MO_axle 73 = .ok (.lload 7, 2) := by decide +kernel
theorem d_MO_axle_75 : decode b_MO_axle 75 = .ok (.lconst 0, 1) := by decide +kernel
theorem d_MO_axle_76 : decode b_MO_axle 76 = .ok (.lcmp, 1) := by decide +kernel
theorem d_MO_axle_77 : decode b_MO_axle 77 = .ok (.ifCond .le 21, 3) := by decide +kernel
theorem d_MO_axle_80 : decode b_MO_axle 80 = .ok (.lload 5, 2) := by decide +kernel
theorem d_MO_axle_82 : decode b_MO_axle 82 = .ok (.lload 7, 2) := by decide +kernel
theorem d_MO_axle_84 : decode b_MO_axle 84 = .ok (.lrem, 1) := by decide +kernel
theorem d_MO_axle_85 : decode b_MO_axle 85 = .ok (.lstore 9, 2) := by decide +kernel
theorem d_MO_axle_87 : decode b_MO_axle 87 = .ok (.lload 7, 2) := by decide +kernel
theorem d_MO_axle_89 : decode b_MO_axle 89 = .ok (.lstore 5, 2) := by decide +kernel
theorem d_MO_axle_91 : decode b_MO_axle 91 = .ok (.lload 9, 2) := by decide +kernel
theorem d_MO_axle_93 : decode b_MO_axle 93 = .ok (.lstore 7, 2) := by decide +kernel
theorem d_MO_axle_95 : decode b_MO_axle 95 = .ok (.goto (-22), 3) := by decide +kernel
theorem d_MO_axle_98 : decode b_MO_axle 98 = .ok (.iload_n 2, 1) := by decide +kernel
theorem d_MO_axle_99 : decode b_MO_axle 99 = .ok (.iconst 2, 1) := by decide +kernel
theorem d_MO_axle_100 : decode b_MO_axle 100 = .ok (.irem, 1) := by decide +kernel
theorem d_MO_axle_101 : decode b_MO_axle 101 = .ok (.ifCond .ne 10, 3) := by decide +kernel
theorem d_MO_axle_104 : decode b_MO_axle 104 = .ok (.lload_n 3, 1) := by decide +kernel
theorem d_MO_axle_105 : decode b_MO_axle 105 = .ok (.lload 5, 2) := by decide +kernel
theorem d_MO_axle_107 : decode b_MO_axle 107 = .ok (.ldiv, 1) := by decide +kernel
theorem d_MO_axle_108 : decode b_MO_axle 108 = .ok (.goto 13, 3) := by decide +kernel
theorem d_MO_axle_111 : decode b_MO_axle 111 = .ok (.aload_n 0, 1) := by decide +kernel
theorem d_MO_axle_112 : decode b_MO_axle 112 = .ok (.getfield 22, 3) := by decide +kernel
theorem d_MO_axle_115 : decode b_MO_axle 115 = .ok (.iload_n 1, 1) := by decide +kernel
theorem d_MO_axle_116 : decode b_MO_axle 116 = .ok (.iaload, 1) := by decide +kernel
theorem d_MO_axle_117 : decode b_MO_axle 117 = .ok (.i2l, 1) := by decide +kernel
theorem d_MO_axle_118 : decode b_MO_axle 118 = .ok (.lload 5, 2) := by decide +kernel
theorem d_MO_axle_120 : decode b_MO_axle 120 = .ok (.ldiv, 1) := by decide +kernel
theorem d_MO_axle_121 : decode b_MO_axle 121 = .ok (.lreturn, 1) := by decide +kernel
theorem d_MO_row_0 : decode b_MO_row 0 = .ok (.iload_n 1, 1) := by decide +kernel
theorem d_MO_row_1 : decode b_MO_row 1 = .ok (.iconst 0, 1) := by decide +kernel
theorem d_MO_row_2 : decode b_MO_row 2 = .ok (.aload_n 0, 1) := by decide +kernel
theorem d_MO_row_3 : decode b_MO_row 3 = .ok (.getfield 119, 3) := by decide +kernel
theorem d_MO_row_6 : decode b_MO_row 6 = .ok (.iconst 1, 1) := by decide +kernel
theorem d_MO_row_7 : decode b_MO_row 7 = .ok (.isub, 1) := by decide +kernel
theorem d_MO_row_8 : decode b_MO_row 8 = .ok (.invokestatic 63, 3) := by decide +kernel
theorem d_MO_row_11 : decode b_MO_row 11 = .ok (.ifCond .eq 18, 3) := by decide +kernel
theorem d_MO_row_14 : decode b_MO_row 14 = .ok (.iload_n 1, 1) := by decide +kernel
theorem d_MO_row_15 : decode b_MO_row 15 = .ok (.aload_n 0, 1) := by decide +kernel
theorem d_MO_row_16 : decode b_MO_row 16 = .ok (.getfield 119, 3) := by decide +kernel
theorem d_MO_row_19 : decode b_MO_row 19 = .ok (.bipush 100, 2) := by decide +kernel
theorem d_MO_row_21 : decode b_MO_row 21 = .ok (.isub, 1) := by decide +kernel
theorem d_MO_row_22 : decode b_MO_row 22 = .ok (.if_icmp .lt 7, 3) := by decide +kernel
theorem d_MO_row_25 : decode b_MO_row 25 = .ok (.iconst 1, 1) := by decide +kernel
theorem d_MO_row_26 : decode b_MO_row 26 = .ok (.goto 4, 3) := by decide +kernel
theorem d_MO_row_29 : decode b_MO_row 29 = .ok (.iconst 0, 1) := by decide +kernel
theorem d_MO_row_30 : decode b_MO_row 30 = .ok (.istore_n 3, 1) := by decide +kernel
theorem d_MO_row_31 : decode b_MO_row 31 = .ok (.aload_n 0, 1) := by decide +kernel
theorem d_MO_row_32 : decode b_MO_row 32 = .ok (.iload_n 3, 1) := by decide +kernel
theorem d_MO_row_33 : decode b_MO_row 33 = .ok (.ifCond .eq 12, 3) := by decide +kernel
theorem d_MO_row_36 : decode b_MO_row 36 = .ok (.iload_n 2, 1) := by decide +kernel
theorem d_MO_row_37 : decode b_MO_row 37 = .ok (.iconst 0, 1) := by decide +kernel
theorem d_MO_row_38 : decode b_MO_row 38 = .ok (.iconst 2, 1) := by decide +kernel
theorem d_MO_row_39 : decode b_MO_row 39 = .ok (.invokestatic 63, 3) := by decide +kernel
theorem d_MO_row_42 : decode b_MO_row 42 = .ok (.ifCond .ne 7, 3) := by decide +kernel
theorem d_MO_row_45 : decode b_MO_row 45 = .ok (.iconst 1, 1) := by decide +kernel
theorem d_MO_row_46 : decode b_MO_row 46 = .ok (.goto 4, 3) := by decide +kernel
theorem d_MO_row_49 : decode b_MO_row 49 = .ok (.iconst 0, 1) := by decide +kernel
theorem d_MO_row_50 : decode b_MO_row 50 = .ok (.iconst 0, 1) := by decide +kernel
theorem d_MO_row_51 : decode b_MO_row 51 = .ok (.iconst 0, 1) := by decide +kernel
theorem d_MO_row_52 : decode b_MO_row 52 = .ok (.iconst 0, 1) := by decide +kernel
theorem d_MO_row_53 : decode b_MO_row 53 = .ok (.invokevirtual 81, 3) := by decide +kernel
theorem d_MO_row_56 : decode b_MO_row 56 = .ok (.ifCond .eq 5, 3) := by decide +kernel
theorem d_MO_row_59 : decode b_MO_row 59 = .ok (.iconst 0, 1) := by decide +kernel
theorem d_MO_row_60 : decode b_MO_row 60 = .ok (.ireturn, 1) := by decide +kernel
theorem d_MO_row_61 : decode b_MO_row 61 = .ok (.aload_n 0, 1) := by decide +kernel
theorem d_MO_row_62 : decode b_MO_row 62 = .ok (.getfield 53, 3) := by decide +kernel
theorem d_MO_row_65 : decode b_MO_row 65 = .ok (.iconst 3, 1) := by decide +kernel
theorem d_MO_row_66 : decode b_MO_row 66 = .ok (.iload_n 1, 1) := by decide +kernel
theorem d_MO_row_67 : decode b_MO_row 67 = .ok (.bipush 100, 2) := by decide +kernel
theorem d_MO_row_69 : decode b_MO_row 69 = .ok (.irem, 1) := by decide +kernel
theorem d_MO_row_70 : decode b_MO_row 70 = .ok (.imul, 1) := by decide +kernel
theorem d_MO_row_71 : decode b_MO_row 71 = .ok (.iload_n 2, 1) := by decide +kernel
theorem d_MO_row_72 : decode b_MO_row 72 = .ok (.iadd, 1) := by decide +kernel
theorem d_MO_row_73 : decode b_MO_row 73 = .ok (.iaload, 1) := by decide +kernel
theorem d_MO_row_74 : decode b_MO_row 74 = .ok (.ireturn, 1) := by decide +kernel
theorem d_MO_has_0 : decode b_MO_has 0 = .ok (.aload_n 0, 1) := by decide +kernel
theorem d_MO_has_1 : decode b_MO_has 1 = .ok (.aload_n 0, 1) := by decide +kernel
theorem d_MO_has_2 : decode b_MO_has 2 = .ok (.iload_n 1, 1) := by decide +kernel
theorem d_MO_has_3 : decode b_MO_has 3 = .ok (.iload_n 2, 1) := by decide +kernel
theorem d_MO_has_4 : decode b_MO_has 4 = .ok (.iload_n 3, 1) := by decide +kernel
theorem d_MO_has_5 : decode b_MO_has 5 = .ok (.invokevirtual 108, 3) := by decide +kernel
theorem d_MO_has_8 : decode b_MO_has 8 = .ok (.ifCond .ne 7, 3) := by decide +kernel
theorem d_MO_has_11 : decode b_MO_has 11 = .ok (.iconst 1, 1) := by decide +kernel
theorem d_MO_has_12 : decode b_MO_has 12 = .ok (.goto 4, 3) := by decide +kernel
theorem d_MO_has_15 : decode b_MO_has 15 = .ok (.iconst 0, 1) := by decide +kernel
theorem d_MO_has_16 : decode b_MO_has 16 = .ok (.iconst 0, 1) := by decide +kernel
theorem d_MO_has_17 : decode b_MO_has 17 = .ok (.iconst 0, 1) := by decide +kernel
theorem d_MO_has_18 : decode b_MO_has 18 = .ok (.iconst 0, 1) := by decide +kernel
theorem d_MO_has_19 : decode b_MO_has 19 = .ok (.invokevirtual 81, 3) := by decide +kernel
theorem d_MO_has_22 : decode b_MO_has 22 = .ok (.ifCond .eq 5, 3) := by decide +kernel
theorem d_MO_has_25 : decode b_MO_has 25 = .ok (.iconst 0, 1) := by decide +kernel
theorem d_MO_has_26 : decode b_MO_has 26 = .ok (.ireturn, 1) := by decide +kernel
theorem d_MO_has_27 : decode b_MO_has 27 = .ok (.aload_n 0, 1) := by decide +kernel
theorem d_MO_has_28 : decode b_MO_has 28 = .ok (.getfield 47, 3) := by decide +kernel
theorem d_MO_has_31 : decode b_MO_has 31 = .ok (.sipush 240, 3) := by decide +kernel
theorem d_MO_has_34 : decode b_MO_has 34 = .ok (.iload_n 1, 1) := by decide +kernel
theorem d_MO_has_35 : decode b_MO_has 35 = .ok (.imul, 1) := by decide +kernel
theorem d_MO_has_36 : decode b_MO_has 36 = .ok (.bipush 30, 2) := by decide +kernel
theorem d_MO_has_38 : decode b_MO_has 38 = .ok (.iload_n 2, 1) := by decide +kernel
theorem d_MO_has_39 : decode b_MO_has 39 = .ok (.imul, 1) := by decide +kernel
theorem d_MO_has_40 : decode b_MO_has 40 = .ok (.iadd, 1) := by decide +kernel
theorem d_MO_has_41 : decode b_MO_has 41 = .ok (.iload_n 3, 1) := by decide +kernel
theorem d_MO_has_42 : decode b_MO_has 42 = .ok (.iadd, 1) := by decide +kernel
theorem d_MO_has_43 : decode b_MO_has 43 = .ok (.iaload, 1) := by decide +kernel
theorem d_MO_has_44 : decode b_MO_has 44 = .ok (.ireturn, 1) := by decide +kernel
theorem d_MO_stocked_0 : decode b_MO_stocked 0 = .ok (.aload_n 0, 1) := by decide +kernel
theorem d_MO_stocked_1 : decode b_MO_stocked 1 = .ok (.iload_n 1, 1) := by decide +kernel
theorem d_MO_stocked_2 : decode b_MO_stocked 2 = .ok (.invokestatic 74, 3) := by decide +kernel
theorem d_MO_stocked_5 : decode b_MO_stocked 5 = .ok (.ifCond .ne 7, 3) := by decide +kernel
theorem d_MO_stocked_8 : decode b_MO_stocked 8 = .ok (.iconst 1, 1) := by decide +kernel
theorem d_MO_stocked_9 : decode b_MO_stocked 9 = .ok (.goto 4, 3) := by decide +kernel
theorem d_MO_stocked_12 : decode b_MO_stocked 12 = .ok (.iconst 0, 1) := by decide +kernel
theorem d_MO_stocked_13 : decode b_MO_stocked 13 = .ok (.iconst 0, 1) := by decide +kernel
theorem d_MO_stocked_14 : decode b_MO_stocked 14 = .ok (.iconst 0, 1) := by decide +kernel
theorem d_MO_stocked_15 : decode b_MO_stocked 15 = .ok (.iconst 0, 1) := by decide +kernel
theorem d_MO_stocked_16 : decode b_MO_stocked 16 = .ok (.invokevirtual 81, 3) := by decide +kernel
theorem d_MO_stocked_19 : decode b_MO_stocked 19 = .ok (.ifCond .eq 5, 3) := by decide +kernel
theorem d_MO_stocked_22 : decode b_MO_stocked 22 = .ok (.iconst 0, 1) := by decide +kernel
theorem d_MO_stocked_23 : decode b_MO_stocked 23 = .ok (.ireturn, 1) := by decide +kernel
theorem d_MO_stocked_24 : decode b_MO_stocked 24 = .ok (.aload_n 0, 1) := by decide +kernel
theorem d_MO_stocked_25 : decode b_MO_stocked 25 = .ok (.getfield 16, 3) := by decide +kernel
theorem d_MO_stocked_28 : decode b_MO_stocked 28 = .ok (.iload_n 1, 1) := by decide +kernel
theorem d_MO_stocked_29 : decode b_MO_stocked 29 = .ok (.iaload, 1) := by decide +kernel
theorem d_MO_stocked_30 : decode b_MO_stocked 30 = .ok (.ireturn, 1) := by decide +kernel
end
section
theorem d_LW_vehicle_0 : decode b_LW_vehicle 0 = .ok (.aload 5, 2) := by decide +kernel
theorem d_LW_vehicle_2 : decode b_LW_vehicle 2 = .ok (.iconst 0, 1) := by decide +kernel
theorem d_LW_vehicle_3 : decode b_LW_vehicle 3 = .ok (.aload_n 0, 1) := by decide +kernel
theorem d_LW_vehicle_4 : decode b_LW_vehicle 4 = .ok (.iload_n 1, 1) := by decide +kernel
theorem d_LW_vehicle_5 : decode b_LW_vehicle 5 = .ok (.iload_n 2, 1) := by decide +kernel
theorem d_LW_vehicle_6 : decode b_LW_vehicle 6 = .ok (.iload_n 3, 1) := by decide +kernel
theorem d_LW_vehicle_7 : decode b_LW_vehicle 7 = .ok (.iload 4, 2) := by decide +kernel
theorem d_LW_vehicle_9 : decode b_LW_vehicle 9 = .ok (.invokevirtual 7, 3) := by decide +kernel
theorem d_LW_vehicle_12 : decode b_LW_vehicle 12 = .ok (.i2l, 1) := by decide +kernel
theorem d_LW_vehicle_13 : decode b_LW_vehicle 13 = .ok (.lastore, 1) := by decide +kernel
theorem d_LW_vehicle_14 : decode b_LW_vehicle 14 = .ok (.goto 15, 3) := by decide +kernel
theorem d_LW_vehicle_17 : decode b_LW_vehicle 17 = .ok (.astore 6, 2) := by decide +kernel
theorem d_LW_vehicle_19 : decode b_LW_vehicle 19 = .ok (.iconst 1, 1) := by decide +kernel
theorem d_LW_vehicle_20 : decode b_LW_vehicle 20 = .ok (.ireturn, 1) := by decide +kernel
theorem d_LW_vehicle_21 : decode b_LW_vehicle 21 = .ok (.astore 6, 2) := by decide +kernel
theorem d_LW_vehicle_23 : decode b_LW_vehicle 23 = .ok (.iconst 2, 1) := by decide +kernel
theorem d_LW_vehicle_24 : decode b_LW_vehicle 24 = .ok (.ireturn, 1) := by decide +kernel
theorem d_LW_vehicle_25 : decode b_LW_vehicle 25 = .ok (.astore 6, 2) := by decide +kernel
theorem d_LW_vehicle_27 : decode b_LW_vehicle 27 = .ok (.iconst 3, 1) := by decide +kernel
theorem d_LW_vehicle_28 : decode b_LW_vehicle 28 = .ok (.ireturn, 1) := by decide +kernel
theorem d_LW_vehicle_29 : decode b_LW_vehicle 29 = .ok (.iconst 0, 1) := by decide +kernel
theorem d_LW_vehicle_30 : decode b_LW_vehicle 30 = .ok (.ireturn, 1) := by decide +kernel
theorem d_LW_limits_0 : decode b_LW_limits 0 = .ok (.aload_n 0, 1) := by decide +kernel
theorem d_LW_limits_1 : decode b_LW_limits 1 = .ok (.iload_n 1, 1) := by decide +kernel
theorem d_LW_limits_2 : decode b_LW_limits 2 = .ok (.iload_n 2, 1) := by decide +kernel
theorem d_LW_limits_3 : decode b_LW_limits 3 = .ok (.iload_n 3, 1) := by decide +kernel
theorem d_LW_limits_4 : decode b_LW_limits 4 = .ok (.invokevirtual 19, 3) := by decide +kernel
theorem d_LW_limits_7 : decode b_LW_limits 7 = .ok (.goto 11, 3) := by decide +kernel
theorem d_LW_limits_10 : decode b_LW_limits 10 = .ok (.astore 4, 2) := by decide +kernel
theorem d_LW_limits_12 : decode b_LW_limits 12 = .ok (.iconst 1, 1) := by decide +kernel
theorem d_LW_limits_13 : decode b_LW_limits 13 = .ok (.ireturn, 1) := by decide +kernel
theorem d_LW_limits_14 : decode b_LW_limits 14 = .ok (.astore 4, 2) := by decide +kernel
theorem d_LW_limits_16 : decode b_LW_limits 16 = .ok (.iconst 2, 1) := by decide +kernel
theorem d_LW_limits_17 : decode b_LW_limits 17 = .ok (.ireturn, 1) := by decide +kernel
theorem d_LW_limits_18 : decode b_LW_limits 18 = .ok (.iconst 0, 1) := by decide +kernel
theorem d_LW_limits_19 : decode b_LW_limits 19 = .ok (.ireturn, 1) := by decide +kernel
theorem d_LW_place_0 : decode b_LW_place 0 = .ok (.aload_n 0, 1) := by decide +kernel
theorem d_LW_place_1 : decode b_LW_place 1 = .ok (.iload_n 1, 1) := by decide +kernel
theorem d_LW_place_2 : decode b_LW_place 2 = .ok (.iload_n 2, 1) := by decide +kernel
theorem d_LW_place_3 : decode b_LW_place 3 = .ok (.iload_n 3, 1) := by decide +kernel
theorem d_LW_place_4 : decode b_LW_place 4 = .ok (.invokevirtual 23, 3) := by decide +kernel
theorem d_LW_place_7 : decode b_LW_place 7 = .ok (.goto 15, 3) := by decide +kernel
theorem d_LW_place_10 : decode b_LW_place 10 = .ok (.astore 4, 2) := by decide +kernel
theorem d_LW_place_12 : decode b_LW_place 12 = .ok (.iconst 1, 1) := by decide +kernel
theorem d_LW_place_13 : decode b_LW_place 13 = .ok (.ireturn, 1) := by decide +kernel
theorem d_LW_place_14 : decode b_LW_place 14 = .ok (.astore 4, 2) := by decide +kernel
theorem d_LW_place_16 : decode b_LW_place 16 = .ok (.iconst 2, 1) := by decide +kernel
theorem d_LW_place_17 : decode b_LW_place 17 = .ok (.ireturn, 1) := by decide +kernel
theorem d_LW_place_18 : decode b_LW_place 18 = .ok (.astore 4, 2) := by decide +kernel
theorem d_LW_place_20 : decode b_LW_place 20 = .ok (.iconst 3, 1) := by decide +kernel
theorem d_LW_place_21 : decode b_LW_place 21 = .ok (.ireturn, 1) := by decide +kernel
theorem d_LW_place_22 : decode b_LW_place 22 = .ok (.iconst 0, 1) := by decide +kernel
theorem d_LW_place_23 : decode b_LW_place 23 = .ok (.ireturn, 1) := by decide +kernel
theorem d_LW_item_0 : decode b_LW_item 0 = .ok (.aload_n 0, 1) := by decide +kernel
theorem d_LW_item_1 : decode b_LW_item 1 = .ok (.iload_n 1, 1) := by decide +kernel
theorem d_LW_item_2 : decode b_LW_item 2 = .ok (.iload_n 2, 1) := by decide +kernel
theorem d_LW_item_3 : decode b_LW_item 3 = .ok (.iload_n 3, 1) := by decide +kernel
theorem d_LW_item_4 : decode b_LW_item 4 = .ok (.invokevirtual 28, 3) := by decide +kernel
theorem d_LW_item_7 : decode b_LW_item 7 = .ok (.goto 15, 3) := by decide +kernel
theorem d_LW_item_10 : decode b_LW_item 10 = .ok (.astore 4, 2) := by decide +kernel
theorem d_LW_item_12 : decode b_LW_item 12 = .ok (.iconst 1, 1) := by decide +kernel
theorem d_LW_item_13 : decode b_LW_item 13 = .ok (.ireturn, 1) := by decide +kernel
theorem d_LW_item_14 : decode b_LW_item 14 = .ok (.astore 4, 2) := by decide +kernel
theorem d_LW_item_16 : decode b_LW_item 16 = .ok (.iconst 2, 1) := by decide +kernel
theorem d_LW_item_17 : decode b_LW_item 17 = .ok (.ireturn, 1) := by decide +kernel
theorem d_LW_item_18 : decode b_LW_item 18 = .ok (.astore 4, 2) := by decide +kernel
theorem d_LW_item_20 : decode b_LW_item 20 = .ok (.iconst 3, 1) := by decide +kernel
theorem d_LW_item_21 : decode b_LW_item 21 = .ok (.ireturn, 1) := by decide +kernel
theorem d_LW_item_22 : decode b_LW_item 22 = .ok (.iconst 0, 1) := by decide +kernel
theorem d_LW_item_23 : decode b_LW_item 23 = .ok (.ireturn, 1) := by decide +kernel
theorem d_LW_list_0 : decode b_LW_list 0 = .ok (.aload_n 0, 1) := by decide +kernel
theorem d_LW_list_1 : decode b_LW_list 1 = .ok (.iload_n 1, 1) := by decide +kernel
theorem d_LW_list_2 : decode b_LW_list 2 = .ok (.iload_n 2, 1) := by decide +kernel
theorem d_LW_list_3 : decode b_LW_list 3 = .ok (.iload_n 3, 1) := by decide +kernel
theorem d_LW_list_4 : decode b_LW_list 4 = .ok (.iload 4, 2) := by decide +kernel
theorem d_LW_list_6 : decode b_LW_list 6 = .ok (.invokevirtual 31, 3) := by decide +kernel
theorem d_LW_list_9 : decode b_LW_list 9 = .ok (.goto 11, 3) := by decide +kernel
theorem d_LW_list_12 : decode b_LW_list 12 = .ok (.astore 5, 2) := by decide +kernel
theorem d_LW_list_14 : decode b_LW_list 14 = .ok (.iconst 1, 1) := by decide +kernel
theorem d_LW_list_15 : decode b_LW_list 15 = .ok (.ireturn, 1) := by decide +kernel
theorem d_LW_list_16 : decode b_LW_list 16 = .ok (.astore 5, 2) := by decide +kernel
theorem d_LW_list_18 : decode b_LW_list 18 = .ok (.iconst 2, 1) := by decide +kernel
theorem d_LW_list_19 : decode b_LW_list 19 = .ok (.ireturn, 1) := by decide +kernel
theorem d_LW_list_20 : decode b_LW_list 20 = .ok (.iconst 0, 1) := by decide +kernel
theorem d_LW_list_21 : decode b_LW_list 21 = .ok (.ireturn, 1) := by decide +kernel
theorem d_LW_stock_0 : decode b_LW_stock 0 = .ok (.aload_n 3, 1) := by decide +kernel
theorem d_LW_stock_1 : decode b_LW_stock 1 = .ok (.iconst 0, 1) := by decide +kernel
theorem d_LW_stock_2 : decode b_LW_stock 2 = .ok (.aload_n 0, 1) := by decide +kernel
theorem d_LW_stock_3 : decode b_LW_stock 3 = .ok (.iload_n 1, 1) := by decide +kernel
theorem d_LW_stock_4 : decode b_LW_stock 4 = .ok (.iload_n 2, 1) := by decide +kernel
theorem d_LW_stock_5 : decode b_LW_stock 5 = .ok (.invokevirtual 35, 3) := by decide +kernel
theorem d_LW_stock_8 : decode b_LW_stock 8 = .ok (.i2l, 1) := by decide +kernel
theorem d_LW_stock_9 : decode b_LW_stock 9 = .ok (.lastore, 1) := by decide +kernel
theorem d_LW_stock_10 : decode b_LW_stock 10 = .ok (.goto 15, 3) := by decide +kernel
theorem d_LW_stock_13 : decode b_LW_stock 13 = .ok (.astore 4, 2) := by decide +kernel
theorem d_LW_stock_15 : decode b_LW_stock 15 = .ok (.iconst 1, 1) := by decide +kernel
theorem d_LW_stock_16 : decode b_LW_stock 16 = .ok (.ireturn, 1) := by decide +kernel
theorem d_LW_stock_17 : decode b_LW_stock 17 = .ok (.astore 4, 2) := by decide +kernel
theorem d_LW_stock_19 : decode b_LW_stock 19 = .ok (.iconst 2, 1) := by decide +kernel
theorem d_LW_stock_20 : decode b_LW_stock 20 = .ok (.ireturn, 1) := by decide +kernel
theorem d_LW_stock_21 : decode b_LW_stock 21 = .ok (.astore 4, 2) := by decide +kernel
theorem d_LW_stock_23 : decode b_LW_stock 23 = .ok (.iconst 3, 1) := by decide +kernel
theorem d_LW_stock_24 : decode b_LW_stock 24 = .ok (.ireturn, 1) := by decide +kernel
theorem d_LW_stock_25 : decode b_LW_stock 25 = .ok (.iconst 0, 1) := by decide +kernel
theorem d_LW_stock_26 : decode b_LW_stock 26 = .ok (.ireturn, 1) := by decide +kernel
theorem d_LW_put_0 : decode b_LW_put 0 = .ok (.aload 5, 2) := by decide +kernel
theorem d_LW_put_2 : decode b_LW_put 2 = .ok (.iconst 0, 1) := by decide +kernel
theorem d_LW_put_3 : decode b_LW_put 3 = .ok (.aload_n 0, 1) := by decide +kernel
theorem d_LW_put_4 : decode b_LW_put 4 = .ok (.iload_n 1, 1) := by decide +kernel
theorem d_LW_put_5 : decode b_LW_put 5 = .ok (.iload_n 2, 1) := by decide +kernel
theorem d_LW_put_6 : decode b_LW_put 6 = .ok (.iload_n 3, 1) := by decide +kernel
theorem d_LW_put_7 : decode b_LW_put 7 = .ok (.iload 4, 2) := by decide +kernel
theorem d_LW_put_9 : decode b_LW_put 9 = .ok (.invokevirtual 39, 3) := by decide +kernel
theorem d_LW_put_12 : decode b_LW_put 12 = .ok (.i2l, 1) := by decide +kernel
theorem d_LW_put_13 : decode b_LW_put 13 = .ok (.lastore, 1) := by decide +kernel
theorem d_LW_put_14 : decode b_LW_put 14 = .ok (.goto 19, 3) := by decide +kernel
theorem d_LW_put_17 : decode b_LW_put 17 = .ok (.astore 6, 2) := by decide +kernel
theorem d_LW_put_19 : decode b_LW_put 19 = .ok (.iconst 1, 1) := by decide +kernel
theorem d_LW_put_20 : decode b_LW_put 20 = .ok (.ireturn, 1) := by decide +kernel
theorem d_LW_put_21 : decode b_LW_put 21 = .ok (.astore 6, 2) := by decide +kernel
theorem d_LW_put_23 : decode b_LW_put 23 = .ok (.iconst 2, 1) := by decide +kernel
theorem d_LW_put_24 : decode b_LW_put 24 = .ok (.ireturn, 1) := by decide +kernel
theorem d_LW_put_25 : decode b_LW_put 25 = .ok (.astore 6, 2) := by decide +kernel
theorem d_LW_put_27 : decode b_LW_put 27 = .ok (.iconst 3, 1) := by decide +kernel
theorem d_LW_put_28 : decode b_LW_put 28 = .ok (.ireturn, 1) := by decide +kernel
theorem d_LW_put_29 : decode b_LW_put 29 = .ok (.astore 6, 2) := by decide +kernel
theorem d_LW_put_31 : decode b_LW_put 31 = .ok (.iconst 4, 1) := by decide +kernel
theorem d_LW_put_32 : decode b_LW_put 32 = .ok (.ireturn, 1) := by decide +kernel
theorem d_LW_put_33 : decode b_LW_put 33 = .ok (.iconst 0, 1) := by decide +kernel
theorem d_LW_put_34 : decode b_LW_put 34 = .ok (.ireturn, 1) := by decide +kernel
theorem d_LW_use_0 : decode b_LW_use 0 = .ok (.aload 5, 2) := by decide +kernel
theorem d_LW_use_2 : decode b_LW_use 2 = .ok (.iconst 0, 1) := by decide +kernel
theorem d_LW_use_3 : decode b_LW_use 3 = .ok (.aload_n 0, 1) := by decide +kernel
theorem d_LW_use_4 : decode b_LW_use 4 = .ok (.iload_n 1, 1) := by decide +kernel
theorem d_LW_use_5 : decode b_LW_use 5 = .ok (.iload_n 2, 1) := by decide +kernel
theorem d_LW_use_6 : decode b_LW_use 6 = .ok (.iload_n 3, 1) := by decide +kernel
theorem d_LW_use_7 : decode b_LW_use 7 = .ok (.iload 4, 2) := by decide +kernel
theorem d_LW_use_9 : decode b_LW_use 9 = .ok (.invokevirtual 42, 3) := by decide +kernel
theorem d_LW_use_12 : decode b_LW_use 12 = .ok (.i2l, 1) := by decide +kernel
theorem d_LW_use_13 : decode b_LW_use 13 = .ok (.lastore, 1) := by decide +kernel
theorem d_LW_use_14 : decode b_LW_use 14 = .ok (.goto 15, 3) := by decide +kernel
theorem d_LW_use_17 : decode b_LW_use 17 = .ok (.astore 6, 2) := by decide +kernel
theorem d_LW_use_19 : decode b_LW_use 19 = .ok (.iconst 1, 1) := by decide +kernel
theorem d_LW_use_20 : decode b_LW_use 20 = .ok (.ireturn, 1) := by decide +kernel
theorem d_LW_use_21 : decode b_LW_use 21 = .ok (.astore 6, 2) := by decide +kernel
theorem d_LW_use_23 : decode b_LW_use 23 = .ok (.iconst 2, 1) := by decide +kernel
theorem d_LW_use_24 : decode b_LW_use 24 = .ok (.ireturn, 1) := by decide +kernel
theorem d_LW_use_25 : decode b_LW_use 25 = .ok (.astore 6, 2) := by decide +kernel
theorem d_LW_use_27 : decode b_LW_use 27 = .ok (.iconst 3, 1) := by decide +kernel
theorem d_LW_use_28 : decode b_LW_use 28 = .ok (.ireturn, 1) := by decide +kernel
theorem d_LW_use_29 : decode b_LW_use 29 = .ok (.iconst 0, 1) := by decide +kernel
theorem d_LW_use_30 : decode b_LW_use 30 = .ok (.ireturn, 1) := by decide +kernel
theorem d_LW_replace_0 : decode b_LW_replace 0 = .ok (.aload_n 2, 1) := by decide +kernel
theorem d_LW_replace_1 : decode b_LW_replace 1 = .ok (.iconst 0, 1) := by decide +kernel
theorem d_LW_replace_2 : decode b_LW_replace 2 = .ok (.aload_n 0, 1) := by decide +kernel
theorem d_LW_replace_3 : decode b_LW_replace 3 = .ok (.iload_n 1, 1) := by decide +kernel
theorem d_LW_replace_4 : decode b_LW_replace 4 = .ok (.invokevirtual 45, 3) := by decide +kernel
theorem d_LW_replace_7 : decode b_LW_replace 7 = .ok (.i2l, 1) := by decide +kernel
theorem d_LW_replace_8 : decode b_LW_replace 8 = .ok (.lastore, 1) := by decide +kernel
theorem d_LW_replace_9 : decode b_LW_replace 9 = .ok (.goto 6, 3) := by decide +kernel
theorem d_LW_replace_12 : decode b_LW_replace 12 = .ok (.astore_n 3, 1) := by decide +kernel
theorem d_LW_replace_13 : decode b_LW_replace 13 = .ok (.iconst 1, 1) := by decide +kernel
theorem d_LW_replace_14 : decode b_LW_replace 14 = .ok (.ireturn, 1) := by decide +kernel
theorem d_LW_replace_15 : decode b_LW_replace 15 = .ok (.iconst 0, 1) := by decide +kernel
theorem d_LW_replace_16 : decode b_LW_replace 16 = .ok (.ireturn, 1) := by decide +kernel
theorem d_LW_swap_0 : decode b_LW_swap 0 = .ok (.aload_n 0, 1) := by decide +kernel
theorem d_LW_swap_1 : decode b_LW_swap 1 = .ok (.iload_n 1, 1) := by decide +kernel
theorem d_LW_swap_2 : decode b_LW_swap 2 = .ok (.iload_n 2, 1) := by decide +kernel
theorem d_LW_swap_3 : decode b_LW_swap 3 = .ok (.iload_n 3, 1) := by decide +kernel
theorem d_LW_swap_4 : decode b_LW_swap 4 = .ok (.iload 4, 2) := by decide +kernel
theorem d_LW_swap_6 : decode b_LW_swap 6 = .ok (.iload 5, 2) := by decide +kernel
theorem d_LW_swap_8 : decode b_LW_swap 8 = .ok (.invokevirtual 49, 3) := by decide +kernel
theorem d_LW_swap_11 : decode b_LW_swap 11 = .ok (.goto 19, 3) := by decide +kernel
theorem d_LW_swap_14 : decode b_LW_swap 14 = .ok (.astore 6, 2) := by decide +kernel
theorem d_LW_swap_16 : decode b_LW_swap 16 = .ok (.iconst 1, 1) := by decide +kernel
theorem d_LW_swap_17 : decode b_LW_swap 17 = .ok (.ireturn, 1) := by decide +kernel
theorem d_LW_swap_18 : decode b_LW_swap 18 = .ok (.astore 6, 2) := by decide +kernel
theorem d_LW_swap_20 : decode b_LW_swap 20 = .ok (.iconst 2, 1) := by decide +kernel
theorem d_LW_swap_21 : decode b_LW_swap 21 = .ok (.ireturn, 1) := by decide +kernel
theorem d_LW_swap_22 : decode b_LW_swap 22 = .ok (.astore 6, 2) := by decide +kernel
theorem d_LW_swap_24 : decode b_LW_swap 24 = .ok (.iconst 3, 1) := by decide +kernel
theorem d_LW_swap_25 : decode b_LW_swap 25 = .ok (.ireturn, 1) := by decide +kernel
theorem d_LW_swap_26 : decode b_LW_swap 26 = .ok (.astore 6, 2) := by decide +kernel
theorem d_LW_swap_28 : decode b_LW_swap 28 = .ok (.iconst 4, 1) := by decide +kernel
theorem d_LW_swap_29 : decode b_LW_swap 29 = .ok (.ireturn, 1) := by decide +kernel
theorem d_LW_swap_30 : decode b_LW_swap 30 = .ok (.iconst 0, 1) := by decide +kernel
theorem d_LW_swap_31 : decode b_LW_swap 31 = .ok (.ireturn, 1) := by decide +kernel
theorem d_LW_ends_0 : decode b_LW_ends 0 = .ok (.aload_n 0, 1) := by decide +kernel
theorem d_LW_ends_1 : decode b_LW_ends 1 = .ok (.iload_n 1, 1) := by decide +kernel
theorem d_LW_ends_2 : decode b_LW_ends 2 = .ok (.iload_n 2, 1) := by decide +kernel
theorem d_LW_ends_3 : decode b_LW_ends 3 = .ok (.iload_n 3, 1) := by decide +kernel
theorem d_LW_ends_4 : decode b_LW_ends 4 = .ok (.invokevirtual 53, 3) := by decide +kernel
theorem d_LW_ends_7 : decode b_LW_ends 7 = .ok (.goto 11, 3) := by decide +kernel
theorem d_LW_ends_10 : decode b_LW_ends 10 = .ok (.astore 4, 2) := by decide +kernel
theorem d_LW_ends_12 : decode b_LW_ends 12 = .ok (.iconst 1, 1) := by decide +kernel
theorem d_LW_ends_13 : decode b_LW_ends 13 = .ok (.ireturn, 1) := by decide +kernel
theorem d_LW_ends_14 : decode b_LW_ends 14 = .ok (.astore 4, 2) := by decide +kernel
theorem d_LW_ends_16 : decode b_LW_ends 16 = .ok (.iconst 2, 1) := by decide +kernel
theorem d_LW_ends_17 : decode b_LW_ends 17 = .ok (.ireturn, 1) := by decide +kernel
theorem d_LW_ends_18 : decode b_LW_ends 18 = .ok (.iconst 0, 1) := by decide +kernel
theorem d_LW_ends_19 : decode b_LW_ends 19 = .ok (.ireturn, 1) := by decide +kernel
theorem d_LW_battery_0 : decode b_LW_battery 0 = .ok (.aload_n 0, 1) := by decide +kernel
theorem d_LW_battery_1 : decode b_LW_battery 1 = .ok (.iload_n 1, 1) := by decide +kernel
theorem d_LW_battery_2 : decode b_LW_battery 2 = .ok (.iload_n 2, 1) := by decide +kernel
theorem d_LW_battery_3 : decode b_LW_battery 3 = .ok (.iload_n 3, 1) := by decide +kernel
theorem d_LW_battery_4 : decode b_LW_battery 4 = .ok (.invokevirtual 56, 3) := by decide +kernel
theorem d_LW_battery_7 : decode b_LW_battery 7 = .ok (.goto 11, 3) := by decide +kernel
theorem d_LW_battery_10 : decode b_LW_battery 10 = .ok (.astore 4, 2) := by decide +kernel
theorem d_LW_battery_12 : decode b_LW_battery 12 = .ok (.iconst 1, 1) := by decide +kernel
theorem d_LW_battery_13 : decode b_LW_battery 13 = .ok (.ireturn, 1) := by decide +kernel
theorem d_LW_battery_14 : decode b_LW_battery 14 = .ok (.astore 4, 2) := by decide +kernel
theorem d_LW_battery_16 : decode b_LW_battery 16 = .ok (.iconst 2, 1) := by decide +kernel
theorem d_LW_battery_17 : decode b_LW_battery 17 = .ok (.ireturn, 1) := by decide +kernel
theorem d_LW_battery_18 : decode b_LW_battery 18 = .ok (.iconst 0, 1) := by decide +kernel
theorem d_LW_battery_19 : decode b_LW_battery 19 = .ok (.ireturn, 1) := by decide +kernel
theorem d_LW_seal_0 : decode b_LW_seal 0 = .ok (.aload_n 0, 1) := by decide +kernel
theorem d_LW_seal_1 : decode b_LW_seal 1 = .ok (.iload_n 1, 1) := by decide +kernel
theorem d_LW_seal_2 : decode b_LW_seal 2 = .ok (.iload_n 2, 1) := by decide +kernel
theorem d_LW_seal_3 : decode b_LW_seal 3 = .ok (.iload_n 3, 1) := by decide +kernel
theorem d_LW_seal_4 : decode b_LW_seal 4 = .ok (.invokevirtual 59, 3) := by decide +kernel
theorem d_LW_seal_7 : decode b_LW_seal 7 = .ok (.goto 11, 3) := by decide +kernel
theorem d_LW_seal_10 : decode b_LW_seal 10 = .ok (.astore 4, 2) := by decide +kernel
theorem d_LW_seal_12 : decode b_LW_seal 12 = .ok (.iconst 1, 1) := by decide +kernel
theorem d_LW_seal_13 : decode b_LW_seal 13 = .ok (.ireturn, 1) := by decide +kernel
theorem d_LW_seal_14 : decode b_LW_seal 14 = .ok (.astore 4, 2) := by decide +kernel
theorem d_LW_seal_16 : decode b_LW_seal 16 = .ok (.iconst 2, 1) := by decide +kernel
theorem d_LW_seal_17 : decode b_LW_seal 17 = .ok (.ireturn, 1) := by decide +kernel
theorem d_LW_seal_18 : decode b_LW_seal 18 = .ok (.iconst 0, 1) := by decide +kernel
theorem d_LW_seal_19 : decode b_LW_seal 19 = .ok (.ireturn, 1) := by decide +kernel
theorem d_LW_check_0 : decode b_LW_check 0 = .ok (.aload_n 0, 1) := by decide +kernel
theorem d_LW_check_1 : decode b_LW_check 1 = .ok (.iload_n 1, 1) := by decide +kernel
theorem d_LW_check_2 : decode b_LW_check 2 = .ok (.invokevirtual 63, 3) := by decide +kernel
theorem d_LW_check_5 : decode b_LW_check 5 = .ok (.goto 6, 3) := by decide +kernel
theorem d_LW_check_8 : decode b_LW_check 8 = .ok (.astore_n 2, 1) := by decide +kernel
theorem d_LW_check_9 : decode b_LW_check 9 = .ok (.iconst 1, 1) := by decide +kernel
theorem d_LW_check_10 : decode b_LW_check 10 = .ok (.ireturn, 1) := by decide +kernel
theorem d_LW_check_11 : decode b_LW_check 11 = .ok (.iconst 0, 1) := by decide +kernel
theorem d_LW_check_12 : decode b_LW_check 12 = .ok (.ireturn, 1) := by decide +kernel
theorem d_LW_now_0 : decode b_LW_now 0 = .ok (.aload_n 0, 1) := by decide +kernel
theorem d_LW_now_1 : decode b_LW_now 1 = .ok (.iload_n 1, 1) := by decide +kernel
theorem d_LW_now_2 : decode b_LW_now 2 = .ok (.iload_n 2, 1) := by decide +kernel
theorem d_LW_now_3 : decode b_LW_now 3 = .ok (.invokevirtual 67, 3) := by decide +kernel
theorem d_LW_now_6 : decode b_LW_now 6 = .ok (.goto 6, 3) := by decide +kernel
theorem d_LW_now_9 : decode b_LW_now 9 = .ok (.astore_n 3, 1) := by decide +kernel
theorem d_LW_now_10 : decode b_LW_now 10 = .ok (.iconst 1, 1) := by decide +kernel
theorem d_LW_now_11 : decode b_LW_now 11 = .ok (.ireturn, 1) := by decide +kernel
theorem d_LW_now_12 : decode b_LW_now 12 = .ok (.iconst 0, 1) := by decide +kernel
theorem d_LW_now_13 : decode b_LW_now 13 = .ok (.ireturn, 1) := by decide +kernel
theorem d_LW_ready_0 : decode b_LW_ready 0 = .ok (.aload_n 2, 1) := by decide +kernel
theorem d_LW_ready_1 : decode b_LW_ready 1 = .ok (.iconst 0, 1) := by decide +kernel
theorem d_LW_ready_2 : decode b_LW_ready 2 = .ok (.aload_n 0, 1) := by decide +kernel
theorem d_LW_ready_3 : decode b_LW_ready 3 = .ok (.iload_n 1, 1) := by decide +kernel
theorem d_LW_ready_4 : decode b_LW_ready 4 = .ok (.invokevirtual 71, 3) := by decide +kernel
theorem d_LW_ready_7 : decode b_LW_ready 7 = .ok (.i2l, 1) := by decide +kernel
theorem d_LW_ready_8 : decode b_LW_ready 8 = .ok (.lastore, 1) := by decide +kernel
theorem d_LW_ready_9 : decode b_LW_ready 9 = .ok (.goto 6, 3) := by decide +kernel
theorem d_LW_ready_12 : decode b_LW_ready 12 = .ok (.astore_n 3, 1) := by decide +kernel
theorem d_LW_ready_13 : decode b_LW_ready 13 = .ok (.iconst 1, 1) := by decide +kernel
theorem d_LW_ready_14 : decode b_LW_ready 14 = .ok (.ireturn, 1) := by decide +kernel
theorem d_LW_ready_15 : decode b_LW_ready 15 = .ok (.iconst 0, 1) := by decide +kernel
theorem d_LW_ready_16 : decode b_LW_ready 16 = .ok (.ireturn, 1) := by decide +kernel
theorem d_LW_missing_0 : decode b_LW_missing 0 = .ok (.aload_n 3, 1) := by decide +kernel
theorem d_LW_missing_1 : decode b_LW_missing 1 = .ok (.iconst 0, 1) := by decide +kernel
theorem d_LW_missing_2 : decode b_LW_missing 2 = .ok (.aload_n 0, 1) := by decide +kernel
theorem d_LW_missing_3 : decode b_LW_missing 3 = .ok (.iload_n 1, 1) := by decide +kernel
theorem d_LW_missing_4 : decode b_LW_missing 4 = .ok (.iload_n 2, 1) := by decide +kernel
theorem d_LW_missing_5 : decode b_LW_missing 5 = .ok (.invokevirtual 74, 3) := by decide +kernel
theorem d_LW_missing_8 : decode b_LW_missing 8 = .ok (.i2l, 1) := by decide +kernel
theorem d_LW_missing_9 : decode b_LW_missing 9 = .ok (.lastore, 1) := by decide +kernel
theorem d_LW_missing_10 : decode b_LW_missing 10 = .ok (.goto 11, 3) := by decide +kernel
theorem d_LW_missing_13 : decode b_LW_missing 13 = .ok (.astore 4, 2) := by decide +kernel
theorem d_LW_missing_15 : decode b_LW_missing 15 = .ok (.iconst 1, 1) := by decide +kernel
theorem d_LW_missing_16 : decode b_LW_missing 16 = .ok (.ireturn, 1) := by decide +kernel
theorem d_LW_missing_17 : decode b_LW_missing 17 = .ok (.astore 4, 2) := by decide +kernel
theorem d_LW_missing_19 : decode b_LW_missing 19 = .ok (.iconst 2, 1) := by decide +kernel
theorem d_LW_missing_20 : decode b_LW_missing 20 = .ok (.ireturn, 1) := by decide +kernel
theorem d_LW_missing_21 : decode b_LW_missing 21 = .ok (.iconst 0, 1) := by decide +kernel
theorem d_LW_missing_22 : decode b_LW_missing 22 = .ok (.ireturn, 1) := by decide +kernel
theorem d_LW_share_0 : decode b_LW_share 0 = .ok (.aload_n 2, 1) := by decide +kernel
theorem d_LW_share_1 : decode b_LW_share 1 = .ok (.iconst 0, 1) := by decide +kernel
theorem d_LW_share_2 : decode b_LW_share 2 = .ok (.aload_n 0, 1) := by decide +kernel
theorem d_LW_share_3 : decode b_LW_share 3 = .ok (.iload_n 1, 1) := by decide +kernel
theorem d_LW_share_4 : decode b_LW_share 4 = .ok (.invokevirtual 77, 3) := by decide +kernel
theorem d_LW_share_7 : decode b_LW_share 7 = .ok (.i2l, 1) := by decide +kernel
theorem d_LW_share_8 : decode b_LW_share 8 = .ok (.lastore, 1) := by decide +kernel
theorem d_LW_share_9 : decode b_LW_share 9 = .ok (.goto 9, 3) := by decide +kernel
theorem d_LW_share_12 : decode b_LW_share 12 = .ok (.astore_n 3, 1) := by decide +kernel
theorem d_LW_share_13 : decode b_LW_share 13 = .ok (.iconst 1, 1) := by decide +kernel
theorem d_LW_share_14 : decode b_LW_share 14 = .ok (.ireturn, 1) := by decide +kernel
theorem d_LW_share_15 : decode b_LW_share 15 = .ok (.astore_n 3, 1) := by decide +kernel
theorem d_LW_share_16 : decode b_LW_share 16 = .ok (.iconst 2, 1) := by decide +kernel
theorem d_LW_share_17 : decode b_LW_share 17 = .ok (.ireturn, 1) := by decide +kernel
theorem d_LW_share_18 : decode b_LW_share 18 = .ok (.iconst 0, 1) := by decide +kernel
theorem d_LW_share_19 : decode b_LW_share 19 = .ok (.ireturn, 1) := by decide +kernel
theorem d_LW_axle_0 : decode b_LW_axle 0 = .ok (.aload_n 3, 1) := by decide +kernel
theorem d_LW_axle_1 : decode b_LW_axle 1 = .ok (.iconst 0, 1) := by decide +kernel
theorem d_LW_axle_2 : decode b_LW_axle 2 = .ok (.aload_n 0, 1) := by decide +kernel
theorem d_LW_axle_3 : decode b_LW_axle 3 = .ok (.iload_n 1, 1) := by decide +kernel
theorem d_LW_axle_4 : decode b_LW_axle 4 = .ok (.iload_n 2, 1) := by decide +kernel
theorem d_LW_axle_5 : decode b_LW_axle 5 = .ok (.invokevirtual 82, 3) := by decide +kernel
theorem d_LW_axle_8 : decode b_LW_axle 8 = .ok (.lastore, 1) := by decide +kernel
theorem d_LW_axle_9 : decode b_LW_axle 9 = .ok (.goto 7, 3) := by decide +kernel
theorem d_LW_axle_12 : decode b_LW_axle 12 = .ok (.astore 4, 2) := by decide +kernel
theorem d_LW_axle_14 : decode b_LW_axle 14 = .ok (.iconst 1, 1) := by decide +kernel
theorem d_LW_axle_15 : decode b_LW_axle 15 = .ok (.ireturn, 1) := by decide +kernel
theorem d_LW_axle_16 : decode b_LW_axle 16 = .ok (.iconst 0, 1) := by decide +kernel
theorem d_LW_axle_17 : decode b_LW_axle 17 = .ok (.ireturn, 1) := by decide +kernel
theorem d_LW_row_0 : decode b_LW_row 0 = .ok (.aload_n 3, 1) := by decide +kernel
theorem d_LW_row_1 : decode b_LW_row 1 = .ok (.iconst 0, 1) := by decide +kernel
theorem d_LW_row_2 : decode b_LW_row 2 = .ok (.aload_n 0, 1) := by decide +kernel
theorem d_LW_row_3 : decode b_LW_row 3 = .ok (.iload_n 1, 1) := by decide +kernel
theorem d_LW_row_4 : decode b_LW_row 4 = .ok (.iload_n 2, 1) := by decide +kernel
theorem d_LW_row_5 : decode b_LW_row 5 = .ok (.invokevirtual 86, 3) := by decide +kernel
theorem d_LW_row_8 : decode b_LW_row 8 = .ok (.i2l, 1) := by decide +kernel
theorem d_LW_row_9 : decode b_LW_row 9 = .ok (.lastore, 1) := by decide +kernel
theorem d_LW_row_10 : decode b_LW_row 10 = .ok (.goto 7, 3) := by decide +kernel
theorem d_LW_row_13 : decode b_LW_row 13 = .ok (.astore 4, 2) := by decide +kernel
theorem d_LW_row_15 : decode b_LW_row 15 = .ok (.iconst 1, 1) := by decide +kernel
theorem d_LW_row_16 : decode b_LW_row 16 = .ok (.ireturn, 1) := by decide +kernel
theorem d_LW_row_17 : decode b_LW_row 17 = .ok (.iconst 0, 1) := by decide +kernel
theorem d_LW_row_18 : decode b_LW_row 18 = .ok (.ireturn, 1) := by decide +kernel
theorem d_LW_has_0 : decode b_LW_has 0 = .ok (.aload 4, 2) := by decide +kernel
theorem d_LW_has_2 : decode b_LW_has 2 = .ok (.iconst 0, 1) := by decide +kernel
theorem d_LW_has_3 : decode b_LW_has 3 = .ok (.aload_n 0, 1) := by decide +kernel
theorem d_LW_has_4 : decode b_LW_has 4 = .ok (.iload_n 1, 1) := by decide +kernel
theorem d_LW_has_5 : decode b_LW_has 5 = .ok (.iload_n 2, 1) := by decide +kernel
theorem d_LW_has_6 : decode b_LW_has 6 = .ok (.iload_n 3, 1) := by decide +kernel
theorem d_LW_has_7 : decode b_LW_has 7 = .ok (.invokevirtual 89, 3) := by decide +kernel
theorem d_LW_has_10 : decode b_LW_has 10 = .ok (.i2l, 1) := by decide +kernel
theorem d_LW_has_11 : decode b_LW_has 11 = .ok (.lastore, 1) := by decide +kernel
theorem d_LW_has_12 : decode b_LW_has 12 = .ok (.goto 7, 3) := by decide +kernel
theorem d_LW_has_15 : decode b_LW_has 15 = .ok (.astore 5, 2) := by decide +kernel
theorem d_LW_has_17 : decode b_LW_has 17 = .ok (.iconst 1, 1) := by decide +kernel
theorem d_LW_has_18 : decode b_LW_has 18 = .ok (.ireturn, 1) := by decide +kernel
theorem d_LW_has_19 : decode b_LW_has 19 = .ok (.iconst 0, 1) := by decide +kernel
theorem d_LW_has_20 : decode b_LW_has 20 = .ok (.ireturn, 1) := by decide +kernel
theorem d_LW_stocked_0 : decode b_LW_stocked 0 = .ok (.aload_n 2, 1) := by decide +kernel
theorem d_LW_stocked_1 : decode b_LW_stocked 1 = .ok (.iconst 0, 1) := by decide +kernel
theorem d_LW_stocked_2 : decode b_LW_stocked 2 = .ok (.aload_n 0, 1) := by decide +kernel
theorem d_LW_stocked_3 : decode b_LW_stocked 3 = .ok (.iload_n 1, 1) := by decide +kernel
theorem d_LW_stocked_4 : decode b_LW_stocked 4 = .ok (.invokevirtual 93, 3) := by decide +kernel
theorem d_LW_stocked_7 : decode b_LW_stocked 7 = .ok (.i2l, 1) := by decide +kernel
theorem d_LW_stocked_8 : decode b_LW_stocked 8 = .ok (.lastore, 1) := by decide +kernel
theorem d_LW_stocked_9 : decode b_LW_stocked 9 = .ok (.goto 6, 3) := by decide +kernel
theorem d_LW_stocked_12 : decode b_LW_stocked 12 = .ok (.astore_n 3, 1) := by decide +kernel
theorem d_LW_stocked_13 : decode b_LW_stocked 13 = .ok (.iconst 1, 1) := by decide +kernel
theorem d_LW_stocked_14 : decode b_LW_stocked 14 = .ok (.ireturn, 1) := by decide +kernel
theorem d_LW_stocked_15 : decode b_LW_stocked 15 = .ok (.iconst 0, 1) := by decide +kernel
theorem d_LW_stocked_16 : decode b_LW_stocked 16 = .ok (.ireturn, 1) := by decide +kernel
end
section
theorem d_LW_law_0 : decode code 0 = .ok (.new 8, 3) := by decide +kernel
theorem d_LW_law_3 : decode code 3 = .ok (.dup, 1) := by decide +kernel
theorem d_LW_law_4 : decode code 4 = .ok (.invokespecial 96, 3) := by decide +kernel
theorem d_LW_law_7 : decode code 7 = .ok (.astore_n 1, 1) := by decide +kernel
theorem d_LW_law_8 : decode code 8 = .ok (.new 97, 3) := by decide +kernel
theorem d_LW_law_11 : decode code 11 = .ok (.dup, 1) := by decide +kernel
theorem d_LW_law_12 : decode code 12 = .ok (.invokespecial 99, 3) := by decide +kernel
theorem d_LW_law_15 : decode code 15 = .ok (.astore_n 2, 1) := by decide +kernel
theorem d_LW_law_16 : decode code 16 = .ok (.iconst 1, 1) := by decide +kernel
theorem d_LW_law_17 : decode code 17 = .ok (.newarray .long, 2) := by decide +kernel
theorem d_LW_law_19 : decode code 19 = .ok (.astore_n 3, 1) := by decide +kernel
theorem d_LW_law_20 : decode code 20 = .ok (.iconst 0, 1) := by decide +kernel
theorem d_LW_law_21 : decode code 21 = .ok (.istore 4, 2) := by decide +kernel
theorem d_LW_law_23 : decode code 23 = .ok (.iload 4, 2) := by decide +kernel
theorem d_LW_law_25 : decode code 25 = .ok (.aload_n 0, 1) := by decide +kernel
theorem d_LW_law_26 : decode code 26 = .ok (.arraylength, 1) := by decide +kernel
theorem d_LW_law_27 : decode code 27 = .ok (.bipush 6, 2) := by decide +kernel
theorem d_LW_law_29 : decode code 29 = .ok (.isub, 1) := by decide +kernel
theorem d_LW_law_30 : decode code 30 = .ok (.if_icmp .gt 1587, 3) := by decide +kernel
theorem d_LW_law_33 : decode code 33 = .ok (.aload_n 0, 1) := by decide +kernel
theorem d_LW_law_34 : decode code 34 = .ok (.iload 4, 2) := by decide +kernel
theorem d_LW_law_36 : decode code 36 = .ok (.iaload, 1) := by decide +kernel
theorem d_LW_law_37 : decode code 37 = .ok (.bipush 31, 2) := by decide +kernel
theorem d_LW_law_39 : decode code 39 = .ok (.iand, 1) := by decide +kernel
theorem d_LW_law_40 : decode code 40 = .ok (.tableswitch 1571 0 21 #[104, 196, 256, 316, 376, 448, 516, 608, 700, 756, 840, 900, 960, 1036, 1072, 1120, 1176, 1244, 1300, 1367, 1435, 1515], 104) := by decide +kernel
theorem d_LW_law_144 : decode code 144 = .ok (.aload_n 1, 1) := by decide +kernel
theorem d_LW_law_145 : decode code 145 = .ok (.aload_n 0, 1) := by decide +kernel
theorem d_LW_law_146 : decode code 146 = .ok (.iload 4, 2) := by decide +kernel
theorem d_LW_law_148 : decode code 148 = .ok (.iconst 1, 1) := by decide +kernel
theorem d_LW_law_149 : decode code 149 = .ok (.iadd, 1) := by decide +kernel
theorem d_LW_law_150 : decode code 150 = .ok (.iaload, 1) := by decide +kernel
theorem d_LW_law_151 : decode code 151 = .ok (.aload_n 0, 1) := by decide +kernel
theorem d_LW_law_152 : decode code 152 = .ok (.iload 4, 2) := by decide +kernel
theorem d_LW_law_154 : decode code 154 = .ok (.iconst 2, 1) := by decide +kernel
theorem d_LW_law_155 : decode code 155 = .ok (.iadd, 1) := by decide +kernel
theorem d_LW_law_156 : decode code 156 = .ok (.iaload, 1) := by decide +kernel
theorem d_LW_law_157 : decode code 157 = .ok (.aload_n 0, 1) := by decide +kernel
theorem d_LW_law_158 : decode code 158 = .ok (.iload 4, 2) := by decide +kernel
theorem d_LW_law_160 : decode code 160 = .ok (.iconst 3, 1) := by decide +kernel
theorem d_LW_law_161 : decode code 161 = .ok (.iadd, 1) := by decide +kernel
theorem d_LW_law_162 : decode code 162 = .ok (.iaload, 1) := by decide +kernel
theorem d_LW_law_163 : decode code 163 = .ok (.aload_n 0, 1) := by decide +kernel
theorem d_LW_law_164 : decode code 164 = .ok (.iload 4, 2) := by decide +kernel
theorem d_LW_law_166 : decode code 166 = .ok (.iconst 4, 1) := by decide +kernel
theorem d_LW_law_167 : decode code 167 = .ok (.iadd, 1) := by decide +kernel
theorem d_LW_law_168 : decode code 168 = .ok (.iaload, 1) := by decide +kernel
theorem d_LW_law_169 : decode code 169 = .ok (.aload_n 3, 1) := by decide +kernel
theorem d_LW_law_170 : decode code 170 = .ok (.invokestatic 100, 3) := by decide +kernel
theorem d_LW_law_173 : decode code 173 = .ok (.istore 5, 2) := by decide +kernel
theorem d_LW_law_175 : decode code 175 = .ok (.aload_n 2, 1) := by decide +kernel
theorem d_LW_law_176 : decode code 176 = .ok (.aload_n 0, 1) := by decide +kernel
theorem d_LW_law_177 : decode code 177 = .ok (.iload 4, 2) := by decide +kernel
theorem d_LW_law_179 : decode code 179 = .ok (.iconst 1, 1) := by decide +kernel
theorem d_LW_law_180 : decode code 180 = .ok (.iadd, 1) := by decide +kernel
theorem d_LW_law_181 : decode code 181 = .ok (.iaload, 1) := by decide +kernel
theorem d_LW_law_182 : decode code 182 = .ok (.aload_n 0, 1) := by decide +kernel
theorem d_LW_law_183 : decode code 183 = .ok (.iload 4, 2) := by decide +kernel
theorem d_LW_law_185 : decode code 185 = .ok (.iconst 2, 1) := by decide +kernel
theorem d_LW_law_186 : decode code 186 = .ok (.iadd, 1) := by decide +kernel
theorem d_LW_law_187 : decode code 187 = .ok (.iaload, 1) := by decide +kernel
theorem d_LW_law_188 : decode code 188 = .ok (.aload_n 0, 1) := by decide +kernel
theorem d_LW_law_189 : decode code 189 = .ok (.iload 4, 2) := by decide +kernel
theorem d_LW_law_191 : decode code 191 = .ok (.iconst 3, 1) := by decide +kernel
theorem d_LW_law_192 : decode code 192 = .ok (.iadd, 1) := by decide +kernel
theorem d_LW_law_193 : decode code 193 = .ok (.iaload, 1) := by decide +kernel
theorem d_LW_law_194 : decode code 194 = .ok (.aload_n 0, 1) := by decide +kernel
theorem d_LW_law_195 : decode code 195 = .ok (.iload 4, 2) := by decide +kernel
theorem d_LW_law_197 : decode code 197 = .ok (.iconst 4, 1) := by decide +kernel
theorem d_LW_law_198 : decode code 198 = .ok (.iadd, 1) := by decide +kernel
theorem d_LW_law_199 : decode code 199 = .ok (.iaload, 1) := by decide +kernel
theorem d_LW_law_200 : decode code 200 = .ok (.invokevirtual 105, 3) := by decide +kernel
theorem d_LW_law_203 : decode code 203 = .ok (.istore 6, 2) := by decide +kernel
theorem d_LW_law_205 : decode code 205 = .ok (.aload_n 2, 1) := by decide +kernel
theorem d_LW_law_206 : decode code 206 = .ok (.invokevirtual 106, 3) := by decide +kernel
theorem d_LW_law_209 : decode code 209 = .ok (.iload 5, 2) := by decide +kernel
theorem d_LW_law_211 : decode code 211 = .ok (.if_icmp .eq 5, 3) := by decide +kernel
theorem d_LW_law_214 : decode code 214 = .ok (.iconst 0, 1) := by decide +kernel
theorem d_LW_law_215 : decode code 215 = .ok (.ireturn, 1) := by decide +kernel
theorem d_LW_law_216 : decode code 216 = .ok (.iload 5, 2) := by decide +kernel
theorem d_LW_law_218 : decode code 218 = .ok (.ifCond .ne 15, 3) := by decide +kernel
theorem d_LW_law_221 : decode code 221 = .ok (.aload_n 3, 1) := by decide +kernel
theorem d_LW_law_222 : decode code 222 = .ok (.iconst 0, 1) := by decide +kernel
theorem d_LW_law_223 : decode code 223 = .ok (.laload, 1) := by decide +kernel
theorem d_LW_law_224 : decode code 224 = .ok (.iload 6, 2) := by decide +kernel
theorem d_LW_law_226 : decode code 226 = .ok (.i2l, 1) := by decide +kernel
theorem d_LW_law_227 : decode code 227 = .ok (.lcmp, 1) := by decide +kernel
theorem d_LW_law_228 : decode code 228 = .ok (.ifCond .eq 5, 3) := by decide +kernel
theorem d_LW_law_231 : decode code 231 = .ok (.iconst 0, 1) := by decide +kernel
theorem d_LW_law_232 : decode code 232 = .ok (.ireturn, 1) := by decide +kernel
theorem d_LW_law_233 : decode code 233 = .ok (.goto 1378, 3) := by decide +kernel
theorem d_LW_law_236 : decode code 236 = .ok (.aload_n 1, 1) := by decide +kernel
theorem d_LW_law_237 : decode code 237 = .ok (.aload_n 0, 1) := by decide +kernel
theorem d_LW_law_238 : decode code 238 = .ok (.iload 4, 2) := by decide +kernel
theorem d_LW_law_240 : decode code 240 = .ok (.iconst 1, 1) := by decide +kernel
theorem d_LW_law_241 : decode code 241 = .ok (.iadd, 1) := by decide +kernel
theorem d_LW_law_242 : decode code 242 = .ok (.iaload, 1) := by decide +kernel
theorem d_LW_law_243 : decode code 243 = .ok (.aload_n 0, 1) := by decide +kernel
theorem d_LW_law_244 : decode code 244 = .ok (.iload 4, 2) := by decide +kernel
theorem d_LW_law_246 : decode code 246 = .ok (.iconst 2, 1) := by decide +kernel
theorem d_LW_law_247 : decode code 247 = .ok (.iadd, 1) := by decide +kernel
theorem d_LW_law_248 : decode code 248 = .ok (.iaload, 1) := by decide +kernel
theorem d_LW_law_249 : decode code 249 = .ok (.aload_n 0, 1) := by decide +kernel
theorem d_LW_law_250 : decode code 250 = .ok (.iload 4, 2) := by decide +kernel
theorem d_LW_law_252 : decode code 252 = .ok (.iconst 3, 1) := by decide +kernel
theorem d_LW_law_253 : decode code 253 = .ok (.iadd, 1) := by decide +kernel
theorem d_LW_law_254 : decode code 254 = .ok (.iaload, 1) := by decide +kernel
theorem d_LW_law_255 : decode code 255 = .ok (.invokestatic 110, 3) := by decide +kernel
theorem d_LW_law_258 : decode code 258 = .ok (.istore 5, 2) := by decide +kernel
theorem d_LW_law_260 : decode code 260 = .ok (.aload_n 2, 1) := by decide +kernel
theorem d_LW_law_261 : decode code 261 = .ok (.aload_n 0, 1) := by decide +kernel
theorem d_LW_law_262 : decode code 262 = .ok (.iload 4, 2) := by decide +kernel
theorem d_LW_law_264 : decode code 264 = .ok (.iconst 1, 1) := by decide +kernel
theorem d_LW_law_265 : decode code 265 = .ok (.iadd, 1) := by decide +kernel
theorem d_LW_law_266 : decode code 266 = .ok (.iaload, 1) := by decide +kernel
theorem d_LW_law_267 : decode code 267 = .ok (.aload_n 0, 1) := by decide +kernel
theorem d_LW_law_268 : decode code 268 = .ok (.iload 4, 2) := by decide +kernel
theorem d_LW_law_270 : decode code 270 = .ok (.iconst 2, 1) := by decide +kernel
theorem d_LW_law_271 : decode code 271 = .ok (.iadd, 1) := by decide +kernel
theorem d_LW_law_272 : decode code 272 = .ok (.iaload, 1) := by decide +kernel
theorem d_LW_law_273 : decode code 273 = .ok (.aload_n 0, 1) := by decide +kernel
theorem d_LW_law_274 : decode code 274 = .ok (.iload 4, 2) := by decide +kernel
theorem d_LW_law_276 : decode code 276 = .ok (.iconst 3, 1) := by decide +kernel
theorem d_LW_law_277 : decode code 277 = .ok (.iadd, 1) := by decide +kernel
theorem d_LW_law_278 : decode code 278 = .ok (.iaload, 1) := by decide +kernel
theorem d_LW_law_279 : decode code 279 = .ok (.invokevirtual 113, 3) := by decide +kernel
theorem d_LW_law_282 : decode code 282 = .ok (.aload_n 2, 1) := by decide +kernel
theorem d_LW_law_283 : decode code 283 = .ok (.invokevirtual 106, 3) := by decide +kernel
theorem d_LW_law_286 : decode code 286 = .ok (.iload 5, 2) := by decide +kernel
theorem d_LW_law_288 : decode code 288 = .ok (.if_icmp .eq 5, 3) := by decide +kernel
theorem d_LW_law_291 : decode code 291 = .ok (.iconst 0, 1) := by decide +kernel
theorem d_LW_law_292 : decode code 292 = .ok (.ireturn, 1) := by decide +kernel
theorem d_LW_law_293 : decode code 293 = .ok (.goto 1318, 3) := by decide +kernel
theorem d_LW_law_296 : decode code 296 = .ok (.aload_n 1, 1) := by decide +kernel
theorem d_LW_law_297 : decode code 297 = .ok (.aload_n 0, 1) := by decide +kernel
theorem d_LW_law_298 : decode code 298 = .ok (.iload 4, 2) := by decide +kernel
theorem d_LW_law_300 : decode code 300 = .ok (.iconst 1, 1) := by decide +kernel
theorem d_LW_law_301 : decode code 301 = .ok (.iadd, 1) := by decide +kernel
theorem d_LW_law_302 : decode code 302 = .ok (.iaload, 1) := by decide +kernel
theorem d_LW_law_303 : decode code 303 = .ok (.aload_n 0, 1) := by decide +kernel
theorem d_LW_law_304 : decode code 304 = .ok (.iload 4, 2) := by decide +kernel
theorem d_LW_law_306 : decode code 306 = .ok (.iconst 2, 1) := by decide +kernel
theorem d_LW_law_307 : decode code 307 = .ok (.iadd, 1) := by decide +kernel
theorem d_LW_law_308 : decode code 308 = .ok (.iaload, 1) := by decide +kernel
theorem d_LW_law_309 : decode code 309 = .ok (.aload_n 0, 1) := by decide +kernel
theorem d_LW_law_310 : decode code 310 = .ok (.iload 4, 2) := by decide +kernel
theorem d_LW_law_312 : decode code 312 = .ok (.iconst 3, 1) := by decide +kernel
theorem d_LW_law_313 : decode code 313 = .ok (.iadd, 1) := by decide +kernel
theorem d_LW_law_314 : decode code 314 = .ok (.iaload, 1) := by decide +kernel
theorem d_LW_law_315 : decode code 315 = .ok (.invokestatic 114, 3) := by decide +kernel
theorem d_LW_law_318 : decode code 318 = .ok (.istore 5, 2) := by decide +kernel
theorem d_LW_law_320 : decode code 320 = .ok (.aload_n 2, 1) := by decide +kernel
theorem d_LW_law_321 : decode code 321 = .ok (.aload_n 0, 1) := by decide +kernel
theorem d_LW_law_322 : decode code 322 = .ok (.iload 4, 2) := by decide +kernel
theorem d_LW_law_324 : decode code 324 = .ok (.iconst 1, 1) := by decide +kernel
theorem d_LW_law_325 : decode code 325 = .ok (.iadd, 1) := by decide +kernel
theorem d_LW_law_326 : decode code 326 = .ok (.iaload, 1) := by decide +kernel
theorem d_LW_law_327 : decode code 327 = .ok (.aload_n 0, 1) := by decide +kernel
theorem d_LW_law_328 : decode code 328 = .ok (.iload 4, 2) := by decide +kernel
theorem d_LW_law_330 : decode code 330 = .ok (.iconst 2, 1) := by decide +kernel
theorem d_LW_law_331 : decode code 331 = .ok (.iadd, 1) := by decide +kernel
theorem d_LW_law_332 : decode code 332 = .ok (.iaload, 1) := by decide +kernel
theorem d_LW_law_333 : decode code 333 = .ok (.aload_n 0, 1) := by decide +kernel
theorem d_LW_law_334 : decode code 334 = .ok (.iload 4, 2) := by decide +kernel
theorem d_LW_law_336 : decode code 336 = .ok (.iconst 3, 1) := by decide +kernel
theorem d_LW_law_337 : decode code 337 = .ok (.iadd, 1) := by decide +kernel
theorem d_LW_law_338 : decode code 338 = .ok (.iaload, 1) := by decide +kernel
theorem d_LW_law_339 : decode code 339 = .ok (.invokevirtual 116, 3) := by decide +kernel
theorem d_LW_law_342 : decode code 342 = .ok (.aload_n 2, 1) := by decide +kernel
theorem d_LW_law_343 : decode code 343 = .ok (.invokevirtual 106, 3) := by decide +kernel
theorem d_LW_law_346 : decode code 346 = .ok (.iload 5, 2) := by decide +kernel
theorem d_LW_law_348 : decode code 348 = .ok (.if_icmp .eq 5, 3) := by decide +kernel
theorem d_LW_law_351 : decode code 351 = .ok (.iconst 0, 1) := by decide +kernel
theorem d_LW_law_352 : decode code 352 = .ok (.ireturn, 1) := by decide +kernel
theorem d_LW_law_353 : decode code 353 = .ok (.goto 1258, 3) := by decide +kernel
theorem d_LW_law_356 : decode code 356 = .ok (.aload_n 1, 1) := by decide +kernel
theorem d_LW_law_357 : decode code 357 = .ok (.aload_n 0, 1) := by decide +kernel
theorem d_LW_law_358 : decode code 358 = .ok (.iload 4, 2) := by decide +kernel
theorem d_LW_law_360 : decode code 360 = .ok (.iconst 1, 1) := by decide +kernel
theorem d_LW_law_361 : decode code 361 = .ok (.iadd, 1) := by decide +kernel
theorem d_LW_law_362 : decode code 362 = .ok (.iaload, 1) := by decide +kernel
theorem d_LW_law_363 : decode code 363 = .ok (.aload_n 0, 1) := by decide +kernel
theorem d_LW_law_364 : decode code 364 = .ok (.iload 4, 2) := by decide +kernel
theorem d_LW_law_366 : decode code 366 = .ok (.iconst 2, 1) := by decide +kernel
theorem d_LW_law_367 : decode code 367 = .ok (.iadd, 1) := by decide +kernel
theorem d_LW_law_368 : decode code 368 = .ok (.iaload, 1) := by decide +kernel
theorem d_LW_law_369 : decode code 369 = .ok (.aload_n 0, 1) := by decide +kernel
theorem d_LW_law_370 : decode code 370 = .ok (.iload 4, 2) := by decide +kernel
theorem d_LW_law_372 : decode code 372 = .ok (.iconst 3, 1) := by decide +kernel
theorem d_LW_law_373 : decode code 373 = .ok (.iadd, 1) := by decide +kernel
theorem d_LW_law_374 : decode code 374 = .ok (.iaload, 1) := by decide +kernel
theorem d_LW_law_375 : decode code 375 = .ok (.invokestatic 117, 3) := by decide +kernel
theorem d_LW_law_378 : decode code 378 = .ok (.istore 5, 2) := by decide +kernel
theorem d_LW_law_380 : decode code 380 = .ok (.aload_n 2, 1) := by decide +kernel
theorem d_LW_law_381 : decode code 381 = .ok (.aload_n 0, 1) := by decide +kernel
theorem d_LW_law_382 : decode code 382 = .ok (.iload 4, 2) := by decide +kernel
theorem d_LW_law_384 : decode code 384 = .ok (.iconst 1, 1) := by decide +kernel
theorem d_LW_law_385 : decode code 385 = .ok (.iadd, 1) := by decide +kernel
theorem d_LW_law_386 : decode code 386 = .ok (.iaload, 1) := by decide +kernel
theorem d_LW_law_387 : decode code 387 = .ok (.aload_n 0, 1) := by decide +kernel
theorem d_LW_law_388 : decode code 388 = .ok (.iload 4, 2) := by decide +kernel
theorem d_LW_law_390 : decode code 390 = .ok (.iconst 2, 1) := by decide +kernel
theorem d_LW_law_391 : decode code 391 = .ok (.iadd, 1) := by decide +kernel
theorem d_LW_law_392 : decode code 392 = .ok (.iaload, 1) := by decide +kernel
theorem d_LW_law_393 : decode code 393 = .ok (.aload_n 0, 1) := by decide +kernel
theorem d_LW_law_394 : decode code 394 = .ok (.iload 4, 2) := by decide +kernel
theorem d_LW_law_396 : decode code 396 = .ok (.iconst 3, 1) := by decide +kernel
theorem d_LW_law_397 : decode code 397 = .ok (.iadd, 1) := by decide +kernel
theorem d_LW_law_398 : decode code 398 = .ok (.iaload, 1) := by decide +kernel
theorem d_LW_law_399 : decode code 399 = .ok (.invokevirtual 119, 3) := by decide +kernel
theorem d_LW_law_402 : decode code 402 = .ok (.aload_n 2, 1) := by decide +kernel
theorem d_LW_law_403 : decode code 403 = .ok (.invokevirtual 106, 3) := by decide +kernel
theorem d_LW_law_406 : decode code 406 = .ok (.iload 5, 2) := by decide +kernel
theorem d_LW_law_408 : decode code 408 = .ok (.if_icmp .eq 5, 3) := by decide +kernel
theorem d_LW_law_411 : decode code 411 = .ok (.iconst 0, 1) := by decide +kernel
theorem d_LW_law_412 : decode code 412 = .ok (.ireturn, 1) := by decide +kernel
theorem d_LW_law_413 : decode code 413 = .ok (.goto 1198, 3) := by decide +kernel
theorem d_LW_law_416 : decode code 416 = .ok (.aload_n 1, 1) := by decide +kernel
theorem d_LW_law_417 : decode code 417 = .ok (.aload_n 0, 1) := by decide +kernel
theorem d_LW_law_418 : decode code 418 = .ok (.iload 4, 2) := by decide +kernel
theorem d_LW_law_420 : decode code 420 = .ok (.iconst 1, 1) := by decide +kernel
theorem d_LW_law_421 : decode code 421 = .ok (.iadd, 1) := by decide +kernel
theorem d_LW_law_422 : decode code 422 = .ok (.iaload, 1) := by decide +kernel
theorem d_LW_law_423 : decode code 423 = .ok (.aload_n 0, 1) := by decide +kernel
theorem d_LW_law_424 : decode code 424 = .ok (.iload 4, 2) := by decide +kernel
theorem d_LW_law_426 : decode code 426 = .ok (.iconst 2, 1) := by decide +kernel
theorem d_LW_law_427 : decode code 427 = .ok (.iadd, 1) := by decide +kernel
theorem d_LW_law_428 : decode code 428 = .ok (.iaload, 1) := by decide +kernel
theorem d_LW_law_429 : decode code 429 = .ok (.aload_n 0, 1) := by decide +kernel
theorem d_LW_law_430 : decode code 430 = .ok (.iload 4, 2) := by decide +kernel
theorem d_LW_law_432 : decode code 432 = .ok (.iconst 3, 1) := by decide +kernel
theorem d_LW_law_433 : decode code 433 = .ok (.iadd, 1) := by decide +kernel
theorem d_LW_law_434 : decode code 434 = .ok (.iaload, 1) := by decide +kernel
theorem d_LW_law_435 : decode code 435 = .ok (.aload_n 0, 1) := by decide +kernel
theorem d_LW_law_436 : decode code 436 = .ok (.iload 4, 2) := by decide +kernel
theorem d_LW_law_438 : decode code 438 = .ok (.iconst 4, 1) := by decide +kernel
theorem d_LW_law_439 : decode code 439 = .ok (.iadd, 1) := by decide +kernel
theorem d_LW_law_440 : decode code 440 = .ok (.iaload, 1) := by decide +kernel
theorem d_LW_law_441 : decode code 441 = .ok (.invokestatic 120, 3) := by decide +kernel
theorem d_LW_law_444 : decode code 444 = .ok (.istore 5, 2) := by decide +kernel
theorem d_LW_law_446 : decode code 446 = .ok (.aload_n 2, 1) := by decide +kernel
theorem d_LW_law_447 : decode code 447 = .ok (.aload_n 0, 1) := by decide +kernel
theorem d_LW_law_448 : decode code 448 = .ok (.iload 4, 2) := by decide +kernel
theorem d_LW_law_450 : decode code 450 = .ok (.iconst 1, 1) := by decide +kernel
theorem d_LW_law_451 : decode code 451 = .ok (.iadd, 1) := by decide +kernel
theorem d_LW_law_452 : decode code 452 = .ok (.iaload, 1) := by decide +kernel
theorem d_LW_law_453 : decode code 453 = .ok (.aload_n 0, 1) := by decide +kernel
theorem d_LW_law_454 : decode code 454 = .ok (.iload 4, 2) := by decide +kernel
theorem d_LW_law_456 : decode code 456 = .ok (.iconst 2, 1) := by decide +kernel
theorem d_LW_law_457 : decode code 457 = .ok (.iadd, 1) := by decide +kernel
theorem d_LW_law_458 : decode code 458 = .ok (.iaload, 1) := by decide +kernel
theorem d_LW_law_459 : decode code 459 = .ok (.aload_n 0, 1) := by decide +kernel
theorem d_LW_law_460 : decode code 460 = .ok (.iload 4, 2) := by decide +kernel
theorem d_LW_law_462 : decode code 462 = .ok (.iconst 3, 1) := by decide +kernel
theorem d_LW_law_463 : decode code 463 = .ok (.iadd, 1) := by decide +kernel
theorem d_LW_law_464 : decode code 464 = .ok (.iaload, 1) := by decide +kernel
theorem d_LW_law_465 : decode code 465 = .ok (.aload_n 0, 1) := by decide +kernel
theorem d_LW_law_466 : decode code 466 = .ok (.iload 4, 2) := by decide +kernel
theorem d_LW_law_468 : decode code 468 = .ok (.iconst 4, 1) := by decide +kernel
theorem d_LW_law_469 : decode code 469 = .ok (.iadd, 1) := by decide +kernel
theorem d_LW_law_470 : decode code 470 = .ok (.iaload, 1) := by decide +kernel
end
section
theorem d_LW_law_471 : decode code 471 = .ok (.invokevirtual 123, 3) := by decide +kernel
theorem d_LW_law_474 : decode code 474 = .ok (.aload_n 2, 1) := by decide +kernel
theorem d_LW_law_475 : decode code 475 = .ok (.invokevirtual 106, 3) := by decide +kernel
theorem d_LW_law_478 : decode code 478 = .ok (.iload 5, 2) := by decide +kernel
theorem d_LW_law_480 : decode code 480 = .ok (.if_icmp .eq 5, 3) := by decide +kernel
theorem d_LW_law_483 : decode code 483 = .ok (.iconst 0, 1) := by decide +kernel
theorem d_LW_law_484 : decode code 484 = .ok (.ireturn, 1) := by decide +kernel
theorem d_LW_law_485 : decode code 485 = .ok (.goto 1126, 3) := by decide +kernel
theorem d_LW_law_488 : decode code 488 = .ok (.aload_n 1, 1) := by decide +kernel
theorem d_LW_law_489 : decode code 489 = .ok (.aload_n 0, 1) := by decide +kernel
theorem d_LW_law_490 : decode code 490 = .ok (.iload 4, 2) := by decide +kernel
theorem d_LW_law_492 : decode code 492 = .ok (.iconst 1, 1) := by decide +kernel
theorem d_LW_law_493 : decode code 493 = .ok (.iadd, 1) := by decide +kernel
theorem d_LW_law_494 : decode code 494 = .ok (.iaload, 1) := by decide +kernel
theorem d_LW_law_495 : decode code 495 = .ok (.aload_n 0, 1) := by decide +kernel
theorem d_LW_law_496 : decode code 496 = .ok (.iload 4, 2) := by decide +kernel
theorem d_LW_law_498 : decode code 498 = .ok (.iconst 2, 1) := by decide +kernel
theorem d_LW_law_499 : decode code 499 = .ok (.iadd, 1) := by decide +kernel
theorem d_LW_law_500 : decode code 500 = .ok (.iaload, 1) := by decide +kernel
theorem d_LW_law_501 : decode code 501 = .ok (.aload_n 3, 1) := by decide +kernel
theorem d_LW_law_502 : decode code 502 = .ok (.invokestatic 124, 3) := by decide +kernel
theorem d_LW_law_505 : decode code 505 = .ok (.istore 5, 2) := by decide +kernel
theorem d_LW_law_507 : decode code 507 = .ok (.aload_n 2, 1) := by decide +kernel
theorem d_LW_law_508 : decode code 508 = .ok (.aload_n 0, 1) := by decide +kernel
theorem d_LW_law_509 : decode code 509 = .ok (.iload 4, 2) := by decide +kernel
theorem d_LW_law_511 : decode code 511 = .ok (.iconst 1, 1) := by decide +kernel
theorem d_LW_law_512 : decode code 512 = .ok (.iadd, 1) := by decide +kernel
theorem d_LW_law_513 : decode code 513 = .ok (.iaload, 1) := by decide +kernel
theorem d_LW_law_514 : decode code 514 = .ok (.aload_n 0, 1) := by decide +kernel
theorem d_LW_law_515 : decode code 515 = .ok (.iload 4, 2) := by decide +kernel
theorem d_LW_law_517 : decode code 517 = .ok (.iconst 2, 1) := by decide +kernel
theorem d_LW_law_518 : decode code 518 = .ok (.iadd, 1) := by decide +kernel
theorem d_LW_law_519 : decode code 519 = .ok (.iaload, 1) := by decide +kernel
theorem d_LW_law_520 : decode code 520 = .ok (.invokevirtual 127, 3) := by decide +kernel
theorem d_LW_law_523 : decode code 523 = .ok (.istore 6, 2) := by decide +kernel
theorem d_LW_law_525 : decode code 525 = .ok (.aload_n 2, 1) := by decide +kernel
theorem d_LW_law_526 : decode code 526 = .ok (.invokevirtual 106, 3) := by decide +kernel
theorem d_LW_law_529 : decode code 529 = .ok (.iload 5, 2) := by decide +kernel
theorem d_LW_law_531 : decode code 531 = .ok (.if_icmp .eq 5, 3) := by decide +kernel
theorem d_LW_law_534 : decode code 534 = .ok (.iconst 0, 1) := by decide +kernel
theorem d_LW_law_535 : decode code 535 = .ok (.ireturn, 1) := by decide +kernel
theorem d_LW_law_536 : decode code 536 = .ok (.iload 5, 2) := by decide +kernel
theorem d_LW_law_538 : decode code 538 = .ok (.ifCond .ne 15, 3) := by decide +kernel
theorem d_LW_law_541 : decode code 541 = .ok (.aload_n 3, 1) := by decide +kernel
theorem d_LW_law_542 : decode code 542 = .ok (.iconst 0, 1) := by decide +kernel
theorem d_LW_law_543 : decode code 543 = .ok (.laload, 1) := by decide +kernel
theorem d_LW_law_544 : decode code 544 = .ok (.iload 6, 2) := by decide +kernel
theorem d_LW_law_546 : decode code 546 = .ok (.i2l, 1) := by decide +kernel
theorem d_LW_law_547 : decode code 547 = .ok (.lcmp, 1) := by decide +kernel
theorem d_LW_law_548 : decode code 548 = .ok (.ifCond .eq 5, 3) := by decide +kernel
theorem d_LW_law_551 : decode code 551 = .ok (.iconst 0, 1) := by decide +kernel
theorem d_LW_law_552 : decode code 552 = .ok (.ireturn, 1) := by decide +kernel
theorem d_LW_law_553 : decode code 553 = .ok (.goto 1058, 3) := by decide +kernel
theorem d_LW_law_556 : decode code 556 = .ok (.aload_n 1, 1) := by decide +kernel
theorem d_LW_law_557 : decode code 557 = .ok (.aload_n 0, 1) := by decide +kernel
theorem d_LW_law_558 : decode code 558 = .ok (.iload 4, 2) := by decide +kernel
theorem d_LW_law_560 : decode code 560 = .ok (.iconst 1, 1) := by decide +kernel
theorem d_LW_law_561 : decode code 561 = .ok (.iadd, 1) := by decide +kernel
theorem d_LW_law_562 : decode code 562 = .ok (.iaload, 1) := by decide +kernel
theorem d_LW_law_563 : decode code 563 = .ok (.aload_n 0, 1) := by decide +kernel
theorem d_LW_law_564 : decode code 564 = .ok (.iload 4, 2) := by decide +kernel
theorem d_LW_law_566 : decode code 566 = .ok (.iconst 2, 1) := by decide +kernel
theorem d_LW_law_567 : decode code 567 = .ok (.iadd, 1) := by decide +kernel
theorem d_LW_law_568 : decode code 568 = .ok (.iaload, 1) := by decide +kernel
theorem d_LW_law_569 : decode code 569 = .ok (.aload_n 0, 1) := by decide +kernel
theorem d_LW_law_570 : decode code 570 = .ok (.iload 4, 2) := by decide +kernel
theorem d_LW_law_572 : decode code 572 = .ok (.iconst 3, 1) := by decide +kernel
theorem d_LW_law_573 : decode code 573 = .ok (.iadd, 1) := by decide +kernel
theorem d_LW_law_574 : decode code 574 = .ok (.iaload, 1) := by decide +kernel
theorem d_LW_law_575 : decode code 575 = .ok (.aload_n 0, 1) := by decide +kernel
theorem d_LW_law_576 : decode code 576 = .ok (.iload 4, 2) := by decide +kernel
theorem d_LW_law_578 : decode code 578 = .ok (.iconst 4, 1) := by decide +kernel
theorem d_LW_law_579 : decode code 579 = .ok (.iadd, 1) := by decide +kernel
theorem d_LW_law_580 : decode code 580 = .ok (.iaload, 1) := by decide +kernel
theorem d_LW_law_581 : decode code 581 = .ok (.aload_n 3, 1) := by decide +kernel
theorem d_LW_law_582 : decode code 582 = .ok (.invokestatic 128, 3) := by decide +kernel
theorem d_LW_law_585 : decode code 585 = .ok (.istore 5, 2) := by decide +kernel
theorem d_LW_law_587 : decode code 587 = .ok (.aload_n 2, 1) := by decide +kernel
theorem d_LW_law_588 : decode code 588 = .ok (.aload_n 0, 1) := by decide +kernel
theorem d_LW_law_589 : decode code 589 = .ok (.iload 4, 2) := by decide +kernel
theorem d_LW_law_591 : decode code 591 = .ok (.iconst 1, 1) := by decide +kernel
theorem d_LW_law_592 : decode code 592 = .ok (.iadd, 1) := by decide +kernel
theorem d_LW_law_593 : decode code 593 = .ok (.iaload, 1) := by decide +kernel
theorem d_LW_law_594 : decode code 594 = .ok (.aload_n 0, 1) := by decide +kernel
theorem d_LW_law_595 : decode code 595 = .ok (.iload 4, 2) := by decide +kernel
theorem d_LW_law_597 : decode code 597 = .ok (.iconst 2, 1) := by decide +kernel
theorem d_LW_law_598 : decode code 598 = .ok (.iadd, 1) := by decide +kernel
theorem d_LW_law_599 : decode code 599 = .ok (.iaload, 1) := by decide +kernel
theorem d_LW_law_600 : decode code 600 = .ok (.aload_n 0, 1) := by decide +kernel
theorem d_LW_law_601 : decode code 601 = .ok (.iload 4, 2) := by decide +kernel
theorem d_LW_law_603 : decode code 603 = .ok (.iconst 3, 1) := by decide +kernel
theorem d_LW_law_604 : decode code 604 = .ok (.iadd, 1) := by decide +kernel
theorem d_LW_law_605 : decode code 605 = .ok (.iaload, 1) := by decide +kernel
theorem d_LW_law_606 : decode code 606 = .ok (.aload_n 0, 1) := by decide +kernel
theorem d_LW_law_607 : decode code 607 = .ok (.iload 4, 2) := by decide +kernel
theorem d_LW_law_609 : decode code 609 = .ok (.iconst 4, 1) := by decide +kernel
theorem d_LW_law_610 : decode code 610 = .ok (.iadd, 1) := by decide +kernel
theorem d_LW_law_611 : decode code 611 = .ok (.iaload, 1) := by decide +kernel
theorem d_LW_law_612 : decode code 612 = .ok (.invokevirtual 130, 3) := by decide +kernel
theorem d_LW_law_615 : decode code 615 = .ok (.istore 6, 2) := by decide +kernel
theorem d_LW_law_617 : decode code 617 = .ok (.aload_n 2, 1) := by decide +kernel
theorem d_LW_law_618 : decode code 618 = .ok (.invokevirtual 106, 3) := by decide +kernel
theorem d_LW_law_621 : decode code 621 = .ok (.iload 5, 2) := by decide +kernel
theorem d_LW_law_623 : decode code 623 = .ok (.if_icmp .eq 5, 3) := by decide +kernel
theorem d_LW_law_626 : decode code 626 = .ok (.iconst 0, 1) := by decide +kernel
theorem d_LW_law_627 : decode code 627 = .ok (.ireturn, 1) := by decide +kernel
theorem d_LW_law_628 : decode code 628 = .ok (.iload 5, 2) := by decide +kernel
theorem d_LW_law_630 : decode code 630 = .ok (.ifCond .ne 15, 3) := by decide +kernel
theorem d_LW_law_633 : decode code 633 = .ok (.aload_n 3, 1) := by decide +kernel
theorem d_LW_law_634 : decode code 634 = .ok (.iconst 0, 1) := by decide +kernel
theorem d_LW_law_635 : decode code 635 = .ok (.laload, 1) := by decide +kernel
theorem d_LW_law_636 : decode code 636 = .ok (.iload 6, 2) := by decide +kernel
theorem d_LW_law_638 : decode code 638 = .ok (.i2l, 1) := by decide +kernel
theorem d_LW_law_639 : decode code 639 = .ok (.lcmp, 1) := by decide +kernel
theorem d_LW_law_640 : decode code 640 = .ok (.ifCond .eq 5, 3) := by decide +kernel
theorem d_LW_law_643 : decode code 643 = .ok (.iconst 0, 1) := by decide +kernel
theorem d_LW_law_644 : decode code 644 = .ok (.ireturn, 1) := by decide +kernel
theorem d_LW_law_645 : decode code 645 = .ok (.goto 966, 3) := by decide +kernel
theorem d_LW_law_648 : decode code 648 = .ok (.aload_n 1, 1) := by decide +kernel
theorem d_LW_law_649 : decode code 649 = .ok (.aload_n 0, 1) := by decide +kernel
theorem d_LW_law_650 : decode code 650 = .ok (.iload 4, 2) := by decide +kernel
theorem d_LW_law_652 : decode code 652 = .ok (.iconst 1, 1) := by decide +kernel
theorem d_LW_law_653 : decode code 653 = .ok (.iadd, 1) := by decide +kernel
theorem d_LW_law_654 : decode code 654 = .ok (.iaload, 1) := by decide +kernel
theorem d_LW_law_655 : decode code 655 = .ok (.aload_n 0, 1) := by decide +kernel
theorem d_LW_law_656 : decode code 656 = .ok (.iload 4, 2) := by decide +kernel
theorem d_LW_law_658 : decode code 658 = .ok (.iconst 2, 1) := by decide +kernel
theorem d_LW_law_659 : decode code 659 = .ok (.iadd, 1) := by decide +kernel
theorem d_LW_law_660 : decode code 660 = .ok (.iaload, 1) := by decide +kernel
theorem d_LW_law_661 : decode code 661 = .ok (.aload_n 0, 1) := by decide +kernel
theorem d_LW_law_662 : decode code 662 = .ok (.iload 4, 2) := by decide +kernel
theorem d_LW_law_664 : decode code 664 = .ok (.iconst 3, 1) := by decide +kernel
theorem d_LW_law_665 : decode code 665 = .ok (.iadd, 1) := by decide +kernel
theorem d_LW_law_666 : decode code 666 = .ok (.iaload, 1) := by decide +kernel
theorem d_LW_law_667 : decode code 667 = .ok (.aload_n 0, 1) := by decide +kernel
theorem d_LW_law_668 : decode code 668 = .ok (.iload 4, 2) := by decide +kernel
theorem d_LW_law_670 : decode code 670 = .ok (.iconst 4, 1) := by decide +kernel
theorem d_LW_law_671 : decode code 671 = .ok (.iadd, 1) := by decide +kernel
theorem d_LW_law_672 : decode code 672 = .ok (.iaload, 1) := by decide +kernel
theorem d_LW_law_673 : decode code 673 = .ok (.aload_n 3, 1) := by decide +kernel
theorem d_LW_law_674 : decode code 674 = .ok (.invokestatic 131, 3) := by decide +kernel
theorem d_LW_law_677 : decode code 677 = .ok (.istore 5, 2) := by decide +kernel
theorem d_LW_law_679 : decode code 679 = .ok (.aload_n 2, 1) := by decide +kernel
theorem d_LW_law_680 : decode code 680 = .ok (.aload_n 0, 1) := by decide +kernel
theorem d_LW_law_681 : decode code 681 = .ok (.iload 4, 2) := by decide +kernel
theorem d_LW_law_683 : decode code 683 = .ok (.iconst 1, 1) := by decide +kernel
theorem d_LW_law_684 : decode code 684 = .ok (.iadd, 1) := by decide +kernel
theorem d_LW_law_685 : decode code 685 = .ok (.iaload, 1) := by decide +kernel
theorem d_LW_law_686 : decode code 686 = .ok (.aload_n 0, 1) := by decide +kernel
theorem d_LW_law_687 : decode code 687 = .ok (.iload 4, 2) := by decide +kernel
theorem d_LW_law_689 : decode code 689 = .ok (.iconst 2, 1) := by decide +kernel
theorem d_LW_law_690 : decode code 690 = .ok (.iadd, 1) := by decide +kernel
theorem d_LW_law_691 : decode code 691 = .ok (.iaload, 1) := by decide +kernel
theorem d_LW_law_692 : decode code 692 = .ok (.aload_n 0, 1) := by decide +kernel
theorem d_LW_law_693 : decode code 693 = .ok (.iload 4, 2) := by decide +kernel
theorem d_LW_law_695 : decode code 695 = .ok (.iconst 3, 1) := by decide +kernel
theorem d_LW_law_696 : decode code 696 = .ok (.iadd, 1) := by decide +kernel
theorem d_LW_law_697 : decode code 697 = .ok (.iaload, 1) := by decide +kernel
theorem d_LW_law_698 : decode code 698 = .ok (.aload_n 0, 1) := by decide +kernel
theorem d_LW_law_699 : decode code 699 = .ok (.iload 4, 2) := by decide +kernel
theorem d_LW_law_701 : decode code 701 = .ok (.iconst 4, 1) := by decide +kernel
theorem d_LW_law_702 : decode code 702 = .ok (.iadd, 1) := by decide +kernel
theorem d_LW_law_703 : decode code 703 = .ok (.iaload, 1) := by decide +kernel
theorem d_LW_law_704 : decode code 704 = .ok (.invokevirtual 133, 3) := by decide +kernel
theorem d_LW_law_707 : decode code 707 = .ok (.istore 6, 2) := by decide +kernel
theorem d_LW_law_709 : decode code 709 = .ok (.aload_n 2, 1) := by decide +kernel
theorem d_LW_law_710 : decode code 710 = .ok (.invokevirtual 106, 3) := by decide +kernel
theorem d_LW_law_713 : decode code 713 = .ok (.iload 5, 2) := by decide +kernel
theorem d_LW_law_715 : decode code 715 = .ok (.if_icmp .eq 5, 3) := by decide +kernel
theorem d_LW_law_718 : decode code 718 = .ok (.iconst 0, 1) := by decide +kernel
theorem d_LW_law_719 : decode code 719 = .ok (.ireturn, 1) := by decide +kernel
theorem d_LW_law_720 : decode code 720 = .ok (.iload 5, 2) := by decide +kernel
theorem d_LW_law_722 : decode code 722 = .ok (.ifCond .ne 15, 3) := by decide +kernel
theorem d_LW_law_725 : decode code 725 = .ok (.aload_n 3, 1) := by decide +kernel
theorem d_LW_law_726 : decode code 726 = .ok (.iconst 0, 1) := by decide +kernel
theorem d_LW_law_727 : decode code 727 = .ok (.laload, 1) := by decide +kernel
theorem d_LW_law_728 : decode code 728 = .ok (.iload 6, 2) := by decide +kernel
theorem d_LW_law_730 : decode code 730 = .ok (.i2l, 1) := by decide +kernel
theorem d_LW_law_731 : decode code 731 = .ok (.lcmp, 1) := by decide +kernel
theorem d_LW_law_732 : decode code 732 = .ok (.ifCond .eq 5, 3) := by decide +kernel
theorem d_LW_law_735 : decode code 735 = .ok (.iconst 0, 1) := by decide +kernel
theorem d_LW_law_736 : decode code 736 = .ok (.ireturn, 1) := by decide +kernel
theorem d_LW_law_737 : decode code 737 = .ok (.goto 874, 3) := by decide +kernel
theorem d_LW_law_740 : decode code 740 = .ok (.aload_n 1, 1) := by decide +kernel
theorem d_LW_law_741 : decode code 741 = .ok (.aload_n 0, 1) := by decide +kernel
theorem d_LW_law_742 : decode code 742 = .ok (.iload 4, 2) := by decide +kernel
theorem d_LW_law_744 : decode code 744 = .ok (.iconst 1, 1) := by decide +kernel
theorem d_LW_law_745 : decode code 745 = .ok (.iadd, 1) := by decide +kernel
theorem d_LW_law_746 : decode code 746 = .ok (.iaload, 1) := by decide +kernel
theorem d_LW_law_747 : decode code 747 = .ok (.aload_n 3, 1) := by decide +kernel
theorem d_LW_law_748 : decode code 748 = .ok (.invokestatic 134, 3) := by decide +kernel
theorem d_LW_law_751 : decode code 751 = .ok (.istore 5, 2) := by decide +kernel
theorem d_LW_law_753 : decode code 753 = .ok (.aload_n 2, 1) := by decide +kernel
theorem d_LW_law_754 : decode code 754 = .ok (.aload_n 0, 1) := by decide +kernel
theorem d_LW_law_755 : decode code 755 = .ok (.iload 4, 2) := by decide +kernel
theorem d_LW_law_757 : decode code 757 = .ok (.iconst 1, 1) := by decide +kernel
theorem d_LW_law_758 : decode code 758 = .ok (.iadd, 1) := by decide +kernel
theorem d_LW_law_759 : decode code 759 = .ok (.iaload, 1) := by decide +kernel
theorem d_LW_law_760 : decode code 760 = .ok (.invokevirtual 137, 3) := by decide +kernel
theorem d_LW_law_763 : decode code 763 = .ok (.istore 6, 2) := by decide +kernel
theorem d_LW_law_765 : decode code 765 = .ok (.aload_n 2, 1) := by decide +kernel
theorem d_LW_law_766 : decode code 766 = .ok (.invokevirtual 106, 3) := by decide +kernel
theorem d_LW_law_769 : decode code 769 = .ok (.iload 5, 2) := by decide +kernel
theorem d_LW_law_771 : decode code 771 = .ok (.if_icmp .eq 5, 3) := by decide +kernel
theorem d_LW_law_774 : decode code 774 = .ok (.iconst 0, 1) := by decide +kernel
theorem d_LW_law_775 : decode code 775 = .ok (.ireturn, 1) := by decide +kernel
theorem d_LW_law_776 : decode code 776 = .ok (.iload 5, 2) := by decide +kernel
theorem d_LW_law_778 : decode code 778 = .ok (.ifCond .ne 15, 3) := by decide +kernel
theorem d_LW_law_781 : decode code 781 = .ok (.aload_n 3, 1) := by decide +kernel
theorem d_LW_law_782 : decode code 782 = .ok (.iconst 0, 1) := by decide +kernel
theorem d_LW_law_783 : decode code 783 = .ok (.laload, 1) := by decide +kernel
theorem d_LW_law_784 : decode code 784 = .ok (.iload 6, 2) := by decide +kernel
theorem d_LW_law_786 : decode code 786 = .ok (.i2l, 1) := by decide +kernel
theorem d_LW_law_787 : decode code 787 = .ok (.lcmp, 1) := by decide +kernel
theorem d_LW_law_788 : decode code 788 = .ok (.ifCond .eq 5, 3) := by decide +kernel
theorem d_LW_law_791 : decode code 791 = .ok (.iconst 0, 1) := by decide +kernel
theorem d_LW_law_792 : decode code 792 = .ok (.ireturn, 1) := by decide +kernel
theorem d_LW_law_793 : decode code 793 = .ok (.goto 818, 3) := by decide +kernel
theorem d_LW_law_796 : decode code 796 = .ok (.aload_n 1, 1) := by decide +kernel
theorem d_LW_law_797 : decode code 797 = .ok (.aload_n 0, 1) := by decide +kernel
theorem d_LW_law_798 : decode code 798 = .ok (.iload 4, 2) := by decide +kernel
theorem d_LW_law_800 : decode code 800 = .ok (.iconst 1, 1) := by decide +kernel
theorem d_LW_law_801 : decode code 801 = .ok (.iadd, 1) := by decide +kernel
theorem d_LW_law_802 : decode code 802 = .ok (.iaload, 1) := by decide +kernel
theorem d_LW_law_803 : decode code 803 = .ok (.aload_n 0, 1) := by decide +kernel
theorem d_LW_law_804 : decode code 804 = .ok (.iload 4, 2) := by decide +kernel
theorem d_LW_law_806 : decode code 806 = .ok (.iconst 2, 1) := by decide +kernel
theorem d_LW_law_807 : decode code 807 = .ok (.iadd, 1) := by decide +kernel
theorem d_LW_law_808 : decode code 808 = .ok (.iaload, 1) := by decide +kernel
theorem d_LW_law_809 : decode code 809 = .ok (.aload_n 0, 1) := by decide +kernel
theorem d_LW_law_810 : decode code 810 = .ok (.iload 4, 2) := by decide +kernel
theorem d_LW_law_812 : decode code 812 = .ok (.iconst 3, 1) := by decide +kernel
theorem d_LW_law_813 : decode code 813 = .ok (.iadd, 1) := by decide +kernel
theorem d_LW_law_814 : decode code 814 = .ok (.iaload, 1) := by decide +kernel
theorem d_LW_law_815 : decode code 815 = .ok (.aload_n 0, 1) := by decide +kernel
theorem d_LW_law_816 : decode code 816 = .ok (.iload 4, 2) := by decide +kernel
theorem d_LW_law_818 : decode code 818 = .ok (.iconst 4, 1) := by decide +kernel
theorem d_LW_law_819 : decode code 819 = .ok (.iadd, 1) := by decide +kernel
theorem d_LW_law_820 : decode code 820 = .ok (.iaload, 1) := by decide +kernel
theorem d_LW_law_821 : decode code 821 = .ok (.aload_n 0, 1) := by decide +kernel
theorem d_LW_law_822 : decode code 822 = .ok (.iload 4, 2) := by decide +kernel
theorem d_LW_law_824 : decode code 824 = .ok (.iconst 5, 1) := by decide +kernel
theorem d_LW_law_825 : decode code 825 = .ok (.iadd, 1) := by decide +kernel
theorem d_LW_law_826 : decode code 826 = .ok (.iaload, 1) := by decide +kernel
theorem d_LW_law_827 : decode code 827 = .ok (.invokestatic 138, 3) := by decide +kernel
theorem d_LW_law_830 : decode code 830 = .ok (.istore 5, 2) := by decide +kernel
theorem d_LW_law_832 : decode code 832 = .ok (.aload_n 2, 1) := by decide +kernel
theorem d_LW_law_833 : decode code 833 = .ok (.aload_n 0, 1) := by decide +kernel
theorem d_LW_law_834 : decode code 834 = .ok (.iload 4, 2) := by decide +kernel
theorem d_LW_law_836 : decode code 836 = .ok (.iconst 1, 1) := by decide +kernel
theorem d_LW_law_837 : decode code 837 = .ok (.iadd, 1) := by decide +kernel
theorem d_LW_law_838 : decode code 838 = .ok (.iaload, 1) := by decide +kernel
theorem d_LW_law_839 : decode code 839 = .ok (.aload_n 0, 1) := by decide +kernel
theorem d_LW_law_840 : decode code 840 = .ok (.iload 4, 2) := by decide +kernel
theorem d_LW_law_842 : decode code 842 = .ok (.iconst 2, 1) := by decide +kernel
theorem d_LW_law_843 : decode code 843 = .ok (.iadd, 1) := by decide +kernel
theorem d_LW_law_844 : decode code 844 = .ok (.iaload, 1) := by decide +kernel
theorem d_LW_law_845 : decode code 845 = .ok (.aload_n 0, 1) := by decide +kernel
theorem d_LW_law_846 : decode code 846 = .ok (.iload 4, 2) := by decide +kernel
theorem d_LW_law_848 : decode code 848 = .ok (.iconst 3, 1) := by decide +kernel
end
section
theorem d_LW_law_849 : decode code 849 = .ok (.iadd, 1) := by decide +kernel
theorem d_LW_law_850 : decode code 850 = .ok (.iaload, 1) := by decide +kernel
theorem d_LW_law_851 : decode code 851 = .ok (.aload_n 0, 1) := by decide +kernel
theorem d_LW_law_852 : decode code 852 = .ok (.iload 4, 2) := by decide +kernel
theorem d_LW_law_854 : decode code 854 = .ok (.iconst 4, 1) := by decide +kernel
theorem d_LW_law_855 : decode code 855 = .ok (.iadd, 1) := by decide +kernel
theorem d_LW_law_856 : decode code 856 = .ok (.iaload, 1) := by decide +kernel
theorem d_LW_law_857 : decode code 857 = .ok (.aload_n 0, 1) := by decide +kernel
theorem d_LW_law_858 : decode code 858 = .ok (.iload 4, 2) := by decide +kernel
theorem d_LW_law_860 : decode code 860 = .ok (.iconst 5, 1) := by decide +kernel
theorem d_LW_law_861 : decode code 861 = .ok (.iadd, 1) := by decide +kernel
theorem d_LW_law_862 : decode code 862 = .ok (.iaload, 1) := by decide +kernel
theorem d_LW_law_863 : decode code 863 = .ok (.invokevirtual 141, 3) := by decide +kernel
theorem d_LW_law_866 : decode code 866 = .ok (.aload_n 2, 1) := by decide +kernel
theorem d_LW_law_867 : decode code 867 = .ok (.invokevirtual 106, 3) := by decide +kernel
theorem d_LW_law_870 : decode code 870 = .ok (.iload 5, 2) := by decide +kernel
theorem d_LW_law_872 : decode code 872 = .ok (.if_icmp .eq 5, 3) := by decide +kernel
theorem d_LW_law_875 : decode code 875 = .ok (.iconst 0, 1) := by decide +kernel
theorem d_LW_law_876 : decode code 876 = .ok (.ireturn, 1) := by decide +kernel
theorem d_LW_law_877 : decode code 877 = .ok (.goto 734, 3) := by decide +kernel
theorem d_LW_law_880 : decode code 880 = .ok (.aload_n 1, 1) := by decide +kernel
theorem d_LW_law_881 : decode code 881 = .ok (.aload_n 0, 1) := by decide +kernel
theorem d_LW_law_882 : decode code 882 = .ok (.iload 4, 2) := by decide +kernel
theorem d_LW_law_884 : decode code 884 = .ok (.iconst 1, 1) := by decide +kernel
theorem d_LW_law_885 : decode code 885 = .ok (.iadd, 1) := by decide +kernel
theorem d_LW_law_886 : decode code 886 = .ok (.iaload, 1) := by decide +kernel
theorem d_LW_law_887 : decode code 887 = .ok (.aload_n 0, 1) := by decide +kernel
theorem d_LW_law_888 : decode code 888 = .ok (.iload 4, 2) := by decide +kernel
theorem d_LW_law_890 : decode code 890 = .ok (.iconst 2, 1) := by decide +kernel
theorem d_LW_law_891 : decode code 891 = .ok (.iadd, 1) := by decide +kernel
theorem d_LW_law_892 : decode code 892 = .ok (.iaload, 1) := by decide +kernel
theorem d_LW_law_893 : decode code 893 = .ok (.aload_n 0, 1) := by decide +kernel
theorem d_LW_law_894 : decode code 894 = .ok (.iload 4, 2) := by decide +kernel
theorem d_LW_law_896 : decode code 896 = .ok (.iconst 3, 1) := by decide +kernel
theorem d_LW_law_897 : decode code 897 = .ok (.iadd, 1) := by decide +kernel
theorem d_LW_law_898 : decode code 898 = .ok (.iaload, 1) := by decide +kernel
theorem d_LW_law_899 : decode code 899 = .ok (.invokestatic 142, 3) := by decide +kernel
theorem d_LW_law_902 : decode code 902 = .ok (.istore 5, 2) := by decide +kernel
theorem d_LW_law_904 : decode code 904 = .ok (.aload_n 2, 1) := by decide +kernel
theorem d_LW_law_905 : decode code 905 = .ok (.aload_n 0, 1) := by decide +kernel
theorem d_LW_law_906 : decode code 906 = .ok (.iload 4, 2) := by decide +kernel
theorem d_LW_law_908 : decode code 908 = .ok (.iconst 1, 1) := by decide +kernel
theorem d_LW_law_909 : decode code 909 = .ok (.iadd, 1) := by decide +kernel
theorem d_LW_law_910 : decode code 910 = .ok (.iaload, 1) := by decide +kernel
theorem d_LW_law_911 : decode code 911 = .ok (.aload_n 0, 1) := by decide +kernel
theorem d_LW_law_912 : decode code 912 = .ok (.iload 4, 2) := by decide +kernel
theorem d_LW_law_914 : decode code 914 = .ok (.iconst 2, 1) := by decide +kernel
theorem d_LW_law_915 : decode code 915 = .ok (.iadd, 1) := by decide +kernel
theorem d_LW_law_916 : decode code 916 = .ok (.iaload, 1) := by decide +kernel
theorem d_LW_law_917 : decode code 917 = .ok (.aload_n 0, 1) := by decide +kernel
theorem d_LW_law_918 : decode code 918 = .ok (.iload 4, 2) := by decide +kernel
theorem d_LW_law_920 : decode code 920 = .ok (.iconst 3, 1) := by decide +kernel
theorem d_LW_law_921 : decode code 921 = .ok (.iadd, 1) := by decide +kernel
theorem d_LW_law_922 : decode code 922 = .ok (.iaload, 1) := by decide +kernel
theorem d_LW_law_923 : decode code 923 = .ok (.invokevirtual 144, 3) := by decide +kernel
theorem d_LW_law_926 : decode code 926 = .ok (.aload_n 2, 1) := by decide +kernel
theorem d_LW_law_927 : decode code 927 = .ok (.invokevirtual 106, 3) := by decide +kernel
theorem d_LW_law_930 : decode code 930 = .ok (.iload 5, 2) := by decide +kernel
theorem d_LW_law_932 : decode code 932 = .ok (.if_icmp .eq 5, 3) := by decide +kernel
theorem d_LW_law_935 : decode code 935 = .ok (.iconst 0, 1) := by decide +kernel
theorem d_LW_law_936 : decode code 936 = .ok (.ireturn, 1) := by decide +kernel
theorem d_LW_law_937 : decode code 937 = .ok (.goto 674, 3) := by decide +kernel
theorem d_LW_law_940 : decode code 940 = .ok (.aload_n 1, 1) := by decide +kernel
theorem d_LW_law_941 : decode code 941 = .ok (.aload_n 0, 1) := by decide +kernel
theorem d_LW_law_942 : decode code 942 = .ok (.iload 4, 2) := by decide +kernel
theorem d_LW_law_944 : decode code 944 = .ok (.iconst 1, 1) := by decide +kernel
theorem d_LW_law_945 : decode code 945 = .ok (.iadd, 1) := by decide +kernel
theorem d_LW_law_946 : decode code 946 = .ok (.iaload, 1) := by decide +kernel
theorem d_LW_law_947 : decode code 947 = .ok (.aload_n 0, 1) := by decide +kernel
theorem d_LW_law_948 : decode code 948 = .ok (.iload 4, 2) := by decide +kernel
theorem d_LW_law_950 : decode code 950 = .ok (.iconst 2, 1) := by decide +kernel
theorem d_LW_law_951 : decode code 951 = .ok (.iadd, 1) := by decide +kernel
theorem d_LW_law_952 : decode code 952 = .ok (.iaload, 1) := by decide +kernel
theorem d_LW_law_953 : decode code 953 = .ok (.aload_n 0, 1) := by decide +kernel
theorem d_LW_law_954 : decode code 954 = .ok (.iload 4, 2) := by decide +kernel
theorem d_LW_law_956 : decode code 956 = .ok (.iconst 3, 1) := by decide +kernel
theorem d_LW_law_957 : decode code 957 = .ok (.iadd, 1) := by decide +kernel
theorem d_LW_law_958 : decode code 958 = .ok (.iaload, 1) := by decide +kernel
theorem d_LW_law_959 : decode code 959 = .ok (.invokestatic 145, 3) := by decide +kernel
theorem d_LW_law_962 : decode code 962 = .ok (.istore 5, 2) := by decide +kernel
theorem d_LW_law_964 : decode code 964 = .ok (.aload_n 2, 1) := by decide +kernel
theorem d_LW_law_965 : decode code 965 = .ok (.aload_n 0, 1) := by decide +kernel
theorem d_LW_law_966 : decode code 966 = .ok (.iload 4, 2) := by decide +kernel
theorem d_LW_law_968 : decode code 968 = .ok (.iconst 1, 1) := by decide +kernel
theorem d_LW_law_969 : decode code 969 = .ok (.iadd, 1) := by decide +kernel
theorem d_LW_law_970 : decode code 970 = .ok (.iaload, 1) := by decide +kernel
theorem d_LW_law_971 : decode code 971 = .ok (.aload_n 0, 1) := by decide +kernel
theorem d_LW_law_972 : decode code 972 = .ok (.iload 4, 2) := by decide +kernel
theorem d_LW_law_974 : decode code 974 = .ok (.iconst 2, 1) := by decide +kernel
theorem d_LW_law_975 : decode code 975 = .ok (.iadd, 1) := by decide +kernel
theorem d_LW_law_976 : decode code 976 = .ok (.iaload, 1) := by decide +kernel
theorem d_LW_law_977 : decode code 977 = .ok (.aload_n 0, 1) := by decide +kernel
theorem d_LW_law_978 : decode code 978 = .ok (.iload 4, 2) := by decide +kernel
theorem d_LW_law_980 : decode code 980 = .ok (.iconst 3, 1) := by decide +kernel
theorem d_LW_law_981 : decode code 981 = .ok (.iadd, 1) := by decide +kernel
theorem d_LW_law_982 : decode code 982 = .ok (.iaload, 1) := by decide +kernel
theorem d_LW_law_983 : decode code 983 = .ok (.invokevirtual 147, 3) := by decide +kernel
theorem d_LW_law_986 : decode code 986 = .ok (.aload_n 2, 1) := by decide +kernel
theorem d_LW_law_987 : decode code 987 = .ok (.invokevirtual 106, 3) := by decide +kernel
theorem d_LW_law_990 : decode code 990 = .ok (.iload 5, 2) := by decide +kernel
theorem d_LW_law_992 : decode code 992 = .ok (.if_icmp .eq 5, 3) := by decide +kernel
theorem d_LW_law_995 : decode code 995 = .ok (.iconst 0, 1) := by decide +kernel
theorem d_LW_law_996 : decode code 996 = .ok (.ireturn, 1) := by decide +kernel
theorem d_LW_law_997 : decode code 997 = .ok (.goto 614, 3) := by decide +kernel
theorem d_LW_law_1000 : decode code 1000 = .ok (.aload_n 1, 1) := by decide +kernel
theorem d_LW_law_1001 : decode code 1001 = .ok (.aload_n 0, 1) := by decide +kernel
theorem d_LW_law_1002 : decode code 1002 = .ok (.iload 4, 2) := by decide +kernel
theorem d_LW_law_1004 : decode code 1004 = .ok (.iconst 1, 1) := by decide +kernel
theorem d_LW_law_1005 : decode code 1005 = .ok (.iadd, 1) := by decide +kernel
theorem d_LW_law_1006 : decode code 1006 = .ok (.iaload, 1) := by decide +kernel
theorem d_LW_law_1007 : decode code 1007 = .ok (.aload_n 0, 1) := by decide +kernel
theorem d_LW_law_1008 : decode code 1008 = .ok (.iload 4, 2) := by decide +kernel
theorem d_LW_law_1010 : decode code 1010 = .ok (.iconst 2, 1) := by decide +kernel
theorem d_LW_law_1011 : decode code 1011 = .ok (.iadd, 1) := by decide +kernel
theorem d_LW_law_1012 : decode code 1012 = .ok (.iaload, 1) := by decide +kernel
theorem d_LW_law_1013 : decode code 1013 = .ok (.aload_n 0, 1) := by decide +kernel
theorem d_LW_law_1014 : decode code 1014 = .ok (.iload 4, 2) := by decide +kernel
theorem d_LW_law_1016 : decode code 1016 = .ok (.iconst 3, 1) := by decide +kernel
theorem d_LW_law_1017 : decode code 1017 = .ok (.iadd, 1) := by decide +kernel
theorem d_LW_law_1018 : decode code 1018 = .ok (.iaload, 1) := by decide +kernel
theorem d_LW_law_1019 : decode code 1019 = .ok (.ifCond .eq 7, 3) := by decide +kernel
theorem d_LW_law_1022 : decode code 1022 = .ok (.iconst 1, 1) := by decide +kernel
theorem d_LW_law_1023 : decode code 1023 = .ok (.goto 4, 3) := by decide +kernel
theorem d_LW_law_1026 : decode code 1026 = .ok (.iconst 0, 1) := by decide +kernel
theorem d_LW_law_1027 : decode code 1027 = .ok (.invokestatic 148, 3) := by decide +kernel
theorem d_LW_law_1030 : decode code 1030 = .ok (.istore 5, 2) := by decide +kernel
theorem d_LW_law_1032 : decode code 1032 = .ok (.aload_n 2, 1) := by decide +kernel
theorem d_LW_law_1033 : decode code 1033 = .ok (.aload_n 0, 1) := by decide +kernel
theorem d_LW_law_1034 : decode code 1034 = .ok (.iload 4, 2) := by decide +kernel
theorem d_LW_law_1036 : decode code 1036 = .ok (.iconst 1, 1) := by decide +kernel
theorem d_LW_law_1037 : decode code 1037 = .ok (.iadd, 1) := by decide +kernel
theorem d_LW_law_1038 : decode code 1038 = .ok (.iaload, 1) := by decide +kernel
theorem d_LW_law_1039 : decode code 1039 = .ok (.aload_n 0, 1) := by decide +kernel
theorem d_LW_law_1040 : decode code 1040 = .ok (.iload 4, 2) := by decide +kernel
theorem d_LW_law_1042 : decode code 1042 = .ok (.iconst 2, 1) := by decide +kernel
theorem d_LW_law_1043 : decode code 1043 = .ok (.iadd, 1) := by decide +kernel
theorem d_LW_law_1044 : decode code 1044 = .ok (.iaload, 1) := by decide +kernel
theorem d_LW_law_1045 : decode code 1045 = .ok (.aload_n 0, 1) := by decide +kernel
theorem d_LW_law_1046 : decode code 1046 = .ok (.iload 4, 2) := by decide +kernel
theorem d_LW_law_1048 : decode code 1048 = .ok (.iconst 3, 1) := by decide +kernel
theorem d_LW_law_1049 : decode code 1049 = .ok (.iadd, 1) := by decide +kernel
theorem d_LW_law_1050 : decode code 1050 = .ok (.iaload, 1) := by decide +kernel
theorem d_LW_law_1051 : decode code 1051 = .ok (.ifCond .eq 7, 3) := by decide +kernel
theorem d_LW_law_1054 : decode code 1054 = .ok (.iconst 1, 1) := by decide +kernel
theorem d_LW_law_1055 : decode code 1055 = .ok (.goto 4, 3) := by decide +kernel
theorem d_LW_law_1058 : decode code 1058 = .ok (.iconst 0, 1) := by decide +kernel
theorem d_LW_law_1059 : decode code 1059 = .ok (.invokevirtual 151, 3) := by decide +kernel
theorem d_LW_law_1062 : decode code 1062 = .ok (.aload_n 2, 1) := by decide +kernel
theorem d_LW_law_1063 : decode code 1063 = .ok (.invokevirtual 106, 3) := by decide +kernel
theorem d_LW_law_1066 : decode code 1066 = .ok (.iload 5, 2) := by decide +kernel
theorem d_LW_law_1068 : decode code 1068 = .ok (.if_icmp .eq 5, 3) := by decide +kernel
theorem d_LW_law_1071 : decode code 1071 = .ok (.iconst 0, 1) := by decide +kernel
theorem d_LW_law_1072 : decode code 1072 = .ok (.ireturn, 1) := by decide +kernel
theorem d_LW_law_1073 : decode code 1073 = .ok (.goto 538, 3) := by decide +kernel
theorem d_LW_law_1076 : decode code 1076 = .ok (.aload_n 1, 1) := by decide +kernel
theorem d_LW_law_1077 : decode code 1077 = .ok (.aload_n 0, 1) := by decide +kernel
theorem d_LW_law_1078 : decode code 1078 = .ok (.iload 4, 2) := by decide +kernel
theorem d_LW_law_1080 : decode code 1080 = .ok (.iconst 1, 1) := by decide +kernel
theorem d_LW_law_1081 : decode code 1081 = .ok (.iadd, 1) := by decide +kernel
theorem d_LW_law_1082 : decode code 1082 = .ok (.iaload, 1) := by decide +kernel
theorem d_LW_law_1083 : decode code 1083 = .ok (.invokestatic 152, 3) := by decide +kernel
theorem d_LW_law_1086 : decode code 1086 = .ok (.istore 5, 2) := by decide +kernel
theorem d_LW_law_1088 : decode code 1088 = .ok (.aload_n 2, 1) := by decide +kernel
theorem d_LW_law_1089 : decode code 1089 = .ok (.aload_n 0, 1) := by decide +kernel
theorem d_LW_law_1090 : decode code 1090 = .ok (.iload 4, 2) := by decide +kernel
theorem d_LW_law_1092 : decode code 1092 = .ok (.iconst 1, 1) := by decide +kernel
theorem d_LW_law_1093 : decode code 1093 = .ok (.iadd, 1) := by decide +kernel
theorem d_LW_law_1094 : decode code 1094 = .ok (.iaload, 1) := by decide +kernel
theorem d_LW_law_1095 : decode code 1095 = .ok (.invokevirtual 155, 3) := by decide +kernel
theorem d_LW_law_1098 : decode code 1098 = .ok (.aload_n 2, 1) := by decide +kernel
theorem d_LW_law_1099 : decode code 1099 = .ok (.invokevirtual 106, 3) := by decide +kernel
theorem d_LW_law_1102 : decode code 1102 = .ok (.iload 5, 2) := by decide +kernel
theorem d_LW_law_1104 : decode code 1104 = .ok (.if_icmp .eq 5, 3) := by decide +kernel
theorem d_LW_law_1107 : decode code 1107 = .ok (.iconst 0, 1) := by decide +kernel
theorem d_LW_law_1108 : decode code 1108 = .ok (.ireturn, 1) := by decide +kernel
theorem d_LW_law_1109 : decode code 1109 = .ok (.goto 502, 3) := by decide +kernel
theorem d_LW_law_1112 : decode code 1112 = .ok (.aload_n 1, 1) := by decide +kernel
theorem d_LW_law_1113 : decode code 1113 = .ok (.aload_n 0, 1) := by decide +kernel
theorem d_LW_law_1114 : decode code 1114 = .ok (.iload 4, 2) := by decide +kernel
theorem d_LW_law_1116 : decode code 1116 = .ok (.iconst 1, 1) := by decide +kernel
theorem d_LW_law_1117 : decode code 1117 = .ok (.iadd, 1) := by decide +kernel
theorem d_LW_law_1118 : decode code 1118 = .ok (.iaload, 1) := by decide +kernel
theorem d_LW_law_1119 : decode code 1119 = .ok (.aload_n 0, 1) := by decide +kernel
theorem d_LW_law_1120 : decode code 1120 = .ok (.iload 4, 2) := by decide +kernel
theorem d_LW_law_1122 : decode code 1122 = .ok (.iconst 2, 1) := by decide +kernel
theorem d_LW_law_1123 : decode code 1123 = .ok (.iadd, 1) := by decide +kernel
theorem d_LW_law_1124 : decode code 1124 = .ok (.iaload, 1) := by decide +kernel
theorem d_LW_law_1125 : decode code 1125 = .ok (.invokestatic 156, 3) := by decide +kernel
theorem d_LW_law_1128 : decode code 1128 = .ok (.istore 5, 2) := by decide +kernel
theorem d_LW_law_1130 : decode code 1130 = .ok (.aload_n 2, 1) := by decide +kernel
theorem d_LW_law_1131 : decode code 1131 = .ok (.aload_n 0, 1) := by decide +kernel
theorem d_LW_law_1132 : decode code 1132 = .ok (.iload 4, 2) := by decide +kernel
theorem d_LW_law_1134 : decode code 1134 = .ok (.iconst 1, 1) := by decide +kernel
theorem d_LW_law_1135 : decode code 1135 = .ok (.iadd, 1) := by decide +kernel
theorem d_LW_law_1136 : decode code 1136 = .ok (.iaload, 1) := by decide +kernel
theorem d_LW_law_1137 : decode code 1137 = .ok (.aload_n 0, 1) := by decide +kernel
theorem d_LW_law_1138 : decode code 1138 = .ok (.iload 4, 2) := by decide +kernel
theorem d_LW_law_1140 : decode code 1140 = .ok (.iconst 2, 1) := by decide +kernel
theorem d_LW_law_1141 : decode code 1141 = .ok (.iadd, 1) := by decide +kernel
theorem d_LW_law_1142 : decode code 1142 = .ok (.iaload, 1) := by decide +kernel
theorem d_LW_law_1143 : decode code 1143 = .ok (.invokevirtual 159, 3) := by decide +kernel
theorem d_LW_law_1146 : decode code 1146 = .ok (.aload_n 2, 1) := by decide +kernel
theorem d_LW_law_1147 : decode code 1147 = .ok (.invokevirtual 106, 3) := by decide +kernel
theorem d_LW_law_1150 : decode code 1150 = .ok (.iload 5, 2) := by decide +kernel
theorem d_LW_law_1152 : decode code 1152 = .ok (.if_icmp .eq 5, 3) := by decide +kernel
theorem d_LW_law_1155 : decode code 1155 = .ok (.iconst 0, 1) := by decide +kernel
theorem d_LW_law_1156 : decode code 1156 = .ok (.ireturn, 1) := by decide +kernel
theorem d_LW_law_1157 : decode code 1157 = .ok (.goto 454, 3) := by decide +kernel
theorem d_LW_law_1160 : decode code 1160 = .ok (.aload_n 1, 1) := by decide +kernel
theorem d_LW_law_1161 : decode code 1161 = .ok (.aload_n 0, 1) := by decide +kernel
theorem d_LW_law_1162 : decode code 1162 = .ok (.iload 4, 2) := by decide +kernel
theorem d_LW_law_1164 : decode code 1164 = .ok (.iconst 1, 1) := by decide +kernel
theorem d_LW_law_1165 : decode code 1165 = .ok (.iadd, 1) := by decide +kernel
theorem d_LW_law_1166 : decode code 1166 = .ok (.iaload, 1) := by decide +kernel
theorem d_LW_law_1167 : decode code 1167 = .ok (.aload_n 3, 1) := by decide +kernel
theorem d_LW_law_1168 : decode code 1168 = .ok (.invokestatic 160, 3) := by decide +kernel
theorem d_LW_law_1171 : decode code 1171 = .ok (.istore 5, 2) := by decide +kernel
theorem d_LW_law_1173 : decode code 1173 = .ok (.aload_n 2, 1) := by decide +kernel
theorem d_LW_law_1174 : decode code 1174 = .ok (.aload_n 0, 1) := by decide +kernel
theorem d_LW_law_1175 : decode code 1175 = .ok (.iload 4, 2) := by decide +kernel
theorem d_LW_law_1177 : decode code 1177 = .ok (.iconst 1, 1) := by decide +kernel
theorem d_LW_law_1178 : decode code 1178 = .ok (.iadd, 1) := by decide +kernel
theorem d_LW_law_1179 : decode code 1179 = .ok (.iaload, 1) := by decide +kernel
theorem d_LW_law_1180 : decode code 1180 = .ok (.invokevirtual 162, 3) := by decide +kernel
theorem d_LW_law_1183 : decode code 1183 = .ok (.istore 6, 2) := by decide +kernel
theorem d_LW_law_1185 : decode code 1185 = .ok (.aload_n 2, 1) := by decide +kernel
theorem d_LW_law_1186 : decode code 1186 = .ok (.invokevirtual 106, 3) := by decide +kernel
theorem d_LW_law_1189 : decode code 1189 = .ok (.iload 5, 2) := by decide +kernel
theorem d_LW_law_1191 : decode code 1191 = .ok (.if_icmp .eq 5, 3) := by decide +kernel
theorem d_LW_law_1194 : decode code 1194 = .ok (.iconst 0, 1) := by decide +kernel
theorem d_LW_law_1195 : decode code 1195 = .ok (.ireturn, 1) := by decide +kernel
theorem d_LW_law_1196 : decode code 1196 = .ok (.iload 5, 2) := by decide +kernel
theorem d_LW_law_1198 : decode code 1198 = .ok (.ifCond .ne 15, 3) := by decide +kernel
theorem d_LW_law_1201 : decode code 1201 = .ok (.aload_n 3, 1) := by decide +kernel
theorem d_LW_law_1202 : decode code 1202 = .ok (.iconst 0, 1) := by decide +kernel
theorem d_LW_law_1203 : decode code 1203 = .ok (.laload, 1) := by decide +kernel
theorem d_LW_law_1204 : decode code 1204 = .ok (.iload 6, 2) := by decide +kernel
theorem d_LW_law_1206 : decode code 1206 = .ok (.i2l, 1) := by decide +kernel
theorem d_LW_law_1207 : decode code 1207 = .ok (.lcmp, 1) := by decide +kernel
theorem d_LW_law_1208 : decode code 1208 = .ok (.ifCond .eq 5, 3) := by decide +kernel
theorem d_LW_law_1211 : decode code 1211 = .ok (.iconst 0, 1) := by decide +kernel
theorem d_LW_law_1212 : decode code 1212 = .ok (.ireturn, 1) := by decide +kernel
theorem d_LW_law_1213 : decode code 1213 = .ok (.goto 398, 3) := by decide +kernel
theorem d_LW_law_1216 : decode code 1216 = .ok (.aload_n 1, 1) := by decide +kernel
theorem d_LW_law_1217 : decode code 1217 = .ok (.aload_n 0, 1) := by decide +kernel
theorem d_LW_law_1218 : decode code 1218 = .ok (.iload 4, 2) := by decide +kernel
theorem d_LW_law_1220 : decode code 1220 = .ok (.iconst 1, 1) := by decide +kernel
theorem d_LW_law_1221 : decode code 1221 = .ok (.iadd, 1) := by decide +kernel
theorem d_LW_law_1222 : decode code 1222 = .ok (.iaload, 1) := by decide +kernel
theorem d_LW_law_1223 : decode code 1223 = .ok (.aload_n 0, 1) := by decide +kernel
theorem d_LW_law_1224 : decode code 1224 = .ok (.iload 4, 2) := by decide +kernel
theorem d_LW_law_1226 : decode code 1226 = .ok (.iconst 2, 1) := by decide +kernel
theorem d_LW_law_1227 : decode code 1227 = .ok (.iadd, 1) := by decide +kernel
theorem d_LW_law_1228 : decode code 1228 = .ok (.iaload, 1) := by decide +kernel
theorem d_LW_law_1229 : decode code 1229 = .ok (.aload_n 3, 1) := by decide +kernel
theorem d_LW_law_1230 : decode code 1230 = .ok (.invokestatic 163, 3) := by decide +kernel
theorem d_LW_law_1233 : decode code 1233 = .ok (.istore 5, 2) := by decide +kernel
theorem d_LW_law_1235 : decode code 1235 = .ok (.aload_n 2, 1) := by decide +kernel
theorem d_LW_law_1236 : decode code 1236 = .ok (.aload_n 0, 1) := by decide +kernel
theorem d_LW_law_1237 : decode code 1237 = .ok (.iload 4, 2) := by decide +kernel
end
section
theorem d_LW_law_1239 : decode code 1239 = .ok (.iconst 1, 1) := by decide +kernel
theorem d_LW_law_1240 : decode code 1240 = .ok (.iadd, 1) := by decide +kernel
theorem d_LW_law_1241 : decode code 1241 = .ok (.iaload, 1) := by decide +kernel
theorem d_LW_law_1242 : decode code 1242 = .ok (.aload_n 0, 1) := by decide +kernel
theorem d_LW_law_1243 : decode code 1243 = .ok (.iload 4, 2) := by decide +kernel
theorem d_LW_law_1245 : decode code 1245 = .ok (.iconst 2, 1) := by decide +kernel
theorem d_LW_law_1246 : decode code 1246 = .ok (.iadd, 1) := by decide +kernel
theorem d_LW_law_1247 : decode code 1247 = .ok (.iaload, 1) := by decide +kernel
theorem d_LW_law_1248 : decode code 1248 = .ok (.invokevirtual 165, 3) := by decide +kernel
theorem d_LW_law_1251 : decode code 1251 = .ok (.istore 6, 2) := by decide +kernel
theorem d_LW_law_1253 : decode code 1253 = .ok (.aload_n 2, 1) := by decide +kernel
theorem d_LW_law_1254 : decode code 1254 = .ok (.invokevirtual 106, 3) := by decide +kernel
theorem d_LW_law_1257 : decode code 1257 = .ok (.iload 5, 2) := by decide +kernel
theorem d_LW_law_1259 : decode code 1259 = .ok (.if_icmp .eq 5, 3) := by decide +kernel
theorem d_LW_law_1262 : decode code 1262 = .ok (.iconst 0, 1) := by decide +kernel
theorem d_LW_law_1263 : decode code 1263 = .ok (.ireturn, 1) := by decide +kernel
theorem d_LW_law_1264 : decode code 1264 = .ok (.iload 5, 2) := by decide +kernel
theorem d_LW_law_1266 : decode code 1266 = .ok (.ifCond .ne 15, 3) := by decide +kernel
theorem d_LW_law_1269 : decode code 1269 = .ok (.aload_n 3, 1) := by decide +kernel
theorem d_LW_law_1270 : decode code 1270 = .ok (.iconst 0, 1) := by decide +kernel
theorem d_LW_law_1271 : decode code 1271 = .ok (.laload, 1) := by decide +kernel
theorem d_LW_law_1272 : decode code 1272 = .ok (.iload 6, 2) := by decide +kernel
theorem d_LW_law_1274 : decode code 1274 = .ok (.i2l, 1) := by decide +kernel
theorem d_LW_law_1275 : decode code 1275 = .ok (.lcmp, 1) := by decide +kernel
theorem d_LW_law_1276 : decode code 1276 = .ok (.ifCond .eq 5, 3) := by decide +kernel
theorem d_LW_law_1279 : decode code 1279 = .ok (.iconst 0, 1) := by decide +kernel
theorem d_LW_law_1280 : decode code 1280 = .ok (.ireturn, 1) := by decide +kernel
theorem d_LW_law_1281 : decode code 1281 = .ok (.goto 330, 3) := by decide +kernel
theorem d_LW_law_1284 : decode code 1284 = .ok (.aload_n 1, 1) := by decide +kernel
theorem d_LW_law_1285 : decode code 1285 = .ok (.aload_n 0, 1) := by decide +kernel
theorem d_LW_law_1286 : decode code 1286 = .ok (.iload 4, 2) := by decide +kernel
theorem d_LW_law_1288 : decode code 1288 = .ok (.iconst 1, 1) := by decide +kernel
theorem d_LW_law_1289 : decode code 1289 = .ok (.iadd, 1) := by decide +kernel
theorem d_LW_law_1290 : decode code 1290 = .ok (.iaload, 1) := by decide +kernel
theorem d_LW_law_1291 : decode code 1291 = .ok (.aload_n 3, 1) := by decide +kernel
theorem d_LW_law_1292 : decode code 1292 = .ok (.invokestatic 166, 3) := by decide +kernel
theorem d_LW_law_1295 : decode code 1295 = .ok (.istore 5, 2) := by decide +kernel
theorem d_LW_law_1297 : decode code 1297 = .ok (.aload_n 2, 1) := by decide +kernel
theorem d_LW_law_1298 : decode code 1298 = .ok (.aload_n 0, 1) := by decide +kernel
theorem d_LW_law_1299 : decode code 1299 = .ok (.iload 4, 2) := by decide +kernel
theorem d_LW_law_1301 : decode code 1301 = .ok (.iconst 1, 1) := by decide +kernel
theorem d_LW_law_1302 : decode code 1302 = .ok (.iadd, 1) := by decide +kernel
theorem d_LW_law_1303 : decode code 1303 = .ok (.iaload, 1) := by decide +kernel
theorem d_LW_law_1304 : decode code 1304 = .ok (.invokevirtual 168, 3) := by decide +kernel
theorem d_LW_law_1307 : decode code 1307 = .ok (.istore 6, 2) := by decide +kernel
theorem d_LW_law_1309 : decode code 1309 = .ok (.aload_n 2, 1) := by decide +kernel
theorem d_LW_law_1310 : decode code 1310 = .ok (.invokevirtual 106, 3) := by decide +kernel
theorem d_LW_law_1313 : decode code 1313 = .ok (.iload 5, 2) := by decide +kernel
theorem d_LW_law_1315 : decode code 1315 = .ok (.if_icmp .eq 5, 3) := by decide +kernel
theorem d_LW_law_1318 : decode code 1318 = .ok (.iconst 0, 1) := by decide +kernel
theorem d_LW_law_1319 : decode code 1319 = .ok (.ireturn, 1) := by decide +kernel
theorem d_LW_law_1320 : decode code 1320 = .ok (.iload 5, 2) := by decide +kernel
theorem d_LW_law_1322 : decode code 1322 = .ok (.ifCond .ne 15, 3) := by decide +kernel
theorem d_LW_law_1325 : decode code 1325 = .ok (.aload_n 3, 1) := by decide +kernel
theorem d_LW_law_1326 : decode code 1326 = .ok (.iconst 0, 1) := by decide +kernel
theorem d_LW_law_1327 : decode code 1327 = .ok (.laload, 1) := by decide +kernel
theorem d_LW_law_1328 : decode code 1328 = .ok (.iload 6, 2) := by decide +kernel
theorem d_LW_law_1330 : decode code 1330 = .ok (.i2l, 1) := by decide +kernel
theorem d_LW_law_1331 : decode code 1331 = .ok (.lcmp, 1) := by decide +kernel
theorem d_LW_law_1332 : decode code 1332 = .ok (.ifCond .eq 5, 3) := by decide +kernel
theorem d_LW_law_1335 : decode code 1335 = .ok (.iconst 0, 1) := by decide +kernel
theorem d_LW_law_1336 : decode code 1336 = .ok (.ireturn, 1) := by decide +kernel
theorem d_LW_law_1337 : decode code 1337 = .ok (.goto 274, 3) := by decide +kernel
theorem d_LW_law_1340 : decode code 1340 = .ok (.aload_n 1, 1) := by decide +kernel
theorem d_LW_law_1341 : decode code 1341 = .ok (.aload_n 0, 1) := by decide +kernel
theorem d_LW_law_1342 : decode code 1342 = .ok (.iload 4, 2) := by decide +kernel
theorem d_LW_law_1344 : decode code 1344 = .ok (.iconst 1, 1) := by decide +kernel
theorem d_LW_law_1345 : decode code 1345 = .ok (.iadd, 1) := by decide +kernel
theorem d_LW_law_1346 : decode code 1346 = .ok (.iaload, 1) := by decide +kernel
theorem d_LW_law_1347 : decode code 1347 = .ok (.aload_n 0, 1) := by decide +kernel
theorem d_LW_law_1348 : decode code 1348 = .ok (.iload 4, 2) := by decide +kernel
theorem d_LW_law_1350 : decode code 1350 = .ok (.iconst 2, 1) := by decide +kernel
theorem d_LW_law_1351 : decode code 1351 = .ok (.iadd, 1) := by decide +kernel
theorem d_LW_law_1352 : decode code 1352 = .ok (.iaload, 1) := by decide +kernel
theorem d_LW_law_1353 : decode code 1353 = .ok (.aload_n 3, 1) := by decide +kernel
theorem d_LW_law_1354 : decode code 1354 = .ok (.invokestatic 169, 3) := by decide +kernel
theorem d_LW_law_1357 : decode code 1357 = .ok (.istore 5, 2) := by decide +kernel
theorem d_LW_law_1359 : decode code 1359 = .ok (.aload_n 2, 1) := by decide +kernel
theorem d_LW_law_1360 : decode code 1360 = .ok (.aload_n 0, 1) := by decide +kernel
theorem d_LW_law_1361 : decode code 1361 = .ok (.iload 4, 2) := by decide +kernel
theorem d_LW_law_1363 : decode code 1363 = .ok (.iconst 1, 1) := by decide +kernel
theorem d_LW_law_1364 : decode code 1364 = .ok (.iadd, 1) := by decide +kernel
theorem d_LW_law_1365 : decode code 1365 = .ok (.iaload, 1) := by decide +kernel
theorem d_LW_law_1366 : decode code 1366 = .ok (.aload_n 0, 1) := by decide +kernel
theorem d_LW_law_1367 : decode code 1367 = .ok (.iload 4, 2) := by decide +kernel
theorem d_LW_law_1369 : decode code 1369 = .ok (.iconst 2, 1) := by decide +kernel
theorem d_LW_law_1370 : decode code 1370 = .ok (.iadd, 1) := by decide +kernel
theorem d_LW_law_1371 : decode code 1371 = .ok (.iaload, 1) := by decide +kernel
theorem d_LW_law_1372 : decode code 1372 = .ok (.invokevirtual 171, 3) := by decide +kernel
theorem d_LW_law_1375 : decode code 1375 = .ok (.lstore 6, 2) := by decide +kernel
theorem d_LW_law_1377 : decode code 1377 = .ok (.aload_n 2, 1) := by decide +kernel
theorem d_LW_law_1378 : decode code 1378 = .ok (.invokevirtual 106, 3) := by decide +kernel
theorem d_LW_law_1381 : decode code 1381 = .ok (.iload 5, 2) := by decide +kernel
theorem d_LW_law_1383 : decode code 1383 = .ok (.if_icmp .eq 5, 3) := by decide +kernel
theorem d_LW_law_1386 : decode code 1386 = .ok (.iconst 0, 1) := by decide +kernel
theorem d_LW_law_1387 : decode code 1387 = .ok (.ireturn, 1) := by decide +kernel
theorem d_LW_law_1388 : decode code 1388 = .ok (.iload 5, 2) := by decide +kernel
theorem d_LW_law_1390 : decode code 1390 = .ok (.ifCond .ne 14, 3) := by decide +kernel
theorem d_LW_law_1393 : decode code 1393 = .ok (.aload_n 3, 1) := by decide +kernel
theorem d_LW_law_1394 : decode code 1394 = .ok (.iconst 0, 1) := by decide +kernel
theorem d_LW_law_1395 : decode code 1395 = .ok (.laload, 1) := by decide +kernel
theorem d_LW_law_1396 : decode code 1396 = .ok (.lload 6, 2) := by decide +kernel
theorem d_LW_law_1398 : decode code 1398 = .ok (.lcmp, 1) := by decide +kernel
theorem d_LW_law_1399 : decode code 1399 = .ok (.ifCond .eq 5, 3) := by decide +kernel
theorem d_LW_law_1402 : decode code 1402 = .ok (.iconst 0, 1) := by decide +kernel
theorem d_LW_law_1403 : decode code 1403 = .ok (.ireturn, 1) := by decide +kernel
theorem d_LW_law_1404 : decode code 1404 = .ok (.goto 207, 3) := by decide +kernel
theorem d_LW_law_1407 : decode code 1407 = .ok (.aload_n 1, 1) := by decide +kernel
theorem d_LW_law_1408 : decode code 1408 = .ok (.aload_n 0, 1) := by decide +kernel
theorem d_LW_law_1409 : decode code 1409 = .ok (.iload 4, 2) := by decide +kernel
theorem d_LW_law_1411 : decode code 1411 = .ok (.iconst 1, 1) := by decide +kernel
theorem d_LW_law_1412 : decode code 1412 = .ok (.iadd, 1) := by decide +kernel
theorem d_LW_law_1413 : decode code 1413 = .ok (.iaload, 1) := by decide +kernel
theorem d_LW_law_1414 : decode code 1414 = .ok (.aload_n 0, 1) := by decide +kernel
theorem d_LW_law_1415 : decode code 1415 = .ok (.iload 4, 2) := by decide +kernel
theorem d_LW_law_1417 : decode code 1417 = .ok (.iconst 2, 1) := by decide +kernel
theorem d_LW_law_1418 : decode code 1418 = .ok (.iadd, 1) := by decide +kernel
theorem d_LW_law_1419 : decode code 1419 = .ok (.iaload, 1) := by decide +kernel
theorem d_LW_law_1420 : decode code 1420 = .ok (.aload_n 3, 1) := by decide +kernel
theorem d_LW_law_1421 : decode code 1421 = .ok (.invokestatic 172, 3) := by decide +kernel
theorem d_LW_law_1424 : decode code 1424 = .ok (.istore 5, 2) := by decide +kernel
theorem d_LW_law_1426 : decode code 1426 = .ok (.aload_n 2, 1) := by decide +kernel
theorem d_LW_law_1427 : decode code 1427 = .ok (.aload_n 0, 1) := by decide +kernel
theorem d_LW_law_1428 : decode code 1428 = .ok (.iload 4, 2) := by decide +kernel
theorem d_LW_law_1430 : decode code 1430 = .ok (.iconst 1, 1) := by decide +kernel
theorem d_LW_law_1431 : decode code 1431 = .ok (.iadd, 1) := by decide +kernel
theorem d_LW_law_1432 : decode code 1432 = .ok (.iaload, 1) := by decide +kernel
theorem d_LW_law_1433 : decode code 1433 = .ok (.aload_n 0, 1) := by decide +kernel
theorem d_LW_law_1434 : decode code 1434 = .ok (.iload 4, 2) := by decide +kernel
theorem d_LW_law_1436 : decode code 1436 = .ok (.iconst 2, 1) := by decide +kernel
theorem d_LW_law_1437 : decode code 1437 = .ok (.iadd, 1) := by decide +kernel
theorem d_LW_law_1438 : decode code 1438 = .ok (.iaload, 1) := by decide +kernel
theorem d_LW_law_1439 : decode code 1439 = .ok (.invokevirtual 174, 3) := by decide +kernel
theorem d_LW_law_1442 : decode code 1442 = .ok (.istore 6, 2) := by decide +kernel
theorem d_LW_law_1444 : decode code 1444 = .ok (.aload_n 2, 1) := by decide +kernel
theorem d_LW_law_1445 : decode code 1445 = .ok (.invokevirtual 106, 3) := by decide +kernel
theorem d_LW_law_1448 : decode code 1448 = .ok (.iload 5, 2) := by decide +kernel
theorem d_LW_law_1450 : decode code 1450 = .ok (.if_icmp .eq 5, 3) := by decide +kernel
theorem d_LW_law_1453 : decode code 1453 = .ok (.iconst 0, 1) := by decide +kernel
theorem d_LW_law_1454 : decode code 1454 = .ok (.ireturn, 1) := by decide +kernel
theorem d_LW_law_1455 : decode code 1455 = .ok (.iload 5, 2) := by decide +kernel
theorem d_LW_law_1457 : decode code 1457 = .ok (.ifCond .ne 15, 3) := by decide +kernel
theorem d_LW_law_1460 : decode code 1460 = .ok (.aload_n 3, 1) := by decide +kernel
theorem d_LW_law_1461 : decode code 1461 = .ok (.iconst 0, 1) := by decide +kernel
theorem d_LW_law_1462 : decode code 1462 = .ok (.laload, 1) := by decide +kernel
theorem d_LW_law_1463 : decode code 1463 = .ok (.iload 6, 2) := by decide +kernel
theorem d_LW_law_1465 : decode code 1465 = .ok (.i2l, 1) := by decide +kernel
theorem d_LW_law_1466 : decode code 1466 = .ok (.lcmp, 1) := by decide +kernel
theorem d_LW_law_1467 : decode code 1467 = .ok (.ifCond .eq 5, 3) := by decide +kernel
theorem d_LW_law_1470 : decode code 1470 = .ok (.iconst 0, 1) := by decide +kernel
theorem d_LW_law_1471 : decode code 1471 = .ok (.ireturn, 1) := by decide +kernel
theorem d_LW_law_1472 : decode code 1472 = .ok (.goto 139, 3) := by decide +kernel
theorem d_LW_law_1475 : decode code 1475 = .ok (.aload_n 1, 1) := by decide +kernel
theorem d_LW_law_1476 : decode code 1476 = .ok (.aload_n 0, 1) := by decide +kernel
theorem d_LW_law_1477 : decode code 1477 = .ok (.iload 4, 2) := by decide +kernel
theorem d_LW_law_1479 : decode code 1479 = .ok (.iconst 1, 1) := by decide +kernel
theorem d_LW_law_1480 : decode code 1480 = .ok (.iadd, 1) := by decide +kernel
theorem d_LW_law_1481 : decode code 1481 = .ok (.iaload, 1) := by decide +kernel
theorem d_LW_law_1482 : decode code 1482 = .ok (.aload_n 0, 1) := by decide +kernel
theorem d_LW_law_1483 : decode code 1483 = .ok (.iload 4, 2) := by decide +kernel
theorem d_LW_law_1485 : decode code 1485 = .ok (.iconst 2, 1) := by decide +kernel
theorem d_LW_law_1486 : decode code 1486 = .ok (.iadd, 1) := by decide +kernel
theorem d_LW_law_1487 : decode code 1487 = .ok (.iaload, 1) := by decide +kernel
theorem d_LW_law_1488 : decode code 1488 = .ok (.aload_n 0, 1) := by decide +kernel
theorem d_LW_law_1489 : decode code 1489 = .ok (.iload 4, 2) := by decide +kernel
theorem d_LW_law_1491 : decode code 1491 = .ok (.iconst 3, 1) := by decide +kernel
theorem d_LW_law_1492 : decode code 1492 = .ok (.iadd, 1) := by decide +kernel
theorem d_LW_law_1493 : decode code 1493 = .ok (.iaload, 1) := by decide +kernel
theorem d_LW_law_1494 : decode code 1494 = .ok (.aload_n 3, 1) := by decide +kernel
theorem d_LW_law_1495 : decode code 1495 = .ok (.invokestatic 175, 3) := by decide +kernel
theorem d_LW_law_1498 : decode code 1498 = .ok (.istore 5, 2) := by decide +kernel
theorem d_LW_law_1500 : decode code 1500 = .ok (.aload_n 2, 1) := by decide +kernel
theorem d_LW_law_1501 : decode code 1501 = .ok (.aload_n 0, 1) := by decide +kernel
theorem d_LW_law_1502 : decode code 1502 = .ok (.iload 4, 2) := by decide +kernel
theorem d_LW_law_1504 : decode code 1504 = .ok (.iconst 1, 1) := by decide +kernel
theorem d_LW_law_1505 : decode code 1505 = .ok (.iadd, 1) := by decide +kernel
theorem d_LW_law_1506 : decode code 1506 = .ok (.iaload, 1) := by decide +kernel
theorem d_LW_law_1507 : decode code 1507 = .ok (.aload_n 0, 1) := by decide +kernel
theorem d_LW_law_1508 : decode code 1508 = .ok (.iload 4, 2) := by decide +kernel
theorem d_LW_law_1510 : decode code 1510 = .ok (.iconst 2, 1) := by decide +kernel
theorem d_LW_law_1511 : decode code 1511 = .ok (.iadd, 1) := by decide +kernel
theorem d_LW_law_1512 : decode code 1512 = .ok (.iaload, 1) := by decide +kernel
theorem d_LW_law_1513 : decode code 1513 = .ok (.aload_n 0, 1) := by decide +kernel
theorem d_LW_law_1514 : decode code 1514 = .ok (.iload 4, 2) := by decide +kernel
theorem d_LW_law_1516 : decode code 1516 = .ok (.iconst 3, 1) := by decide +kernel
theorem d_LW_law_1517 : decode code 1517 = .ok (.iadd, 1) := by decide +kernel
theorem d_LW_law_1518 : decode code 1518 = .ok (.iaload, 1) := by decide +kernel
theorem d_LW_law_1519 : decode code 1519 = .ok (.invokevirtual 178, 3) := by decide +kernel
theorem d_LW_law_1522 : decode code 1522 = .ok (.istore 6, 2) := by decide +kernel
theorem d_LW_law_1524 : decode code 1524 = .ok (.aload_n 2, 1) := by decide +kernel
theorem d_LW_law_1525 : decode code 1525 = .ok (.invokevirtual 106, 3) := by decide +kernel
theorem d_LW_law_1528 : decode code 1528 = .ok (.iload 5, 2) := by decide +kernel
theorem d_LW_law_1530 : decode code 1530 = .ok (.if_icmp .eq 5, 3) := by decide +kernel
theorem d_LW_law_1533 : decode code 1533 = .ok (.iconst 0, 1) := by decide +kernel
theorem d_LW_law_1534 : decode code 1534 = .ok (.ireturn, 1) := by decide +kernel
theorem d_LW_law_1535 : decode code 1535 = .ok (.iload 5, 2) := by decide +kernel
theorem d_LW_law_1537 : decode code 1537 = .ok (.ifCond .ne 15, 3) := by decide +kernel
theorem d_LW_law_1540 : decode code 1540 = .ok (.aload_n 3, 1) := by decide +kernel
theorem d_LW_law_1541 : decode code 1541 = .ok (.iconst 0, 1) := by decide +kernel
theorem d_LW_law_1542 : decode code 1542 = .ok (.laload, 1) := by decide +kernel
theorem d_LW_law_1543 : decode code 1543 = .ok (.iload 6, 2) := by decide +kernel
theorem d_LW_law_1545 : decode code 1545 = .ok (.i2l, 1) := by decide +kernel
theorem d_LW_law_1546 : decode code 1546 = .ok (.lcmp, 1) := by decide +kernel
theorem d_LW_law_1547 : decode code 1547 = .ok (.ifCond .eq 5, 3) := by decide +kernel
theorem d_LW_law_1550 : decode code 1550 = .ok (.iconst 0, 1) := by decide +kernel
theorem d_LW_law_1551 : decode code 1551 = .ok (.ireturn, 1) := by decide +kernel
theorem d_LW_law_1552 : decode code 1552 = .ok (.goto 59, 3) := by decide +kernel
theorem d_LW_law_1555 : decode code 1555 = .ok (.aload_n 1, 1) := by decide +kernel
theorem d_LW_law_1556 : decode code 1556 = .ok (.aload_n 0, 1) := by decide +kernel
theorem d_LW_law_1557 : decode code 1557 = .ok (.iload 4, 2) := by decide +kernel
theorem d_LW_law_1559 : decode code 1559 = .ok (.iconst 1, 1) := by decide +kernel
theorem d_LW_law_1560 : decode code 1560 = .ok (.iadd, 1) := by decide +kernel
theorem d_LW_law_1561 : decode code 1561 = .ok (.iaload, 1) := by decide +kernel
theorem d_LW_law_1562 : decode code 1562 = .ok (.aload_n 3, 1) := by decide +kernel
theorem d_LW_law_1563 : decode code 1563 = .ok (.invokestatic 179, 3) := by decide +kernel
theorem d_LW_law_1566 : decode code 1566 = .ok (.istore 5, 2) := by decide +kernel
theorem d_LW_law_1568 : decode code 1568 = .ok (.aload_n 2, 1) := by decide +kernel
theorem d_LW_law_1569 : decode code 1569 = .ok (.aload_n 0, 1) := by decide +kernel
theorem d_LW_law_1570 : decode code 1570 = .ok (.iload 4, 2) := by decide +kernel
theorem d_LW_law_1572 : decode code 1572 = .ok (.iconst 1, 1) := by decide +kernel
theorem d_LW_law_1573 : decode code 1573 = .ok (.iadd, 1) := by decide +kernel
theorem d_LW_law_1574 : decode code 1574 = .ok (.iaload, 1) := by decide +kernel
theorem d_LW_law_1575 : decode code 1575 = .ok (.invokevirtual 181, 3) := by decide +kernel
theorem d_LW_law_1578 : decode code 1578 = .ok (.istore 6, 2) := by decide +kernel
theorem d_LW_law_1580 : decode code 1580 = .ok (.aload_n 2, 1) := by decide +kernel
theorem d_LW_law_1581 : decode code 1581 = .ok (.invokevirtual 106, 3) := by decide +kernel
theorem d_LW_law_1584 : decode code 1584 = .ok (.iload 5, 2) := by decide +kernel
theorem d_LW_law_1586 : decode code 1586 = .ok (.if_icmp .eq 5, 3) := by decide +kernel
theorem d_LW_law_1589 : decode code 1589 = .ok (.iconst 0, 1) := by decide +kernel
theorem d_LW_law_1590 : decode code 1590 = .ok (.ireturn, 1) := by decide +kernel
theorem d_LW_law_1591 : decode code 1591 = .ok (.iload 5, 2) := by decide +kernel
theorem d_LW_law_1593 : decode code 1593 = .ok (.ifCond .ne 15, 3) := by decide +kernel
theorem d_LW_law_1596 : decode code 1596 = .ok (.aload_n 3, 1) := by decide +kernel
theorem d_LW_law_1597 : decode code 1597 = .ok (.iconst 0, 1) := by decide +kernel
theorem d_LW_law_1598 : decode code 1598 = .ok (.laload, 1) := by decide +kernel
theorem d_LW_law_1599 : decode code 1599 = .ok (.iload 6, 2) := by decide +kernel
theorem d_LW_law_1601 : decode code 1601 = .ok (.i2l, 1) := by decide +kernel
theorem d_LW_law_1602 : decode code 1602 = .ok (.lcmp, 1) := by decide +kernel
theorem d_LW_law_1603 : decode code 1603 = .ok (.ifCond .eq 5, 3) := by decide +kernel
theorem d_LW_law_1606 : decode code 1606 = .ok (.iconst 0, 1) := by decide +kernel
theorem d_LW_law_1607 : decode code 1607 = .ok (.ireturn, 1) := by decide +kernel
theorem d_LW_law_1608 : decode code 1608 = .ok (.goto 3, 3) := by decide +kernel
theorem d_LW_law_1611 : decode code 1611 = .ok (.iinc 4 6, 3) := by decide +kernel
theorem d_LW_law_1614 : decode code 1614 = .ok (.goto (-1591), 3) := by decide +kernel
theorem d_LW_law_1617 : decode code 1617 = .ok (.iconst 1, 1) := by decide +kernel
theorem d_LW_law_1618 : decode code 1618 = .ok (.ireturn, 1) := by decide +kernel
end
section
/-! contracts of methods that may throw -/
def XMet (l : Launch) (y : MethodName) (ws : List Cond) (rm : Room) (Pc : Array Value → State → Prop) (Qc : Array Value → State → Outcome → State → Prop) (mc ms : Nat) (free : Addr → Prop) : Prop :=
  MetFree l y (headSpec ws rm) Pc (fun _ _ _ _ _ => True) (fun a st o t => Qc a st o t ∧ ∃ L, (st.WarmedH t.vm ∧ st.sameButNew ({ t with vm := st.vm } : State) L mc ms) ∧ ∀ q ∈ L, free q.base)
def XMQ (below : List Frame) (Qc : Array Value → State → Outcome → State → Prop) (a : Array Value) (s : State) (mc ms : Nat) (free : Addr → Prop) : State → Prop := fun t =>
  ∃ o, t.status = .running ∧ Ended t below o ∧ Qc a s o t ∧ ∃ L, (s.WarmedH t.vm ∧ s.sameButNew ({ t with vm := s.vm } : State) L mc ms) ∧ ∀ q ∈ L, free q.base
def XPost (Qc : Array Value → State → Outcome → State → Prop) (mc ms : Nat) (free : Addr → Prop) : Pt → Array Value → Outcome → Pt → Prop := fun A a o B =>
  ∃ (g : JFrame) (mk : MethodId) (t : State) (L : List Loc), B.U.heap = t.heap ∧ B.U.vm = t.vm ∧ Qc a (A.U.calling g mk a) o t ∧ B.locs = A.locs ++ L ∧ (∀ q ∈ L, free q.base) ∧ B.cells = A.cells + mc ∧ B.slots = A.slots + ms
def XBack (l : Launch) (R : Room) (p : Program) (e : Env) (below : List Frame) (s : State) (sargs : Array Value) (y : MethodName) (len W : Nat)
    (Pre : Pt → Array Value → Prop) (Post : Pt → Array Value → Outcome → Pt → Prop) : Prop :=
  ∀ (m : MethodId) (meth : Method) (c : Code) (A : Pt) (g : JFrame) (ig : Instr) (mk : MethodId) (a : Array Value),
    Stand p l e R s m sargs below meth c A.U A.locs A.cells A.slots → g.method = m → g.locals.size = c.maxLocals → decode c.code g.pc = .ok (ig, len) →
    2 * g.monitorRoom + (g.stack.map fun v => v.category).sum ≤ W → A.U.methodNamed? y = some mk → Pre A a →
    ∃ (o : Outcome) (B : Pt), Stand p l e R s m sargs below meth c B.U B.locs B.cells B.slots ∧ Post A a o B ∧
      (∀ v, o = .returned v → Steps p.tables e below (doInvoke e (A.U.setTop g) [] mk a).1 (B.U.setTop { g with pc := g.pc + len, stack := v.toList ++ g.stack })) ∧
      (∀ x, o = .threw x → Steps p.tables e below (doInvoke e (A.U.setTop g) [] mk a).1 ((B.U.setTop g).pushFrame (.throwing x)))
section XK1
variable {l : Launch} {R : Room} {p : Program} {e : Env} {below : List Frame} {s : State} {sargs : Array Value} {y : MethodName} {len W : Nat}
theorem x_back {ws : List Cond} {rm : Room} {Pc : Array Value → State → Prop} {Qc : Array Value → State → Outcome → State → Prop} {mc ms : Nat} {free : Addr → Prop} {maxL : Nat}
    (hM : XMet l y ws rm Pc Qc mc ms free) (hblind : FrameBlind Pc) (hrc : rm.cells = mc) (hrs : rm.slots = ms)
    (hframes : rm.frames + 1 ≤ R.frames) (hlocals : W + (maxL + 11) + rm.locals ≤ R.locals)
    (hws : ∀ w ∈ ws, ∀ (a' : Array Value) (U : State), s.WarmedH U.vm → w.before a' U = true)
    (hcd : ∀ (U : State) (mk : MethodId), s.WarmedH U.vm → U.methodNamed? y = some mk → ∃ methY cY, U.vm.method? mk = some methY ∧ methY.code = some cY ∧ cY.maxLocals = maxL)
    (hinit : ∀ (a' : Array Value) (U : State), s.WarmedH U.vm → (Cond.initialized y.cls).before a' U = true) :
    XBack l R p e below s sargs y len W (PreOf R mc ms Pc) (XPost Qc mc ms free) := by
  intro m meth c A g ig mk a X hg hsize hdg hW hn hp
  obtain ⟨U, Ls, c0, s0⟩ := A
  dsimp only [Pt.U, Pt.locs, Pt.cells, Pt.slots] at X hn hp ⊢
  obtain ⟨hp1, hp2, hp3⟩ := hp
  dsimp only [Pt.U, Pt.locs, Pt.cells, Pt.slots] at hp1 hp2 hp3
  obtain ⟨methY, cY, hmY, hcY, hlY⟩ := hcd U mk X.warmed hn
  obtain ⟨kY, hkY, -⟩ := className_of_methodNamed hn
  have hinitY : kY.init = .initialized := Cond.initialized_spec (findClass_of_methodNamed hn) hkY (hinit a U X.warmed)
  have h : At U g.method c below := by rw [hg]; exact X.here
  have happ : (headSpec ws rm).appliesLoose y e.platform (U.calling g mk a) = true :=
    Spec.appliesLoose_calling (g := g) h hdg hn hkY hinitY
      (X.room_calling (g := g) (R' := rm) hsize hmY hcY hframes (by rw [hlY]; omega) (by rw [hrc]; exact hp1) (by rw [hrs]; exact hp2)) (atoms_intro fun w hw => hws w hw _ _ X.warmed)
  obtain ⟨mid, hmid⟩ := h.above
  have hfr : (U.setTop g).frames = (.java g :: mid) ++ below := by rw [State.frames_setTop' g h.top, hmid]; rfl
  obtain ⟨o, s₂, hsteps, -, hend, hq⟩ := Steps.callFree hM p X.admits X.cas X.clock (acts := []) hfr happ (hblind _ _ _ _ hp3) trivial
  have hq' : Qc a (U.calling g mk a) o s₂ ∧ ∃ L, ((U.calling g mk a).WarmedH s₂.vm ∧ (U.calling g mk a).sameButNew ({ s₂ with vm := (U.calling g mk a).vm } : State) L mc ms) ∧ ∀ q ∈ L, free q.base := hq
  rw [State.frames_setTop' g h.top] at hend
  obtain ⟨hQ, L, ⟨hW₂, hsm⟩, hL⟩ := hq'
  cases o with
  | threw x =>
    rw [X.tail] at hend
    obtain ⟨T', X', -, -, ht⟩ := X.outOfThrown hg hend hW₂ hsm
    refine ⟨.threw x, ⟨T', Ls ++ L, c0 + mc, s0 + ms⟩, X', ⟨g, mk, s₂, L, ?_, ?_, hQ, rfl, hL, rfl, rfl⟩, (fun v hv => by cases hv), fun x' hx' => ?_⟩
    · show T'.heap = s₂.heap
      rw [ht, Stand.throwing_heap]
    · show T'.vm = s₂.vm
      rw [ht, Stand.throwing_vm]
    · cases hx'
      show Steps p.tables e below _ ((T'.setTop g).pushFrame (.throwing x))
      rw [← ht]
      exact hsteps
  | returned v =>
    obtain ⟨e2, q2, q3, q4, q5, q6⟩ := id hsm
    have e3 : s₂ = ({ (U.calling g mk a).setFrames s₂.frames with heap := s₂.heap, slotsUsed := s₂.slotsUsed } : State).setVm s₂.vm := by
      have : s₂ = ({ s₂ with vm := (U.calling g mk a).vm } : State).setVm s₂.vm := rfl
      rw [e2] at this
      exact this
    obtain ⟨c₂, i₂, len₂, hc₂, hd₂, hf₂⟩ := hend
    have hW' : U.WarmedH s₂.vm := hW₂
    have hcc : c₂ = c := by
      have h1 : s₂.code? g.method = U.code? g.method := by
        rw [State.code?_eq, State.code?_eq, hW'.alike.method?]
      exact Option.some.inj (hc₂.symm.trans (h1.trans h.code))
    subst hcc
    have hlen : len₂ = len := by rw [hdg] at hd₂; cases hd₂; rfl
    subst hlen
    obtain ⟨g₀, hg0⟩ := Option.isSome_iff_exists.mp h.top
    obtain ⟨r, hr⟩ := State.topJava?_eq_some.mp hg0
    have hs₂ : s₂ = (({ U with heap := s₂.heap, slotsUsed := s₂.slotsUsed } : State).setVm s₂.vm).setTop { g with pc := g.pc + len₂, stack := v.toList ++ g.stack } := by
      have hr' : (({ U with heap := s₂.heap, slotsUsed := s₂.slotsUsed } : State).setVm s₂.vm).frames = .java g₀ :: r := hr
      refine e3.trans ?_
      rw [hf₂, State.calling_eq h.top, State.setFrames_setFrames, State.setTop_of_frames _ hr', hr]
      rfl
    have hsame : U.sameButNew ({ U with heap := s₂.heap, slotsUsed := s₂.slotsUsed } : State) L mc ms := by
      refine ⟨?_, q2, q3, q4, q5, q6⟩
      obtain ⟨t, ht, -⟩ := State.frames_cons hr
      show ({ U with heap := s₂.heap, slotsUsed := s₂.slotsUsed } : State) = { U.setFrames U.frames with heap := s₂.heap, slotsUsed := s₂.slotsUsed }
      rw [State.setFrames_self ht]
    subst hg
    refine ⟨.returned v, ⟨(({ U with heap := s₂.heap, slotsUsed := s₂.slotsUsed } : State).setVm s₂.vm), Ls ++ L, c0 + mc, s0 + ms⟩,
      ⟨X.admits, X.cas, X.clock, X.frames, X.room, X.hears, X.method, X.code, (X.here.setHeapUsed s₂.heap s₂.slotsUsed).setVm hW'.alike, X.tail, State.WarmedH.trans X.warmed hW', X.limits, X.bytes, X.same.trans (hsame.setVm s.vm)⟩,
      ⟨g, mk, s₂, L, rfl, rfl, hQ, rfl, hL, rfl, rfl⟩, fun v' hv' => ?_, (fun x hx => by cases hx)⟩
    cases hv'
    show Steps p.tables e below _ ((({ U with heap := s₂.heap, slotsUsed := s₂.slotsUsed } : State).setVm s₂.vm).setTop { g with pc := g.pc + len₂, stack := v.toList ++ g.stack })
    rw [← hs₂]
    exact hsteps
end XK1
/-- what a call's instruction does ahead of the callee: the entry is linked, the operands are taken off -/
def XInv (p : Program) (l : Launch) (e : Env) (R : Room) (s : State) (m : MethodId) (args : Array Value) (below : List Frame) (meth : Method) (c : Code) (H : Heap) (locs : List Loc) (cells slots : Nat) (g : JFrame) (rest : List Value) (y : MethodName) (av : List Value) : Prop :=
  ∀ T : State, T.heap = H → Stand p l e R s m args below meth c T locs cells slots → ∃ (mk : MethodId) (vm₁ : Vm), s.WarmedH vm₁ ∧ Stand p l e R s m args below meth c (T.setVm vm₁) locs cells slots ∧ s.methodNamed? y = some mk ∧
    ∀ target, (∀ acts, Steps p.tables e below (doInvoke e ((T.setVm vm₁).setTop { g with stack := rest }) acts mk av.toArray).1 target) → Steps p.tables e below (T.setTop g) target
def XCode (y : MethodName) (maxL : Nat) (U : State) : Prop := ∃ mk methY cY, U.methodNamed? y = some mk ∧ U.vm.method? mk = some methY ∧ methY.code = some cY ∧ cY.maxLocals = maxL ∧ parseMethodDescriptor y.desc = some methY.sig
theorem x_code {y : MethodName} {bytes : ByteArray} {maxL : Nat} {ret : Option FieldType} {a : Array Value} {U : State} (h : (Cond.code y bytes maxL ret).before a U = true) : XCode y maxL U := by
  obtain ⟨mk, hn⟩ := Cond.code_named h
  obtain ⟨meth, c, h1, h2, -, h4, -, -, -, h8⟩ := Cond.code_spec hn h
  exact ⟨mk, meth, c, hn, h1, h2, h4, h8⟩
theorem x_codeW {y : MethodName} {bytes : ByteArray} {maxL : Nat} {ret : Option FieldType} {hh : List (Nat × Nat × Nat × Nat)} {a : Array Value} {U : State} (h : (Cond.codeWith y bytes maxL ret hh).before a U = true) : XCode y maxL U := by
  obtain ⟨mk, meth, c, hn, h1, h2, -, h4, -, -, -, h8⟩ := Cond.codeWith_spec h
  exact ⟨mk, meth, c, hn, h1, h2, h4, h8⟩
section XK2
variable {p : Program} {l : Launch} {e : Env} {R : Room} {s : State} {m : MethodId} {args : Array Value} {below : List Frame} {meth : Method} {c : Code} {H : Heap} {locs : List Loc} {cells slots : Nat} {Q : State → Prop}
variable {cc : ByteArray} {own C host : String} {index maxL : Nat} {y : MethodName} {b : Addr} {argsL rest : List Value} {g : JFrame}
theorem x_invV (hexec : p.tables.exec = Jvm.exec) (hb : c.code = cc) (hown : s.vm.findClass own = some m.cls) (hlink : (Cond.methodLink own index y).before args s = true) (hinst : (Cond.instanceMethod y).before args s = true) (hsel : (Cond.selects C y y).before args s = true)
    (hcode : XCode y maxL s) (hy : y.cls ≠ "java/lang/invoke/MethodHandle" ∧ y.cls ≠ "java/lang/invoke/VarHandle")
    {cellB : Cell} (hcell : H[b]? = some cellB) (hobj : cellB.vm.isStatics = false) (hcls : s.vm.findClass C = some cellB.cls)
    (hg : g.method = m) (hlen : (parseMethodDescriptor y.desc).map (fun d => d.parameters.length) = some argsL.length)
    (hstack : g.stack = argsL.reverse ++ .ref b :: rest) (hdg : decode cc g.pc = .ok (.invokevirtual index, 3)) :
    XInv p l e R s m args below meth c H locs cells slots g rest y (.ref b :: argsL) := by
  intro T hT X
  subst hb
  obtain ⟨mk, methM, hnamed, hmethM, hstM, habM⟩ := Cond.instanceMethod_spec hinst
  obtain ⟨mk', methM', cM, hn', hmethM', -, -, hsigM⟩ := hcode
  cases hnamed.symm.trans hn'
  cases hmethM.symm.trans hmethM'
  obtain ⟨c2, r2, m2, q1, q2, q3, q4, kP, hkP, hkPi⟩ := Cond.selects_spec hsel
  cases hcls.symm.trans q1
  cases (State.methodFound?_of_named hnamed hy).symm.trans q2
  cases hnamed.symm.trans q3
  have hselP : selectMethod e.platform s.vm cellB.cls mk = .method mk := by rw [Launch.admits_selectMethod X.admits]; exact q4
  rw [hsigM] at hlen
  obtain ⟨vm₁, X₁, hstep₁⟩ := X.invokevirtual hexec hown hlink hnamed hmethM hstM hkP hkPi hy (a := b) (cell := cellB) (by rw [hT]; exact hcell)
    (fun z h => by rw [h] at hobj; cases hobj) hselP hmethM habM hkP hkPi (g := g) hg (argsL := argsL) (rest := rest) (Option.some.inj hlen).symm hstack hdg
  exact ⟨mk, vm₁, X₁.warmed, X₁, hnamed, hstep₁⟩
theorem x_invVN (hexec : p.tables.exec = Jvm.exec) (hb : c.code = cc) (hown : s.vm.findClass own = some m.cls) (hlink : (Cond.methodLinkNest own index y host).before args s = true) (hinst : (Cond.instanceMethod y).before args s = true) (hsel : (Cond.selects C y y).before args s = true)
    (hcode : XCode y maxL s) (hy : y.cls ≠ "java/lang/invoke/MethodHandle" ∧ y.cls ≠ "java/lang/invoke/VarHandle")
    {cellB : Cell} (hcell : H[b]? = some cellB) (hobj : cellB.vm.isStatics = false) (hcls : s.vm.findClass C = some cellB.cls)
    (hg : g.method = m) (hlen : (parseMethodDescriptor y.desc).map (fun d => d.parameters.length) = some argsL.length)
    (hstack : g.stack = argsL.reverse ++ .ref b :: rest) (hdg : decode cc g.pc = .ok (.invokevirtual index, 3)) :
    XInv p l e R s m args below meth c H locs cells slots g rest y (.ref b :: argsL) := by
  intro T hT X
  subst hb
  obtain ⟨mk, methM, hnamed, hmethM, hstM, habM⟩ := Cond.instanceMethod_spec hinst
  obtain ⟨mk', methM', cM, hn', hmethM', -, -, hsigM⟩ := hcode
  cases hnamed.symm.trans hn'
  cases hmethM.symm.trans hmethM'
  obtain ⟨c2, r2, m2, q1, q2, q3, q4, kP, hkP, hkPi⟩ := Cond.selects_spec hsel
  cases hcls.symm.trans q1
  cases (State.methodFound?_of_named hnamed hy).symm.trans q2
  cases hnamed.symm.trans q3
  have hselP : selectMethod e.platform s.vm cellB.cls mk = .method mk := by rw [Launch.admits_selectMethod X.admits]; exact q4
  rw [hsigM] at hlen
  obtain ⟨vm₁, X₁, hstep₁⟩ := X.invokevirtualNest hexec hown hlink hnamed hmethM hstM hkP hkPi hy (a := b) (cell := cellB) (by rw [hT]; exact hcell)
    (fun z h => by rw [h] at hobj; cases hobj) hselP hmethM habM hkP hkPi (g := g) hg (argsL := argsL) (rest := rest) (Option.some.inj hlen).symm hstack hdg
  exact ⟨mk, vm₁, X₁.warmed, X₁, hnamed, hstep₁⟩
theorem x_invS (hexec : p.tables.exec = Jvm.exec) (hb : c.code = cc) (hown : s.vm.findClass own = some m.cls) (hlink : (Cond.methodLink own index y).before args s = true) (hstat : (Cond.static y).before args s = true) (hinit : (Cond.initialized y.cls).before args s = true)
    (hcode : XCode y maxL s) (hy : y.cls ≠ "java/lang/invoke/MethodHandle" ∧ y.cls ≠ "java/lang/invoke/VarHandle")
    (hg : g.method = m) (hlen : (parseMethodDescriptor y.desc).map (fun d => d.parameters.length) = some argsL.length)
    (hstack : g.stack = argsL.reverse ++ rest) (hdg : decode cc g.pc = .ok (.invokestatic index, 3)) :
    XInv p l e R s m args below meth c H locs cells slots g rest y argsL := by
  intro T hT X
  subst hb
  obtain ⟨mk, methM, cM, hnamed, hmethM, -, -, hsigM⟩ := hcode
  have hstatic : methM.isStatic = true := Cond.static_spec hnamed hmethM hstat
  obtain ⟨kP, hkP, -⟩ := className_of_methodNamed hnamed
  have hinitP : kP.init = .initialized := Cond.initialized_spec (findClass_of_methodNamed hnamed) hkP hinit
  rw [hsigM] at hlen
  obtain ⟨vm₁, X₁, hstep₁⟩ := X.invokestatic hexec hown hlink hnamed hmethM hstatic hkP hinitP hy (g := g) hg (argsL := argsL) (rest := rest) (Option.some.inj hlen).symm hstack hdg
  exact ⟨mk, vm₁, X₁.warmed, X₁, hnamed, hstep₁⟩
theorem x_invSN (hexec : p.tables.exec = Jvm.exec) (hb : c.code = cc) (hown : s.vm.findClass own = some m.cls) (hlink : (Cond.methodLinkNest own index y host).before args s = true) (hstat : (Cond.static y).before args s = true) (hinit : (Cond.initialized y.cls).before args s = true)
    (hcode : XCode y maxL s) (hy : y.cls ≠ "java/lang/invoke/MethodHandle" ∧ y.cls ≠ "java/lang/invoke/VarHandle")
    (hg : g.method = m) (hlen : (parseMethodDescriptor y.desc).map (fun d => d.parameters.length) = some argsL.length)
    (hstack : g.stack = argsL.reverse ++ rest) (hdg : decode cc g.pc = .ok (.invokestatic index, 3)) :
    XInv p l e R s m args below meth c H locs cells slots g rest y argsL := by
  intro T hT X
  subst hb
  obtain ⟨mk, methM, cM, hnamed, hmethM, -, -, hsigM⟩ := hcode
  have hstatic : methM.isStatic = true := Cond.static_spec hnamed hmethM hstat
  obtain ⟨kP, hkP, -⟩ := className_of_methodNamed hnamed
  have hinitP : kP.init = .initialized := Cond.initialized_spec (findClass_of_methodNamed hnamed) hkP hinit
  rw [hsigM] at hlen
  obtain ⟨vm₁, X₁, hstep₁⟩ := X.invokestaticNest hexec hown hlink hnamed hmethM hstatic hkP hinitP hy (g := g) hg (argsL := argsL) (rest := rest) (Option.some.inj hlen).symm hstack hdg
  exact ⟨mk, vm₁, X₁.warmed, X₁, hnamed, hstep₁⟩
theorem x_invI {bytes : ByteArray} (hexec : p.tables.exec = Jvm.exec) (hb : c.code = cc) (hown : s.vm.findClass own = some m.cls) (hy1 : y.name = "<init>") (hlink : (Cond.methodLink own index y).before args s = true) (hinst : (Cond.instanceMethod y).before args s = true)
    (hcode : (Cond.code y bytes maxL none).before args s = true) (hy : y.cls ≠ "java/lang/invoke/MethodHandle" ∧ y.cls ≠ "java/lang/invoke/VarHandle")
    (hg : g.method = m) (hlen : (parseMethodDescriptor y.desc).map (fun d => d.parameters.length) = some argsL.length)
    (hstack : g.stack = argsL.reverse ++ .ref b :: rest) (hdg : decode cc g.pc = .ok (.invokespecial index, 3)) :
    XInv p l e R s m args below meth c H locs cells slots g rest y (.ref b :: argsL) := by
  intro T hT X
  subst hb
  subst hg
  have hpl : e.platform.magicAccessors = ({} : Platform).magicAccessors := by rw [X.admits.platform]
  obtain ⟨mk, methM, cM, kP, vm₁, hnamed, hmethM, hcodeM, -, hlocalsM, -, hkP, -, hW₁, hstep₁⟩ := Steps.initColdArgs (e := e) X.here hexec X.warmed hpl hown hy1 hy hlink hinst hcode (f := g) rfl (fun sig h => by rw [h] at hlen; exact (Option.some.inj hlen).symm) hstack hdg
  exact ⟨mk, vm₁, hW₁, X.noted hW₁, hnamed, hstep₁⟩
theorem x_invIN {bytes : ByteArray} (hexec : p.tables.exec = Jvm.exec) (hb : c.code = cc) (hown : s.vm.findClass own = some m.cls) (hy1 : y.name = "<init>") (hlink : (Cond.methodLinkNest own index y host).before args s = true) (hinst : (Cond.instanceMethod y).before args s = true)
    (hcode : (Cond.code y bytes maxL none).before args s = true) (hy : y.cls ≠ "java/lang/invoke/MethodHandle" ∧ y.cls ≠ "java/lang/invoke/VarHandle")
    (hg : g.method = m) (hlen : (parseMethodDescriptor y.desc).map (fun d => d.parameters.length) = some argsL.length)
    (hstack : g.stack = argsL.reverse ++ .ref b :: rest) (hdg : decode cc g.pc = .ok (.invokespecial index, 3)) :
    XInv p l e R s m args below meth c H locs cells slots g rest y (.ref b :: argsL) := by
  intro T hT X
  subst hb
  subst hg
  have hpl : e.platform.magicAccessors = ({} : Platform).magicAccessors := by rw [X.admits.platform]
  obtain ⟨mk, methM, cM, kP, vm₁, hnamed, hmethM, hcodeM, -, hlocalsM, -, hkP, -, hW₁, hstep₁⟩ := Steps.initColdArgsNest (e := e) X.here hexec X.warmed hpl hown hy1 hy hlink hinst hcode (f := g) rfl (fun sig h => by rw [h] at hlen; exact (Option.some.inj hlen).symm) hstack hdg
  exact ⟨mk, vm₁, hW₁, X.noted hW₁, hnamed, hstep₁⟩
end XK2
/-- as W, from the note that an exception x is on its way over the frame g -/
def XT (p : Program) (l : Launch) (e : Env) (R : Room) (s : State) (m : MethodId) (args : Array Value) (below : List Frame) (meth : Method) (c : Code) (H : Heap) (locs : List Loc) (cells slots : Nat) (Q : State → Prop) (g : JFrame) (x : Addr) : Prop :=
  ∀ T : State, T.heap = H → Stand p l e R s m args below meth c T locs cells slots → ∃ t, Steps p.tables e below ((T.setTop g).pushFrame (.throwing x)) t ∧ Q t
section XK3
variable {p : Program} {l : Launch} {e : Env} {R : Room} {s : State} {m : MethodId} {args : Array Value} {below : List Frame} {meth : Method} {c : Code} {H : Heap} {locs : List Loc} {cells slots : Nat} {Q Q' : State → Prop}
theorem x_mono (h : ∀ t, Q t → Q' t) {g : JFrame} (k : W p l e R s m args below meth c H locs cells slots Q g) : W p l e R s m args below meth c H locs cells slots Q' g := fun T hT X => by
  obtain ⟨t, a, b⟩ := k T hT X
  exact ⟨t, a, h t b⟩
theorem x_ofMQ {Qc : Array Value → State → Outcome → State → Prop} {mc ms : Nat} {free : Addr → Prop} (t : State) (h : MQ below Qc args s mc ms free t) : XMQ below Qc args s mc ms free t := by
  obtain ⟨o, h1, h2, h3, L, ⟨-, h4, h5⟩, h6⟩ := h
  exact ⟨o, h1, h2, h3, L, ⟨h4, h5⟩, h6⟩
theorem XMet.ofW {l : Launch} {y : MethodName} {ws ws' : List Cond} {rm : Room} {Pc : Array Value → State → Prop} {Qc : Array Value → State → Outcome → State → Prop} {mc ms : Nat} {free : Addr → Prop} {cc : ByteArray} {maxL : Nat} {ret : Option FieldType}
    (hy : plainName y.cls = true) (hw : ws = Cond.code y cc maxL ret :: ws')
    (body : ∀ p e s m args below meth c s₁, BodyLoose p l y (headSpec ws rm) cc maxL ret e s m args below meth c s₁ → c.maxLocals = maxL → Pc args s →
      W p l e (headSpec ws rm).room s m args below meth c s.heap [] 0 0 (XMQ below Qc args s mc ms free) (entryFrame m args maxL)) : XMet l y ws rm Pc Qc mc ms free := by
  refine MetFree.of_bodyS (code := cc) (maxLocals := maxL) (ret := ret) hy ?_ ?_
  · intro args s m h hn
    obtain ⟨meth, c, h1, h2, h3, h4, h5, h6, -, -⟩ := Cond.code_spec hn (atoms_spec (ws := ws) h _ (by rw [hw]; exact List.mem_cons_self))
    exact ⟨meth, c, h1, h2, h3, h4, h5, h6⟩
  · intro p e s m args below meth c s₁ B hml hP _
    have hh0 : s₁.heap = s.heap := by rw [B.state]; rfl
    obtain ⟨t, a1, o, b1, b2, b3⟩ := body p e s m args below meth c s₁ B hml hP s₁ hh0 (Stand.of_body B)
    exact ⟨t, o, a1, b1, b2, ⟨b3.1, b3.2⟩⟩
theorem XMet.ofWW {l : Launch} {y : MethodName} {ws ws' : List Cond} {rm : Room} {Pc : Array Value → State → Prop} {Qc : Array Value → State → Outcome → State → Prop} {mc ms : Nat} {free : Addr → Prop} {cc : ByteArray} {maxL : Nat} {ret : Option FieldType} {hh : List (Nat × Nat × Nat × Nat)}
    (hy : plainName y.cls = true) (hw : ws = Cond.codeWith y cc maxL ret hh :: ws')
    (body : ∀ p e s m args below meth c s₁, BodyLoose p l y (headSpec ws rm) cc maxL ret e s m args below meth c s₁ → c.maxLocals = maxL → c.exceptionTable.toList.map (fun h => (h.startPc, h.endPc, h.handlerPc, h.catchType)) = hh → Pc args s →
      W p l e (headSpec ws rm).room s m args below meth c s.heap [] 0 0 (XMQ below Qc args s mc ms free) (entryFrame m args maxL)) : XMet l y ws rm Pc Qc mc ms free := by
  refine MetFree.of_bodyS (code := cc) (maxLocals := maxL) (ret := ret) hy ?_ ?_
  · intro args s m h hn
    obtain ⟨m9, meth, c, hn9, h1, h2, h3, h4, -, h5, h6, -⟩ := Cond.codeWith_spec (atoms_spec (ws := ws) h _ (by rw [hw]; exact List.mem_cons_self))
    cases hn.symm.trans hn9
    exact ⟨meth, c, h1, h2, h3, h4, h5, h6⟩
  · intro p e s m args below meth c s₁ B hml hP _
    have hh0 : s₁.heap = s.heap := by rw [B.state]; rfl
    have hx := atoms_spec (ws := ws) B.pre _ (show Cond.codeWith y cc maxL ret hh ∈ ws by rw [hw]; exact List.mem_cons_self)
    obtain ⟨m9, meth9, c9, hn9, h1, h2, -, -, ht, -⟩ := Cond.codeWith_spec hx
    cases B.named.symm.trans hn9
    cases B.method.symm.trans h1
    have X := Stand.of_body B
    cases X.code.symm.trans h2
    obtain ⟨t, a1, o, b1, b2, b3⟩ := body p e s m args below meth c s₁ B hml ht hP s₁ hh0 X
    exact ⟨t, o, a1, b1, b2, ⟨b3.1, b3.2⟩⟩
/-- nobody here catches it: the method throws it on -/
theorem x_out {Qc : Array Value → State → Outcome → State → Prop} {free : Addr → Prop} {x : Addr} {pc : Nat} {ls : Array Slot} {st : List Value} (hlocks : meth.locks = false) (hout : ∀ y ∈ c.exceptionTable.toList, covers y pc = false)
    (hq : ∀ t : State, t.heap = H → s.WarmedH t.vm → Qc args s (.threw x) t) (hf : ∀ q ∈ locs, free q.base) : XT p l e R s m args below meth c H locs cells slots (XMQ below Qc args s cells slots free) (F0 m pc ls st) x := by
  intro T hT X
  obtain ⟨a1, a2, a3, a4, a5⟩ := X.leaveThrown x (g := F0 m pc ls st) rfl rfl rfl hout hlocks
  exact ⟨_, a1, .threw x, a2, a3, hq _ (by show T.heap = H; exact hT) a4, locs, ⟨a4, a5⟩, hf⟩
/-- a call by contract -/
theorem x_go {y : MethodName} {av rest st0 : List Value} {pc : Nat} {ls : Array Slot} {ig : Instr} {Pc : Array Value → State → Prop} {Qc : Array Value → State → Outcome → State → Prop} {mc ms : Nat} {free : Addr → Prop}
    (I : XInv p l e R s m args below meth c H locs cells slots (F0 m pc ls st0) rest y av) (hK : XBack l R p e below s args y 3 8 (PreOf R mc ms Pc) (XPost Qc mc ms free))
    (hsize : ls.size = c.maxLocals) (hdg : decode c.code pc = .ok (ig, 3)) (hW : (rest.map fun v => v.category).sum ≤ 8) (hroom : cells + mc ≤ R.cells ∧ slots + ms ≤ R.slots)
    (hPc : ∀ U : State, U.heap = H → s.WarmedH U.vm → Pc av.toArray U)
    (kr : ∀ (v : Option Value) (st₀ t : State) (L : List Loc), st₀.heap = H → s.WarmedH st₀.vm → s.WarmedH t.vm → Qc av.toArray st₀ (.returned v) t → (∀ q ∈ L, free q.base) →
      W p l e R s m args below meth c t.heap (locs ++ L) (cells + mc) (slots + ms) Q (F0 m (pc + 3) ls (v.toList ++ rest)))
    (kt : ∀ (x : Addr) (st₀ t : State) (L : List Loc), st₀.heap = H → s.WarmedH st₀.vm → s.WarmedH t.vm → Qc av.toArray st₀ (.threw x) t → (∀ q ∈ L, free q.base) →
      XT p l e R s m args below meth c t.heap (locs ++ L) (cells + mc) (slots + ms) Q (F0 m pc ls rest) x) :
    W p l e R s m args below meth c H locs cells slots Q (F0 m pc ls st0) := by
  intro T hT X
  obtain ⟨mk, vm₁, hW₁, X₁, hnm, hstep⟩ := I T hT X
  obtain ⟨o, ⟨U', l2, c2, s2⟩, X', ⟨g', mk', t, L, e1, e2, hq, h1, hL, h2, h3⟩, hr, ht⟩ := hK m meth c ⟨T.setVm vm₁, locs, cells, slots⟩ (F0 m pc ls rest) ig mk av.toArray X₁ rfl hsize hdg (by show 2 * 0 + (rest.map fun v => v.category).sum ≤ 8; omega) (X₁.named hnm) ⟨hroom.1, hroom.2, hPc (T.setVm vm₁) hT hW₁⟩
  dsimp only [Pt.U, Pt.locs, Pt.cells, Pt.slots] at X' e1 e2 h1 h2 h3 hr ht
  subst h1; subst h2; subst h3
  have hWt : s.WarmedH t.vm := by rw [← e2]; exact X'.warmed
  cases o with
  | returned v =>
    obtain ⟨t2, a1, b1⟩ := kr v ((T.setVm vm₁).calling g' mk' av.toArray) t L hT hW₁ hWt hq hL U' e1 X'
    exact ⟨t2, hstep _ fun acts => by rw [doInvoke_state]; exact (hr v rfl).trans a1, b1⟩
  | threw x =>
    obtain ⟨t2, a1, b1⟩ := kt x ((T.setVm vm₁).calling g' mk' av.toArray) t L hT hW₁ hWt hq hL U' e1 X'
    exact ⟨t2, hstep _ fun acts => by rw [doInvoke_state]; exact (ht x rfl).trans a1, b1⟩
end XK3
/-! the world: region r holds cnt r cells, the i-th at B + adr r i; ent says what stands there -/
def XW (D : va_G) (cl : List vw_C) (adr : Nat → Nat → Nat) (cnt : Nat → Nat) (B : Nat) (ent : Nat → Nat → va_E) (H : Heap) : Prop := ∀ r i, i < cnt r → va_at D cl (B + adr r i, ent r i) H
def XInj (adr : Nat → Nat → Nat) (cnt : Nat → Nat) : Prop := ∀ r i r' i', i < cnt r → i' < cnt r' → adr r i = adr r' i' → r = r' ∧ i = i'
theorem xw_one {D : va_G} {cl : List vw_C} {adr : Nat → Nat → Nat} {cnt : Nat → Nat} {B : Nat} {ent : Nat → Nat → va_E} {H : Heap} (hX : XW D cl adr cnt B ent H) {r i : Nat} (hi : i < cnt r) {e : va_E} (he : ent r i = e) : va_P D cl [(B + adr r i, e)] H := by
  intro k q hk
  cases k with
  | zero => cases hk; rw [← he]; exact hX r i hi
  | succ k => simp at hk
theorem xw_upd {D : va_G} {cl : List vw_C} {adr : Nat → Nat → Nat} {cnt : Nat → Nat} {B : Nat} {ent ent' : Nat → Nat → va_E} {H H1 : Heap} (hX : XW D cl adr cnt B ent H) (hinj : XInj adr cnt) {r i : Nat} (hi : i < cnt r) {e : va_E} (he : ent' r i = e) (hnew : va_at D cl (B + adr r i, e) H1)
    (ho : ∀ q, q ≠ B + adr r i → H1[q]? = H[q]?) (hoth : ∀ r' i', ¬ (r' = r ∧ i' = i) → ent' r' i' = ent r' i') : XW D cl adr cnt B ent' H1 := by
  intro r' i' hi'
  by_cases h : r' = r ∧ i' = i
  · obtain ⟨rfl, rfl⟩ := h
    rw [he]; exact hnew
  · rw [hoth r' i' h]
    refine (hX r' i' hi').kept (ho _ fun q => h ?_)
    have q : B + adr r' i' = B + adr r i := q
    exact hinj r' i' r i hi' hi (by omega)
theorem xw_kept {D : va_G} {cl : List vw_C} {adr : Nat → Nat → Nat} {cnt : Nat → Nat} {B : Nat} {ent : Nat → Nat → va_E} {H H1 : Heap} (hX : XW D cl adr cnt B ent H) (ho : ∀ q, q < H.size → H1[q]? = H[q]?) : XW D cl adr cnt B ent H1 :=
  fun r i hi => (hX r i hi).kept (ho _ (hX r i hi).lt)
section XK4
variable {p : Program} {l : Launch} {e : Env} {R : Room} {s : State} {m : MethodId} {args : Array Value} {below : List Frame} {meth : Method} {c : Code} {H : Heap} {locs : List Loc} {cells slots : Nat} {Q : State → Prop}
variable {cc : ByteArray} {pc : Nat} {ls : Array Slot} {rest : List Value} {D : va_G} {cl : List vw_C} {A : Nat → Prop} {tys : List (ClassId × FieldType)} {H0 : Heap} {adr : Nat → Nat → Nat} {cnt : Nat → Nat} {B : Nat} {ent : Nat → Nat → va_E}
theorem xw_get (hexec : p.tables.exec = Jvm.exec) (hb : c.code = cc) {own ref C : String} {T : u_T} {N ci index : Nat} {Ts : List Cond} (hts : ∀ w ∈ Ts, w.before args s = true) (hin : ∀ w ∈ u_ws C T N, w ∈ Ts) (hown : s.vm.findClass own = some m.cls) (hK : va_K D cl tys s) (hX : XW D cl adr cnt B ent H) {r i : Nat} (hi : i < cnt r) {fs : List Value} (he : ent r i = .inr (ci, fs)) (hc : cl[ci]? = some (C, T, N)) (k : Nat) (hk : k < N) (hlink : (Cond.fieldLink own index ref (T k).2.1 (T k).2.2.1).before args s = true) (hsame : (T k).1 = ref) {v : Value} (hv : fs[k]? = some v) (hdg : decode cc pc = .ok (.getfield index, 3))
    (kk : W p l e R s m args below meth c H locs cells slots Q (F0 m (pc + 3) ls (v :: rest))) : W p l e R s m args below meth c H locs cells slots Q (F0 m pc ls (.ref (B + adr r i) :: rest)) :=
  va_get hexec hb hts hin hown hK (xw_one hX hi he) 0 rfl hc k hk hlink (fun x h => hsame ▸ h) hv hdg kk
theorem xw_getN (hexec : p.tables.exec = Jvm.exec) (hb : c.code = cc) {own ref C host : String} {T : u_T} {N ci index : Nat} {Ts : List Cond} (hts : ∀ w ∈ Ts, w.before args s = true) (hin : ∀ w ∈ u_ws C T N, w ∈ Ts) (hown : s.vm.findClass own = some m.cls) (hK : va_K D cl tys s) (hX : XW D cl adr cnt B ent H) {r i : Nat} (hi : i < cnt r) {fs : List Value} (he : ent r i = .inr (ci, fs)) (hc : cl[ci]? = some (C, T, N)) (k : Nat) (hk : k < N) (hlink : (Cond.fieldLinkNest own index ref (T k).2.1 (T k).2.2.1 host).before args s = true) (hsame : (T k).1 = ref) {v : Value} (hv : fs[k]? = some v) (hdg : decode cc pc = .ok (.getfield index, 3))
    (kk : W p l e R s m args below meth c H locs cells slots Q (F0 m (pc + 3) ls (v :: rest))) : W p l e R s m args below meth c H locs cells slots Q (F0 m pc ls (.ref (B + adr r i) :: rest)) :=
  va_getN hexec hb hts hin hown hK (xw_one hX hi he) 0 rfl hc k hk hlink (fun x h => hsame ▸ h) hv hdg kk
theorem xw_put (hexec : p.tables.exec = Jvm.exec) (hb : c.code = cc) {own ref C : String} {T : u_T} {N ci index : Nat} {Ts : List Cond} (hts : ∀ w ∈ Ts, w.before args s = true) (hin : ∀ w ∈ u_ws C T N, w ∈ Ts) (ty0 : Nat → FieldType) (hty : ∀ k, k < N → parseFieldDescriptor (T k).2.2.1 = some (ty0 k)) (hnm : ∀ a, a < N → ∀ b, b < N → a ≠ b → (T a).2.1 ≠ (T b).2.1) (hown : s.vm.findClass own = some m.cls) (hK : va_K D cl tys s) (hinj : XInj adr cnt) (hX : XW D cl adr cnt B ent H) (hS0 : va_S A H0 H locs) {r i : Nat} (hA : A (B + adr r i)) (hi : i < cnt r) {fs : List Value} (he : ent r i = .inr (ci, fs)) (hc : cl[ci]? = some (C, T, N)) (k : Nat) (hk : k < N) (hlink : (Cond.fieldLink own index ref (T k).2.1 (T k).2.2.1).before args s = true) (hsame : (T k).1 = ref) (hfin : (T k).2.2.2 = false) {v : Value} (hn : narrow (ty0 k) v = v) (hfit : fits (ty0 k) v = true) (hl : k < fs.length)
    {ent' : Nat → Nat → va_E} (he' : ent' r i = .inr (ci, fs.set k v)) (ho : ∀ r' i', ¬ (r' = r ∧ i' = i) → ent' r' i' = ent r' i') (hdg : decode cc pc = .ok (.putfield index, 3))
    (kk : ∀ (H1 : Heap) (locs1 : List Loc), XW D cl adr cnt B ent' H1 → va_S A H0 H1 locs1 → W p l e R s m args below meth c H1 locs1 cells slots Q (F0 m (pc + 3) ls rest)) : W p l e R s m args below meth c H locs cells slots Q (F0 m pc ls (v :: .ref (B + adr r i) :: rest)) := by
  have hap := va_apart (own := own) hts hin ty0 hty hnm hK hc
  obtain ⟨r0, h1, cell, q1, q2, q3, q4⟩ := xw_one hX hi he 0 _ rfl
  have hr : r0 = (C, T, N) := Option.some.inj (h1.symm.trans hc)
  subst hr
  obtain ⟨hS, hfc, kC, hkC, hkind⟩ := hK.1 ci _ hc
  obtain ⟨cf, kf, fi, f, hif, hsl⟩ := hS k hk
  have hlay := hts _ (hin _ (u_in_lay hk))
  unfold u_lay at hlay
  rw [if_neg (by rw [hfin]; decide)] at hlay
  have hst := (u_facts hfc hkC (u_lays hts hin hk) hif).1
  have h6 := u_store hfc hkC hkind hlay hif (hty k hk) hn hfit
  refine W.putK hexec hb (f := f) ⟨hown, hlink, ⟨_, _, _, hsame ▸ hif⟩, hst⟩ (by rw [q2]; exact h6) q1 q3 (by rw [hsl]; exact k2_hasslot (q4 k hk)) rfl rfl hdg fun H' e1 e2 e3 => ?_
  rw [hsl] at e1 ⊢
  exact kk H' _ (xw_upd hX hinj hi he' ⟨_, hc, t_OB.to (V := updV (vp_V fs) k v) ⟨_, e1, q2, q3, t_set q4 hap hk v⟩ (fun j _ => vp_updV_set hl v j)⟩ e3 ho) (hS0.put e2 e3 hA)
theorem xw_putN (hexec : p.tables.exec = Jvm.exec) (hb : c.code = cc) {own ref C host : String} {T : u_T} {N ci index : Nat} {Ts : List Cond} (hts : ∀ w ∈ Ts, w.before args s = true) (hin : ∀ w ∈ u_ws C T N, w ∈ Ts) (ty0 : Nat → FieldType) (hty : ∀ k, k < N → parseFieldDescriptor (T k).2.2.1 = some (ty0 k)) (hnm : ∀ a, a < N → ∀ b, b < N → a ≠ b → (T a).2.1 ≠ (T b).2.1) (hown : s.vm.findClass own = some m.cls) (hK : va_K D cl tys s) (hinj : XInj adr cnt) (hX : XW D cl adr cnt B ent H) (hS0 : va_S A H0 H locs) {r i : Nat} (hA : A (B + adr r i)) (hi : i < cnt r) {fs : List Value} (he : ent r i = .inr (ci, fs)) (hc : cl[ci]? = some (C, T, N)) (k : Nat) (hk : k < N) (hlink : (Cond.fieldLinkNest own index ref (T k).2.1 (T k).2.2.1 host).before args s = true) (hsame : (T k).1 = ref) (hfin : (T k).2.2.2 = false) {v : Value} (hn : narrow (ty0 k) v = v) (hfit : fits (ty0 k) v = true) (hl : k < fs.length)
    {ent' : Nat → Nat → va_E} (he' : ent' r i = .inr (ci, fs.set k v)) (ho : ∀ r' i', ¬ (r' = r ∧ i' = i) → ent' r' i' = ent r' i') (hdg : decode cc pc = .ok (.putfield index, 3))
    (kk : ∀ (H1 : Heap) (locs1 : List Loc), XW D cl adr cnt B ent' H1 → va_S A H0 H1 locs1 → W p l e R s m args below meth c H1 locs1 cells slots Q (F0 m (pc + 3) ls rest)) : W p l e R s m args below meth c H locs cells slots Q (F0 m pc ls (v :: .ref (B + adr r i) :: rest)) := by
  have hap := va_apart (own := own) hts hin ty0 hty hnm hK hc
  obtain ⟨r0, h1, cell, q1, q2, q3, q4⟩ := xw_one hX hi he 0 _ rfl
  have hr : r0 = (C, T, N) := Option.some.inj (h1.symm.trans hc)
  subst hr
  obtain ⟨hS, hfc, kC, hkC, hkind⟩ := hK.1 ci _ hc
  obtain ⟨cf, kf, fi, f, hif, hsl⟩ := hS k hk
  have hlay := hts _ (hin _ (u_in_lay hk))
  unfold u_lay at hlay
  rw [if_neg (by rw [hfin]; decide)] at hlay
  have hst := (u_facts hfc hkC (u_lays hts hin hk) hif).1
  have h6 := u_store hfc hkC hkind hlay hif (hty k hk) hn hfit
  refine va_WputK hexec hb (f := f) hown hlink (hsame ▸ hif) hst (by rw [q2]; exact h6) q1 q3 (by rw [hsl]; exact k2_hasslot (q4 k hk)) rfl rfl hdg fun H' e1 e2 e3 => ?_
  rw [hsl] at e1 ⊢
  exact kk H' _ (xw_upd hX hinj hi he' ⟨_, hc, t_OB.to (V := updV (vp_V fs) k v) ⟨_, e1, q2, q3, t_set q4 hap hk v⟩ (fun j _ => vp_updV_set hl v j)⟩ e3 ho) (hS0.put e2 e3 hA)
theorem xw_iald (hexec : p.tables.exec = Jvm.exec) (hb : c.code = cc) (hK : va_K D cl tys s) (hX : XW D cl adr cnt B ent H) {r i : Nat} (hi : i < cnt r) (t0 : Nat) {cA : ClassId} {n : Nat} {f : Nat → Int32} (he : ent r i = .inl (cA, n, .inl f)) (ht : tys[t0]? = some (cA, .int)) {j : Int32} (hin : vp_in j n) (hdg : decode cc pc = .ok (.iaload, 1))
    (kk : W p l e R s m args below meth c H locs cells slots Q (F0 m (pc + 1) ls (.int (f j.toNatClampNeg) :: rest))) : W p l e R s m args below meth c H locs cells slots Q (F0 m pc ls (.int j :: .ref (B + adr r i) :: rest)) :=
  va_iald hexec hb hK (xw_one hX hi he) 0 t0 rfl ht hin hdg kk
theorem xw_zald (hexec : p.tables.exec = Jvm.exec) (hb : c.code = cc) (hK : va_K D cl tys s) (hX : XW D cl adr cnt B ent H) {r i : Nat} (hi : i < cnt r) (t0 : Nat) {cA : ClassId} {n : Nat} {f : Nat → Int32} (he : ent r i = .inl (cA, n, .inl f)) (ht : tys[t0]? = some (cA, .boolean)) {j : Int32} (hin : vp_in j n) (hdg : decode cc pc = .ok (.baload, 1))
    (kk : W p l e R s m args below meth c H locs cells slots Q (F0 m (pc + 1) ls (.int (f j.toNatClampNeg) :: rest))) : W p l e R s m args below meth c H locs cells slots Q (F0 m pc ls (.int j :: .ref (B + adr r i) :: rest)) :=
  va_zald hexec hb hK (xw_one hX hi he) 0 t0 rfl ht hin hdg kk
theorem xw_lald (hexec : p.tables.exec = Jvm.exec) (hb : c.code = cc) (hK : va_K D cl tys s) (hX : XW D cl adr cnt B ent H) {r i : Nat} (hi : i < cnt r) (t0 : Nat) {cA : ClassId} {n : Nat} {f : Nat → Int64} (he : ent r i = .inl (cA, n, .inr (.inl f))) (ht : tys[t0]? = some (cA, .long)) {j : Int32} (hin : vp_in j n) (hdg : decode cc pc = .ok (.laload, 1))
    (kk : W p l e R s m args below meth c H locs cells slots Q (F0 m (pc + 1) ls (.long (f j.toNatClampNeg) :: rest))) : W p l e R s m args below meth c H locs cells slots Q (F0 m pc ls (.int j :: .ref (B + adr r i) :: rest)) :=
  va_lald hexec hb hK (xw_one hX hi he) 0 t0 rfl ht hin hdg kk
/-- an array of references, to objects or arrays -/
theorem xw_aald (hexec : p.tables.exec = Jvm.exec) (hb : c.code = cc) (hK : va_K D cl tys s) (hX : XW D cl adr cnt B ent H) {r i : Nat} (hi : i < cnt r) (t0 : Nat) {cA : ClassId} {n : Nat} {f : Nat → Option Nat} {ty : FieldType} (he : ent r i = .inl (cA, n, .inr (.inr (.inr (.inr f))))) (ht : tys[t0]? = some (cA, ty)) (href : ty.isReference = true) {j : Int32} (hin : vp_in j n) {a : Nat} (hf : f j.toNatClampNeg = some a) (hdg : decode cc pc = .ok (.aaload, 1))
    (kk : W p l e R s m args below meth c H locs cells slots Q (F0 m (pc + 1) ls (.ref a :: rest))) : W p l e R s m args below meth c H locs cells slots Q (F0 m pc ls (.int j :: .ref (B + adr r i) :: rest)) := by
  have hlt : j.toNatClampNeg < n := Nat.not_le.mp fun q => hin (Or.inr q)
  have hP := xw_one hX hi he 0 _ rfl
  exact W.aald (v := .ref a) (ty := ty) hexec hb hP ((hK.2 t0 _ ht).1 n (fun j => va_rf (f j))) href (fun q => by cases q) (by show ¬ (j < 0 ∨ (arrV _ _ _).slots.size ≤ _); rw [arrV_size]; exact hin) (by show (arrV _ _ _).slots[_]? = _; rw [arrV_read _ _ hlt, hf]; rfl) rfl rfl hdg kk
theorem xw_iast (hexec : p.tables.exec = Jvm.exec) (hb : c.code = cc) (hK : va_K D cl tys s) (hinj : XInj adr cnt) (hX : XW D cl adr cnt B ent H) (hS : va_S A H0 H locs) {r i : Nat} (hA : A (B + adr r i)) (hi : i < cnt r) (t0 : Nat) {cA : ClassId} {n : Nat} {f : Nat → Int32} (he : ent r i = .inl (cA, n, .inl f)) (ht : tys[t0]? = some (cA, .int)) {j x : Int32} (hin : vp_in j n)
    {ent' : Nat → Nat → va_E} (he' : ent' r i = .inl (cA, n, .inl (upd f j.toNatClampNeg x))) (ho : ∀ r' i', ¬ (r' = r ∧ i' = i) → ent' r' i' = ent r' i') (hdg : decode cc pc = .ok (.iastore, 1))
    (kk : ∀ (H1 : Heap) (locs1 : List Loc), XW D cl adr cnt B ent' H1 → va_S A H0 H1 locs1 → W p l e R s m args below meth c H1 locs1 cells slots Q (F0 m (pc + 1) ls rest)) : W p l e R s m args below meth c H locs cells slots Q (F0 m pc ls (.int x :: .int j :: .ref (B + adr r i) :: rest)) := by
  have hP := xw_one hX hi he 0 _ rfl
  refine W.iast hexec hb hP ((hK.2 t0 _ ht).1 n (fun j => .int (f j))) (fun q => by cases q) (by show ¬ (j < 0 ∨ (arrV _ _ _).slots.size ≤ _); rw [arrV_size]; exact hin) rfl rfl hdg fun H1 e z oq => ?_
  refine kk H1 _ (xw_upd hX hinj hi he' ?_ oq ho) (hS.put z oq hA)
  show H1[B + adr r i]? = some (vp_cell _ _)
  rw [e]
  rw [vp_cell_i, vp_cell_i, arrV_store]
  congr 2
  funext q
  by_cases hq : q = j.toNatClampNeg
  · subst hq
    simp [updV, upd]
  · simp [updV, upd, hq]
theorem xw_zast (hexec : p.tables.exec = Jvm.exec) (hb : c.code = cc) (hK : va_K D cl tys s) (hinj : XInj adr cnt) (hX : XW D cl adr cnt B ent H) (hS : va_S A H0 H locs) {r i : Nat} (hA : A (B + adr r i)) (hi : i < cnt r) (t0 : Nat) {cA : ClassId} {n : Nat} {f : Nat → Int32} (he : ent r i = .inl (cA, n, .inl f)) (ht : tys[t0]? = some (cA, .boolean)) {j x : Int32} (hin : vp_in j n)
    {ent' : Nat → Nat → va_E} (he' : ent' r i = .inl (cA, n, .inl (upd f j.toNatClampNeg (vp_nar .boolean x)))) (ho : ∀ r' i', ¬ (r' = r ∧ i' = i) → ent' r' i' = ent r' i') (hdg : decode cc pc = .ok (.bastore, 1))
    (kk : ∀ (H1 : Heap) (locs1 : List Loc), XW D cl adr cnt B ent' H1 → va_S A H0 H1 locs1 → W p l e R s m args below meth c H1 locs1 cells slots Q (F0 m (pc + 1) ls rest)) : W p l e R s m args below meth c H locs cells slots Q (F0 m pc ls (.int x :: .int j :: .ref (B + adr r i) :: rest)) := by
  have hP := xw_one hX hi he 0 _ rfl
  refine W.zast hexec hb hP ((hK.2 t0 _ ht).1 n (fun j => .int (f j))) (fun q => by cases q) (by show ¬ (j < 0 ∨ (arrV _ _ _).slots.size ≤ _); rw [arrV_size]; exact hin) rfl rfl hdg fun H1 e z oq => ?_
  refine kk H1 _ (xw_upd hX hinj hi he' ?_ oq ho) (hS.put z oq hA)
  show H1[B + adr r i]? = some (vp_cell _ _)
  rw [e]
  rw [vp_cell_i, vp_cell_i, arrV_store]
  congr 2
  funext q
  by_cases hq : q = j.toNatClampNeg
  · subst hq
    simp [updV, upd, vp_nar]
    try rfl
  · simp [updV, upd, hq]
theorem xw_last (hexec : p.tables.exec = Jvm.exec) (hb : c.code = cc) (hK : va_K D cl tys s) (hinj : XInj adr cnt) (hX : XW D cl adr cnt B ent H) (hS : va_S A H0 H locs) {r i : Nat} (hA : A (B + adr r i)) (hi : i < cnt r) (t0 : Nat) {cA : ClassId} {n : Nat} {f : Nat → Int64} (he : ent r i = .inl (cA, n, .inr (.inl f))) (ht : tys[t0]? = some (cA, .long)) {j : Int32} {x : Int64} (hin : vp_in j n)
    {ent' : Nat → Nat → va_E} (he' : ent' r i = .inl (cA, n, .inr (.inl (vp_updL f j.toNatClampNeg x)))) (ho : ∀ r' i', ¬ (r' = r ∧ i' = i) → ent' r' i' = ent r' i') (hdg : decode cc pc = .ok (.lastore, 1))
    (kk : ∀ (H1 : Heap) (locs1 : List Loc), XW D cl adr cnt B ent' H1 → va_S A H0 H1 locs1 → W p l e R s m args below meth c H1 locs1 cells slots Q (F0 m (pc + 1) ls rest)) : W p l e R s m args below meth c H locs cells slots Q (F0 m pc ls (.long x :: .int j :: .ref (B + adr r i) :: rest)) := by
  have hP := xw_one hX hi he 0 _ rfl
  refine W.last hexec hb hP ((hK.2 t0 _ ht).1 n (fun j => .long (f j))) (fun q => by cases q) (by show ¬ (j < 0 ∨ (arrV _ _ _).slots.size ≤ _); rw [arrV_size]; exact hin) rfl rfl hdg fun H1 e z oq => ?_
  refine kk H1 _ (xw_upd hX hinj hi he' ?_ oq ho) (hS.put z oq hA)
  show H1[B + adr r i]? = some (vp_cell _ _)
  rw [e]
  rw [vp_cell_l, vp_cell_l, arrV_store]
  congr 2
  funext q
  by_cases hq : q = j.toNatClampNeg
  · subst hq
    simp [updV, vp_updL]
  · simp [updV, vp_updL, hq]
theorem xw_recv {r i : Nat} {ci : Nat} {q : vw_C} {fs : List Value} (hK : va_K D cl tys s) (hX : XW D cl adr cnt B ent H) (hi : i < cnt r) (he : ent r i = .inr (ci, fs)) (hc : cl[ci]? = some q) : ∃ cell : Cell, H[B + adr r i]? = some cell ∧ cell.vm.isStatics = false ∧ s.vm.findClass q.1 = some cell.cls :=
  va_recv hK (xw_one hX hi he) hc (q0 := 0) rfl
end XK4
/-! carrying the tables' words from the law's start s0 to any later state -/
theorem x_word {w : Cond} (hw : w.onTables = true) (hk : w.keepsFace = true) {A A' : Array Value} {s0 U : State} (hW : s0.WarmedH U.vm) (h : w.before A s0 = true) : w.before A' U = true := by
  have h1 : w.before A (s0.setVm U.vm) = true := Cond.before_shiftedFace (State.Shifted.of_warmed hW) w hk h
  exact va_tabs hw (rfl : (s0.setVm U.vm).vm = U.vm) h1
def x_goodW (w : Cond) : Bool := w.onTables && w.keepsFace
def XExt (H H1 : Heap) : Prop := H.size ≤ H1.size ∧ ∀ q : Nat, q < H.size → H1[q]? = H[q]?
theorem XExt.rf {H : Heap} : XExt H H := ⟨Nat.le_refl _, fun _ _ => rfl⟩
theorem XExt.tr {H H1 H2 : Heap} (h : XExt H H1) (h2 : XExt H1 H2) : XExt H H2 := ⟨Nat.le_trans h.1 h2.1, fun q hq => (h2.2 q (Nat.lt_of_lt_of_le hq h.1)).trans (h.2 q hq)⟩
/-- an exception of class E stands at x -/
def XH (E : String) (x : Addr) (H : Heap) (U : State) : Prop := ∃ ce : Cell, H[x]? = some ce ∧ ce.vm = .none ∧ U.vm.findClass E = some ce.cls
theorem XH.moved {E : String} {x : Addr} {H : Heap} {u U : State} (hvm : u.vm.Alike U.vm) (h : XH E x H u) : XH E x H U := by
  obtain ⟨ce, h1, h2, h3⟩ := h
  exact ⟨ce, h1, h2, by rw [hvm.findClass]; exact h3⟩
/-- U is later than s0: its tables are warmer, what was there at s0 is as it was -/
def XO (s0 : State) (U : State) (H : Heap) : Prop := s0.WarmedH U.vm ∧ XExt s0.heap H
theorem XO.ext {s0 U : State} {H H1 : Heap} (h : XO s0 U H) (h2 : XExt H H1) : XO s0 U H1 := ⟨h.1, h.2.tr h2⟩
theorem x_static {C n d : String} {A A' : Array Value} {s0 U : State} (h : XO s0 U U.heap) (hl : (Cond.laysStatic C n d).before A s0 = true) : (Cond.laysStatic C n d).before A' U = true := by
  have h1 : (Cond.laysStatic C n d).before A (s0.setVm U.vm) = true := Cond.before_shiftedFace (State.Shifted.of_warmed h.1) _ rfl hl
  simp only [Cond.before, Cond.holds, Cond.value] at h1 ⊢
  have e1 : (s0.setVm U.vm).vm = U.vm := rfl
  have e2 : (s0.setVm U.vm).fieldFound? C n d = U.fieldFound? C n d := rfl
  rw [e1, e2] at h1
  cases hc : U.vm.findClass C with
  | none => rw [hc] at h1; simp at h1
  | some c =>
    cases hf : U.fieldFound? C n d with
    | none => rw [hc, hf] at h1; simp at h1
    | some q =>
      obtain ⟨c', k, i, f⟩ := q
      rw [hc, hf] at h1
      simp only at h1 ⊢
      cases hs : k.statics with
      | none => rw [hs] at h1; simp at h1
      | some a =>
        rw [hs] at h1
        have e3 : (s0.setVm U.vm).heap = s0.heap := rfl
        simp only [Option.bind_some, e3] at h1 ⊢
        cases hcell : s0.heap[a]? with
        | none => rw [hcell] at h1; simp at h1
        | some cell =>
          rw [h.2.2 a (Array.getElem?_eq_some_iff.mp hcell).1, hcell]
          rw [hcell] at h1
          exact h1
theorem x_isRef {C n d : String} {A A' : Array Value} {s0 U : State} (h : XO s0 U U.heap) (hl : (Cond.isRef (.static C n d)).before A s0 = true) : (Cond.isRef (.static C n d)).before A' U = true := by
  have h1 : (Cond.isRef (.static C n d)).before A (s0.setVm U.vm) = true := Cond.before_shiftedFace (State.Shifted.of_warmed h.1) _ rfl hl
  simp only [Cond.before, Cond.holds, Cond.value, Term.eval] at h1 ⊢
  have e2 : (s0.setVm U.vm).fieldNamed? C n d true = U.fieldNamed? C n d true := rfl
  have e3 : (s0.setVm U.vm).heap = s0.heap := rfl
  rw [e2, e3] at h1
  cases hf : U.fieldNamed? C n d true with
  | none => rw [hf] at h1; simp at h1
  | some q =>
    obtain ⟨c', k, i⟩ := q
    rw [hf] at h1
    cases hs : k.statics with
    | none => simp [hs] at h1
    | some a =>
      cases hcell : s0.heap[a]? with
      | none => simp [hs, hcell] at h1
      | some cell =>
        have e4 : U.heap[a]? = some cell := by rw [h.2.2 a (Array.getElem?_eq_some_iff.mp hcell).1, hcell]
        simp only [hs, hcell, e4, Option.bind_some, Option.bind_eq_bind, Option.pure_def] at h1 ⊢
        exact h1
def x_kd : Cond → Bool
  | .laysStatic .. => true
  | .isRef (.static ..) => true
  | c => c.onTables
theorem x_carry {w : Cond} (hkd : x_kd w = true) (hk : w.keepsFace = true) {A A' : Array Value} {s0 U : State} (hO : XO s0 U U.heap) (h : w.before A s0 = true) : w.before A' U = true := by
  cases w with
  | laysStatic C n d => exact x_static hO h
  | isRef t =>
    cases t with
    | static C n d => exact x_isRef hO h
    | _ => simp [x_kd, Cond.onTables] at hkd
  | _ => exact x_word (by simpa [x_kd] using hkd) hk hO.1 h
theorem x_own {A A' : Array Value} {s0 U : State} {own E : String} {ic : Nat} {names : List String} (hO : XO s0 U U.heap) (hkd : (Bundle.ownAtoms own ic E names).all x_kd = true) (h : ∀ a ∈ Bundle.ownAtoms own ic E names, a.before A s0 = true) : ∀ a ∈ Bundle.ownAtoms own ic E names, a.before A' U = true :=
  fun a ha => x_carry (List.all_eq_true.mp hkd a ha) (Bundle.ownAtoms_keepsFace a ha) hO (h a ha)
theorem x_same {s U : State} {k n : Nat} (h : s.sameButNew ({ U with vm := s.vm } : State) [] k n) : XExt s.heap U.heap := by
  obtain ⟨-, h2, -, -, -, h6⟩ := h
  refine ⟨h2, fun q hq => ?_⟩
  obtain ⟨c', e1, e2, e3, e4⟩ := h6 q s.heap[q] (Array.getElem?_eq_getElem hq)
  have e1 : U.heap[q]? = some c' := e1
  have e5 : c'.slots = s.heap[q].slots := Array.ext_getElem? (fun i => e4 i (fun z => by cases z))
  rw [e1, Array.getElem?_eq_getElem hq, e2, e5]
section XK5
variable {p : Program} {l : Launch} {e : Env} {R : Room} {s : State} {m : MethodId} {args : Array Value} {below : List Frame} {meth : Method} {c : Code} {H : Heap} {locs : List Loc} {cells slots : Nat} {Q : State → Prop}
/-- throw new E("..") in a method that catches nothing and has written nothing -/
theorem x_throw {cc : ByteArray} {own E txt : String} {ia ib ic q : Nat} {names : List String} {pc : Nat} {ls : Array Slot} {rest : List Value} {Qc : Array Value → State → Outcome → State → Prop} {free : Addr → Prop}
    (hx : p.tables.exec = Jvm.exec) (hb : c.code = cc) (hfl : l.flags = pinnedFlags ++ [noTraceFlag]) (hown : s.vm.findClass own = some m.cls) (hlocks : meth.locks = false) (hnt : c.exceptionTable.isEmpty = true) (hsize : ls.size = c.maxLocals)
    (hcl : (Cond.classLink own ia E).before args s = true) (hini : (Cond.initialized E).before args s = true) (hstr : vk_R own ib txt q s) (hat : ∀ a ∈ Bundle.ownAtoms own ic E names, a.before args s = true) (hf1 : Bundle.fit E = true) (hf2 : ∀ n ∈ names, Bundle.fit n = true)
    (d0 : decode cc pc = .ok (.new ia, 3)) (d3 : decode cc (pc + 3) = .ok (.dup, 1)) (d4 : decode cc (pc + 4) = .ok (.ldc ib, 2)) (d6 : decode cc (pc + 6) = .ok (.invokespecial ic, 3)) (d9 : decode cc (pc + 9) = .ok (.athrow, 1))
    (hrf : names.length + 3 < R.frames) (hrl : (rest.map fun v => v.category).sum + 1 + (13 * (names.length + 1) + 42) ≤ R.locals) (hrc : cells + 1 ≤ R.cells) (hrs : slots + 6 ≤ R.slots)
    (hq : ∀ (x : Addr) (t : State), XH E x t.heap s → XExt s.heap t.heap → Qc args s (.threw x) t) :
    W p l e R s m args below meth c s.heap [] cells slots (XMQ below Qc args s (cells + 1) (slots + 6) free) (F0 m pc ls rest) := by
  intro T hT X
  subst hb
  have htr : e.platform.stackTraces = false := Launch.traces_off hfl X.admits
  obtain ⟨vm₁, cX, kX, hfX, hkX, -, -, X₁, st1⟩ := X.newCold hx (own := own) (C := E) (index := ia) (n := 6) hown hcl (hat (.instantiable E 6) (by simp [Bundle.ownAtoms])) hini (g := F0 m pc ls rest) rfl d0 hrc hrs
  generalize hT1 : (T.setVm vm₁).pushCell { cls := cX, slots := kX.instanceTypes.map defaultValue, vm := .none } = T₁ at X₁ st1
  have hcellA : T₁.heap[T.heap.size]? = some (freshCell cX kX) := by rw [← hT1]; exact State.heap_pushCell_size _ _
  obtain ⟨U, hsteps, hrun, hend, hW, hsame, ce, hce, K⟩ := X₁.ctorThrowS hx htr (own := own) (cls := E) (names := names) (ic := ic) hown hf1 hf2 hat (fun y hy => by cases hy) hfX hkX hcellA (by rw [hT]; exact Nat.le_refl _) (msg := .ref q) rfl
    (g := F0 m (pc + 6) ls (.ref q :: .ref T.heap.size :: .ref T.heap.size :: rest)) rfl hsize rfl rfl (rest := rest) rfl d6 d9 (covers_of_empty hnt _) hrf (by
      show 2 * 0 + ((Value.ref T.heap.size :: rest).map fun v => v.category).sum + _ ≤ _
      simp only [List.map_cons, List.sum_cons]
      have : (Value.ref T.heap.size).category = 1 := rfl
      omega)
  refine ⟨U, ?_, .threw T.heap.size, hrun, hend, hq _ _ ⟨ce, hce, K.vm, K.cls⟩ (x_same hsame), [], ⟨hW, hsame⟩, fun q hq => by cases hq⟩
  refine st1 _ ?_
  show Steps p.tables e below (T₁.setTop (F0 m (pc + 3) ls (.ref T.heap.size :: rest))) _
  jvm_step X₁.here [X₁.here.top, hx, d3, Value.category]
  exact X₁.ldcString hx (own := own) (text := txt) (index := ib) (a := q) hown hstr.1 hstr.2 (g := F0 m (pc + 4) ls (.ref T.heap.size :: .ref T.heap.size :: rest)) rfl d4 _ hsteps
/-- caught here: on at the handler, the exception alone on the stack -/
theorem x_caught {x : Addr} {pc hp : Nat} {ls : Array Slot} {st : List Value} (hf : ∀ T : State, T.heap = H → s.WarmedH T.vm → T.vm.method? m = some meth → Finds e ((T.setTop (F0 m pc ls st)).pushFrame (.throwing x)) (F0 m pc ls st) x (.found hp))
    (k : W p l e R s m args below meth c H locs cells slots Q (F0 m hp ls [.ref x])) : XT p l e R s m args below meth c H locs cells slots Q (F0 m pc ls st) x := by
  intro T hT X
  obtain ⟨t, a, b⟩ := k T hT X
  exact ⟨t, X.catchAt x (g := F0 m pc ls st) rfl (hf T hT X.warmed X.method') a, b⟩
end XK5
end
section
/-! the state: ints and longs by region, number, place -/
abbrev XS : Type := (Nat → Nat → Nat → Int32) × (Nat → Nat → Nat → Int64)
def xuI (σ : XS) (r i j : Nat) (v : Int32) : XS := (fun r' i' j' => if r' = r ∧ i' = i ∧ j' = j then v else σ.1 r' i' j', σ.2)
def xuL (σ : XS) (r i j : Nat) (v : Int64) : XS := (σ.1, fun r' i' j' => if r' = r ∧ i' = i ∧ j' = j then v else σ.2 r' i' j')
def XA (r i : Nat) : Nat := match r with
  | 0 => 0
  | 1 => 1
  | 2 => 2
  | 3 => 3
  | 4 => 4
  | 5 => 5 + i
  | 6 => 11
  | 7 => 12
  | 8 => 13
  | 9 => 14 + 6 * i
  | 10 => 15 + 6 * i
  | 11 => 16 + 6 * i
  | 12 => 17 + 6 * i
  | 13 => 18 + 6 * i
  | 14 => 19 + 6 * i
  | 15 => 110
  | 16 => 111
  | 17 => 112
  | 18 => 113
  | 19 => 114
  | 20 => 115
  | 21 => 116
  | 22 => 117
  | 23 => 118
  | 24 => 119
  | 25 => 120
  | 26 => 121
  | 27 => 122
  | 28 => 123
  | 29 => 124
  | 30 => 125
  | 31 => 126
  | _ => 0
def XN (r : Nat) : Nat := match r with
  | 0 => 1
  | 1 => 1
  | 2 => 1
  | 3 => 1
  | 4 => 1
  | 5 => 6
  | 6 => 1
  | 7 => 1
  | 8 => 1
  | 9 => 16
  | 10 => 16
  | 11 => 16
  | 12 => 16
  | 13 => 16
  | 14 => 16
  | 15 => 1
  | 16 => 1
  | 17 => 1
  | 18 => 1
  | 19 => 1
  | 20 => 1
  | 21 => 1
  | 22 => 1
  | 23 => 1
  | 24 => 1
  | 25 => 1
  | 26 => 1
  | 27 => 1
  | 28 => 1
  | 29 => 1
  | 30 => 1
  | 31 => 1
  | _ => 0
def xB (s0 : State) : Nat := s0.heap.size
def XE0 (dA : Nat → ClassId) (B : Nat) (f : Nat → Int32) (g : Nat → Int64) (r i : Nat) : va_E := match r with
  | 0 => .inr (0, [.ref (B + XA 1 0), .ref (B + XA 2 0), .ref (B + XA 3 0), .ref (B + XA 4 0), .ref (B + XA 6 0), .ref (B + XA 7 0), .int (f 6), .int (f 7), .int (f 8)])
  | 1 => .inl (dA 0, 30, .inl f)
  | 2 => .inl (dA 0, 30, .inl f)
  | 3 => .inl (dA 0, 30, .inl f)
  | 4 => .inl (dA 3, 6, .inr (.inr (.inr (.inr fun j => some (B + XA 5 j)))))
  | 5 => .inl (dA 0, 240, .inl f)
  | 6 => .inl (dA 4, 16, .inr (.inr (.inr (.inr fun j => some (B + XA 9 j)))))
  | 7 => .inr (2, [.ref (B + XA 8 0), .long (g 1)])
  | 8 => .inl (dA 0, 300, .inl f)
  | 9 => .inr (1, [.ref (B + XA 10 i), .ref (B + XA 11 i), .ref (B + XA 12 i), .ref (B + XA 13 i), .ref (B + XA 14 i), .int (f 5), .int (f 6), .int (f 7), .int (f 8), .int (f 9), .int (f 10), .long (g 11), .long (g 12)])
  | 10 => .inl (dA 0, 8, .inl f)
  | 11 => .inl (dA 1, 8, .inl f)
  | 12 => .inl (dA 0, 240, .inl f)
  | 13 => .inl (dA 0, 30, .inl f)
  | 14 => .inl (dA 0, 30, .inl f)
  | 15 => .inr (3, [.int (f 0), .int (f 1), .int (f 2), .ref (B + XA 16 0), .ref (B + XA 17 0), .ref (B + XA 18 0), .int (f 6), .ref (B + XA 19 0), .ref (B + XA 20 0), .ref (B + XA 21 0), .ref (B + XA 22 0), .ref (B + XA 23 0), .ref (B + XA 24 0), .ref (B + XA 25 0), .ref (B + XA 26 0), .ref (B + XA 27 0), .ref (B + XA 28 0), .ref (B + XA 29 0), .int (f 18), .ref (B + XA 30 0)])
  | 16 => .inl (dA 0, 30, .inl f)
  | 17 => .inl (dA 0, 30, .inl f)
  | 18 => .inl (dA 0, 30, .inl f)
  | 19 => .inl (dA 0, 16, .inl f)
  | 20 => .inl (dA 0, 16, .inl f)
  | 21 => .inl (dA 0, 16, .inl f)
  | 22 => .inl (dA 0, 16, .inl f)
  | 23 => .inl (dA 0, 16, .inl f)
  | 24 => .inl (dA 0, 128, .inl f)
  | 25 => .inl (dA 1, 128, .inl f)
  | 26 => .inl (dA 0, 480, .inl f)
  | 27 => .inl (dA 0, 480, .inl f)
  | 28 => .inl (dA 0, 3840, .inl f)
  | 29 => .inl (dA 0, 1440, .inl f)
  | 30 => .inl (dA 0, 300, .inl f)
  | 31 => .inl (dA 2, 1, .inr (.inl g))
  | _ => .inr (0, [])
def XE (dA : Nat → ClassId) (B : Nat) (σ : XS) (r i : Nat) : va_E := XE0 dA B (σ.1 r i) (σ.2 r i) r i
theorem xuI_row (σ : XS) (r i j : Nat) (v : Int32) : (xuI σ r i j v).1 r i = upd (σ.1 r i) j v := by
  funext k
  simp [xuI, upd]
theorem xuL_row (σ : XS) (r i j : Nat) (v : Int64) : (xuL σ r i j v).2 r i = vp_updL (σ.2 r i) j v := by
  funext k
  simp [xuL, vp_updL]
theorem xuI_oth (σ : XS) (r i j : Nat) (v : Int32) {r' i' : Nat} (h : ¬ (r' = r ∧ i' = i)) : (xuI σ r i j v).1 r' i' = σ.1 r' i' := by
  funext k
  show (if r' = r ∧ i' = i ∧ k = j then v else σ.1 r' i' k) = _
  rw [if_neg (fun q => h ⟨q.1, q.2.1⟩)]
theorem xuL_oth (σ : XS) (r i j : Nat) (v : Int64) {r' i' : Nat} (h : ¬ (r' = r ∧ i' = i)) : (xuL σ r i j v).2 r' i' = σ.2 r' i' := by
  funext k
  show (if r' = r ∧ i' = i ∧ k = j then v else σ.2 r' i' k) = _
  rw [if_neg (fun q => h ⟨q.1, q.2.1⟩)]
theorem xe_uI (dA : Nat → ClassId) (B : Nat) (σ : XS) (r i j : Nat) (v : Int32) : XE dA B (xuI σ r i j v) r i = XE0 dA B (upd (σ.1 r i) j v) (σ.2 r i) r i := by
  unfold XE
  rw [xuI_row]
  rfl
theorem xe_uL (dA : Nat → ClassId) (B : Nat) (σ : XS) (r i j : Nat) (v : Int64) : XE dA B (xuL σ r i j v) r i = XE0 dA B (σ.1 r i) (vp_updL (σ.2 r i) j v) r i := by
  unfold XE
  rw [xuL_row]
  rfl
theorem xe_oI (dA : Nat → ClassId) (B : Nat) (σ : XS) (r i j : Nat) (v : Int32) : ∀ r' i', ¬ (r' = r ∧ i' = i) → XE dA B (xuI σ r i j v) r' i' = XE dA B σ r' i' := fun r' i' h => by
  unfold XE
  rw [xuI_oth σ r i j v h]
  rfl
theorem xe_oL (dA : Nat → ClassId) (B : Nat) (σ : XS) (r i j : Nat) (v : Int64) : ∀ r' i', ¬ (r' = r ∧ i' = i) → XE dA B (xuL σ r i j v) r' i' = XE dA B σ r' i' := fun r' i' h => by
  unfold XE
  rw [xuL_oth σ r i j v h]
  rfl
def xInvL : List (Nat × Nat) := [(0, 0), (1, 0), (2, 0), (3, 0), (4, 0), (5, 0), (5, 1), (5, 2), (5, 3), (5, 4), (5, 5), (6, 0), (7, 0), (8, 0), (9, 0), (10, 0), (11, 0), (12, 0), (13, 0), (14, 0), (9, 1), (10, 1), (11, 1), (12, 1), (13, 1), (14, 1), (9, 2), (10, 2), (11, 2), (12, 2), (13, 2), (14, 2), (9, 3), (10, 3), (11, 3), (12, 3), (13, 3), (14, 3), (9, 4), (10, 4), (11, 4), (12, 4), (13, 4), (14, 4), (9, 5), (10, 5), (11, 5), (12, 5), (13, 5), (14, 5), (9, 6), (10, 6), (11, 6), (12, 6), (13, 6), (14, 6), (9, 7), (10, 7), (11, 7), (12, 7), (13, 7), (14, 7), (9, 8), (10, 8), (11, 8), (12, 8), (13, 8), (14, 8), (9, 9), (10, 9), (11, 9), (12, 9), (13, 9), (14, 9), (9, 10), (10, 10), (11, 10), (12, 10), (13, 10), (14, 10), (9, 11), (10, 11), (11, 11), (12, 11), (13, 11), (14, 11), (9, 12), (10, 12), (11, 12), (12, 12), (13, 12), (14, 12), (9, 13), (10, 13), (11, 13), (12, 13), (13, 13), (14, 13), (9, 14), (10, 14), (11, 14), (12, 14), (13, 14), (14, 14), (9, 15), (10, 15), (11, 15), (12, 15), (13, 15), (14, 15), (15, 0), (16, 0), (17, 0), (18, 0), (19, 0), (20, 0), (21, 0), (22, 0), (23, 0), (24, 0), (25, 0), (26, 0), (27, 0), (28, 0), (29, 0), (30, 0), (31, 0)]
theorem xInv_all : ((List.range 32).all fun r => (List.range (XN r)).all fun i => decide (xInvL[XA r i]? = some (r, i))) = true := by decide +kernel
theorem xN_lt {r i : Nat} (h : i < XN r) : r < 32 := by
  rcases Nat.lt_or_ge r 32 with q | q
  · exact q
  · exfalso
    have : XN r = 0 := by
      unfold XN
      split <;> first | rfl | omega
    omega
theorem xInv_at {r i : Nat} (h : i < XN r) : xInvL[XA r i]? = some (r, i) := by
  have h1 := List.all_eq_true.mp (List.all_eq_true.mp xInv_all r (List.mem_range.mpr (xN_lt h))) i (List.mem_range.mpr h)
  exact of_decide_eq_true h1
theorem xInj : XInj XA XN := fun r i r' i' h h' he => by
  have h1 := xInv_at h
  rw [he, xInv_at h'] at h1
  have h2 := Option.some.inj h1
  exact ⟨(congrArg Prod.fst h2).symm, (congrArg Prod.snd h2).symm⟩
def xtys (dA : Nat → ClassId) : List (ClassId × FieldType) := [(dA 0, .int), (dA 1, .boolean), (dA 2, .long), (dA 3, .array .int), (dA 4, .object "LoadChecks$Vehicle")]
def xT : List Cond := lw_tbl.filter x_goodW
def xStr : List (String × Nat × String) := [("LoadChecks", 219, "no such kind"), ("LoadChecks", 225, "outside its range"), ("LoadChecks", 56, "no room for one more vehicle"), ("LoadChecks", 217, "no such vehicle"), ("LoadChecks", 221, "no such cupboard"), ("LoadChecks", 86, "the cupboard is not empty"), ("LoadChecks", 223, "no such item"), ("LoadChecks", 99, "a vehicle or the stock has some of the old weight"), ("LoadChecks", 105, "no room in stock"), ("LoadChecks", 230, "an axle would be beyond its limit"), ("LoadChecks", 232, "no room in the cupboard"), ("LoadChecks", 228, "there are not so many"), ("LoadChecks", 137, "a vehicle swaps with another one"), ("LoadChecks", 153, "the seal is so already"), ("LoadChecks", 188, "below the first"), ("LoadChecks", 193, "nothing is needed"), ("LoadChecks", 196, "no such number of an axle"), ("LoadChecks", 212, "no such row or number of it")]
end
section
/-! the contracts' form -/
def XWs (D : va_G) (dA : Nat → ClassId) (s0 : State) (σ : XS) (H : Heap) : Prop := XW D vwCl XA XN (xB s0) (XE dA (xB s0) σ) H
def xAm (s0 : State) : Nat → Prop := fun q => xB s0 ≤ q
theorem xA_in (s0 : State) (r i : Nat) : xAm s0 (xB s0 + XA r i) := Nat.le_add_right _ _
/-- what is fixed from the law's start s0 on -/
def XS0 (l : Launch) (s0 : State) (A0 : Array Value) (D : va_G) (dA : Nat → ClassId) : Prop :=
  l.flags = pinnedFlags ++ [noTraceFlag] ∧ (∀ w ∈ lw_tbl, w.before A0 s0 = true) ∧ va_K D vwCl (xtys dA) s0 ∧ (∀ q ∈ xStr, ∃ a, vk_R q.1 q.2.1 q.2.2 a s0) ∧ ∀ w ∈ flatC (Jvm.Cond.and given_1 narrow_1), w.before A0 s0 = true
def XP (D : va_G) (dA : Nat → ClassId) (s0 : State) (σ : XS) (av : List Value) : Array Value → State → Prop := fun v U => v = av.toArray ∧ XWs D dA s0 σ U.heap ∧ XO s0 U U.heap
theorem xp_blind {D : va_G} {dA : Nat → ClassId} {s0 : State} {σ : XS} {av : List Value} : FrameBlind (XP D dA s0 σ av) := fun _ _ _ _ h => ⟨h.1, h.2.1, h.2.2⟩
def XQp {α : Type} (vw : α → Option Value) (res : α ⊕ String) : Array Value → State → Outcome → State → Prop := fun _ st o t =>
  (∃ v, res = .inl v ∧ o = .returned (vw v) ∧ t.heap = st.heap) ∨ (∃ (E : String) (x : Addr), res = .inr E ∧ o = .threw x ∧ XH E x t.heap st ∧ XExt st.heap t.heap)
def XQs (D : va_G) (dA : Nat → ClassId) (s0 : State) {α : Type} (vw : α → Option Value) (res : (α × XS) ⊕ String) : Array Value → State → Outcome → State → Prop := fun _ st o t =>
  (∃ v σ, res = .inl (v, σ) ∧ o = .returned (vw v) ∧ XWs D dA s0 σ t.heap ∧ XExt s0.heap t.heap) ∨ (∃ (E : String) (x : Addr), res = .inr E ∧ o = .threw x ∧ XH E x t.heap st ∧ XExt st.heap t.heap)
def xv_i (v : Int32) : Option Value := some (.int v)
def xv_l (v : Int64) : Option Value := some (.long v)
def xv_v (_ : Unit) : Option Value := none
def xv_r (s0 : State) (r : Nat) (i : Nat) : Option Value := some (.ref (xB s0 + XA r i))
theorem xs_cw {l : Launch} {s0 s : State} {A0 : Array Value} {D : va_G} {dA : Nat → ClassId} {y : MethodName} {bytes : ByteArray} {maxL : Nat} {ret : Option FieldType} (h0 : XS0 l s0 A0 D dA) (hW0 : s0.WarmedH s.vm) (hmem : Cond.code y bytes maxL ret ∈ lw_tbl) :
    ∀ (a : Array Value) (U : State), s.WarmedH U.vm → (Cond.code y bytes maxL ret).before a U = true ∧ XCode y maxL U := fun a U hW => by
  have h : (Cond.code y bytes maxL ret).before a U = true := x_word rfl rfl (State.WarmedH.trans hW0 hW) (h0.2.1 _ hmem)
  exact ⟨h, x_code h⟩
theorem xs_cwW {l : Launch} {s0 s : State} {A0 : Array Value} {D : va_G} {dA : Nat → ClassId} {y : MethodName} {bytes : ByteArray} {maxL : Nat} {ret : Option FieldType} {hh : List (Nat × Nat × Nat × Nat)} (h0 : XS0 l s0 A0 D dA) (hW0 : s0.WarmedH s.vm) (hmem : Cond.codeWith y bytes maxL ret hh ∈ lw_tbl) :
    ∀ (a : Array Value) (U : State), s.WarmedH U.vm → (Cond.codeWith y bytes maxL ret hh).before a U = true ∧ XCode y maxL U := fun a U hW => by
  have h : (Cond.codeWith y bytes maxL ret hh).before a U = true := x_word rfl rfl (State.WarmedH.trans hW0 hW) (h0.2.1 _ hmem)
  exact ⟨h, x_codeW h⟩
/-- any word of the tables, at a later state -/
theorem xs_w {l : Launch} {s0 s : State} {A0 args : Array Value} {D : va_G} {dA : Nat → ClassId} (h0 : XS0 l s0 A0 D dA) (hW0 : s0.WarmedH s.vm) : ∀ w ∈ xT, w.before args s = true := fun w hw => by
  obtain ⟨h1, h2⟩ := List.mem_filter.mp hw
  have h3 : w.onTables = true ∧ w.keepsFace = true := by simpa [x_goodW] using h2
  exact x_word h3.1 h3.2 hW0 (h0.2.1 w h1)
theorem xs_K {l : Launch} {s0 s : State} {A0 : Array Value} {D : va_G} {dA : Nat → ClassId} (h0 : XS0 l s0 A0 D dA) (hW0 : s0.WarmedH s.vm) : va_K D vwCl (xtys dA) s := va_K.moved hW0.alike h0.2.2.1
theorem xs_N {l : Launch} {s0 s : State} {A0 args : Array Value} {D : va_G} {dA : Nat → ClassId} (h0 : XS0 l s0 A0 D dA) (hW0 : s0.WarmedH s.vm) {a : String} {i : Nat} {b n d h : String} (hm : Cond.fieldLinkNest a i b n d h ∈ lw_tbl) : (Cond.fieldLinkNest a i b n d h).before args s = true :=
  va_Nw.use rfl (va_Nw.warmF hW0 (va_Nw.of rfl (h0.2.1 _ hm)))
theorem xs_M {l : Launch} {s0 s : State} {A0 args : Array Value} {D : va_G} {dA : Nat → ClassId} (h0 : XS0 l s0 A0 D dA) (hW0 : s0.WarmedH s.vm) {a : String} {i : Nat} {x : MethodName} {h : String} (hm : Cond.methodLinkNest a i x h ∈ lw_tbl) : (Cond.methodLinkNest a i x h).before args s = true :=
  va_Nw.use rfl (va_Nw.warmM hW0 (va_Nw.of rfl (h0.2.1 _ hm)))
theorem xs_str {l : Launch} {s0 s : State} {A0 : Array Value} {D : va_G} {dA : Nat → ClassId} (h0 : XS0 l s0 A0 D dA) (hW0 : s0.WarmedH s.vm) {own tx : String} {k : Nat} (hm : (own, k, tx) ∈ xStr) : ∃ a, vk_R own k tx a s := by
  obtain ⟨a, h⟩ := h0.2.2.2.1 _ hm
  exact ⟨a, vk_R.warm hW0 h⟩
theorem vp_lt {j : Int32} {n : Nat} (h : vp_in j n) : j.toNatClampNeg < n := Nat.not_le.mp fun q => h (Or.inr q)
section XK6
variable {p : Program} {l : Launch} {e : Env} {R : Room} {s s0 : State} {m : MethodId} {args : Array Value} {below : List Frame} {meth : Method} {c : Code} {H : Heap} {locs : List Loc} {cells slots : Nat} {Q : State → Prop} {D : va_G} {dA : Nat → ClassId} {σ : XS}
theorem xo_S (hS : va_S (xAm s0) s0.heap H locs) : XExt s0.heap H := ⟨hS.1, fun q hq => hS.2.1 q hq (Nat.not_le.mpr hq)⟩
theorem xo_S0 (hO : XO s0 s s.heap) : va_S (xAm s0) s0.heap s.heap [] := ⟨hO.2.1, fun q hq _ => hO.2.2 q hq, fun q h => by cases h⟩
/-- a call of a method that writes nothing -/
theorem xc_p {α : Type} {vw : α → Option Value} {res : α ⊕ String} {y : MethodName} {av rest st0 : List Value} {pc : Nat} {ls : Array Slot} {ig : Instr} {rm : Room} {mc ms maxL : Nat} {cw : Cond}
    (I : XInv p l e R s m args below meth c H locs cells slots (F0 m pc ls st0) rest y av) (hM : XMet l y [cw] rm (XP D dA s0 σ av) (XQp vw res) mc ms (fun _ => False))
    (hcw : ∀ (a : Array Value) (U : State), s.WarmedH U.vm → cw.before a U = true ∧ XCode y maxL U) (hini : (Cond.initialized y.cls).before args s = true)
    (hr : rm.cells = mc ∧ rm.slots = ms ∧ rm.frames + 1 ≤ R.frames ∧ 8 + (maxL + 11) + rm.locals ≤ R.locals)
    (hsize : ls.size = c.maxLocals) (hdg : decode c.code pc = .ok (ig, 3)) (hWt : (rest.map fun v => v.category).sum ≤ 8) (hroom : cells + mc ≤ R.cells ∧ slots + ms ≤ R.slots)
    (hX : XWs D dA s0 σ H) (hO : XO s0 s H)
    (kr : ∀ v, res = .inl v → W p l e R s m args below meth c H locs (cells + mc) (slots + ms) Q (F0 m (pc + 3) ls ((vw v).toList ++ rest)))
    (kt : ∀ (E : String) (x : Addr) (H1 : Heap), res = .inr E → XH E x H1 s → XExt H H1 → XT p l e R s m args below meth c H1 locs (cells + mc) (slots + ms) Q (F0 m pc ls rest) x) :
    W p l e R s m args below meth c H locs cells slots Q (F0 m pc ls st0) := by
  refine x_go I (x_back hM xp_blind hr.1 hr.2.1 hr.2.2.1 hr.2.2.2 (fun w hw a' U hW => ?_) (fun U mk hW hn => ?_) (fun a' U hW => x_word rfl rfl hW hini)) hsize hdg hWt hroom (fun U hU hW => ⟨rfl, by rw [hU]; exact hX, State.WarmedH.trans hO.1 hW, by rw [hU]; exact hO.2⟩) ?_ ?_
  · cases List.mem_singleton.mp hw
    exact (hcw a' U hW).1
  · obtain ⟨mk', methY, cY, h1, h2, h3, h4, -⟩ := (hcw #[] U hW).2
    cases hn.symm.trans h1
    exact ⟨methY, cY, h2, h3, h4⟩
  · intro v st₀ t L h1 h2 h3 hq hL
    have hL0 : L = [] := List.eq_nil_iff_forall_not_mem.mpr (fun q hq => hL q hq)
    subst hL0
    rw [List.append_nil]
    rcases hq with ⟨v', e1, e2, e3⟩ | ⟨E, x, -, e2, -⟩
    · cases e2
      rw [e3, h1]
      exact kr v' e1
    · cases e2
  · intro x st₀ t L h1 h2 h3 hq hL
    have hL0 : L = [] := List.eq_nil_iff_forall_not_mem.mpr (fun q hq => hL q hq)
    subst hL0
    rw [List.append_nil]
    rcases hq with ⟨v', -, e2, -⟩ | ⟨E, x', e1, e2, e3, e4⟩
    · cases e2
    · cases e2
      exact kt E x t.heap e1 (e3.moved h2.alike.symm) (by rw [← h1]; exact e4)
theorem xc_f {α : Type} {vw : α → Option Value} {v : α} {y : MethodName} {av rest st0 : List Value} {pc : Nat} {ls : Array Slot} {ig : Instr} {rm : Room} {maxL : Nat} {cw : Cond}
    (I : XInv p l e R s m args below meth c H locs cells slots (F0 m pc ls st0) rest y av) (hM : XMet l y [cw] rm (XP D dA s0 σ av) (XQp vw (.inl v)) 0 0 (fun _ => False))
    (hcw : ∀ (a : Array Value) (U : State), s.WarmedH U.vm → cw.before a U = true ∧ XCode y maxL U) (hini : (Cond.initialized y.cls).before args s = true)
    (hr : rm.cells = 0 ∧ rm.slots = 0 ∧ rm.frames + 1 ≤ R.frames ∧ 8 + (maxL + 11) + rm.locals ≤ R.locals)
    (hsize : ls.size = c.maxLocals) (hdg : decode c.code pc = .ok (ig, 3)) (hWt : (rest.map fun v => v.category).sum ≤ 8) (hroom : cells ≤ R.cells ∧ slots ≤ R.slots)
    (hX : XWs D dA s0 σ H) (hO : XO s0 s H)
    (kr : W p l e R s m args below meth c H locs cells slots Q (F0 m (pc + 3) ls ((vw v).toList ++ rest))) :
    W p l e R s m args below meth c H locs cells slots Q (F0 m pc ls st0) :=
  xc_p I hM hcw hini hr hsize hdg hWt hroom hX hO (fun v' h => by cases h; exact kr) (fun E x H1 h => by cases h)
/-- a call of a method that may write and may throw -/
theorem xc_s {α : Type} {vw : α → Option Value} {res : (α × XS) ⊕ String} {y : MethodName} {av rest st0 : List Value} {pc : Nat} {ls : Array Slot} {ig : Instr} {rm : Room} {mc ms maxL : Nat} {cw : Cond}
    (I : XInv p l e R s m args below meth c H locs cells slots (F0 m pc ls st0) rest y av) (hM : XMet l y [cw] rm (XP D dA s0 σ av) (XQs D dA s0 vw res) mc ms (xAm s0))
    (hcw : ∀ (a : Array Value) (U : State), s.WarmedH U.vm → cw.before a U = true ∧ XCode y maxL U) (hini : (Cond.initialized y.cls).before args s = true)
    (hr : rm.cells = mc ∧ rm.slots = ms ∧ rm.frames + 1 ≤ R.frames ∧ 8 + (maxL + 11) + rm.locals ≤ R.locals)
    (hsize : ls.size = c.maxLocals) (hdg : decode c.code pc = .ok (ig, 3)) (hWt : (rest.map fun v => v.category).sum ≤ 8) (hroom : cells + mc ≤ R.cells ∧ slots + ms ≤ R.slots)
    (hX : XWs D dA s0 σ H) (hW0 : s0.WarmedH s.vm) (hS : va_S (xAm s0) s0.heap H locs)
    (kr : ∀ (v : α) (σ1 : XS) (H1 : Heap) (locs1 : List Loc), res = .inl (v, σ1) → XWs D dA s0 σ1 H1 → va_S (xAm s0) s0.heap H1 locs1 → W p l e R s m args below meth c H1 locs1 (cells + mc) (slots + ms) Q (F0 m (pc + 3) ls ((vw v).toList ++ rest)))
    (kt : ∀ (E : String) (x : Addr) (H1 : Heap) (locs1 : List Loc), res = .inr E → XH E x H1 s → XExt H H1 → va_S (xAm s0) s0.heap H1 locs1 → XT p l e R s m args below meth c H1 locs1 (cells + mc) (slots + ms) Q (F0 m pc ls rest) x) :
    W p l e R s m args below meth c H locs cells slots Q (F0 m pc ls st0) := by
  refine x_go I (x_back hM xp_blind hr.1 hr.2.1 hr.2.2.1 hr.2.2.2 (fun w hw a' U hW => ?_) (fun U mk hW hn => ?_) (fun a' U hW => x_word rfl rfl hW hini)) hsize hdg hWt hroom (fun U hU hW => ⟨rfl, by rw [hU]; exact hX, State.WarmedH.trans hW0 hW, by rw [hU]; exact xo_S hS⟩) ?_ ?_
  · cases List.mem_singleton.mp hw
    exact (hcw a' U hW).1
  · obtain ⟨mk', methY, cY, h1, h2, h3, h4, -⟩ := (hcw #[] U hW).2
    cases hn.symm.trans h1
    exact ⟨methY, cY, h2, h3, h4⟩
  · intro v st₀ t L h1 h2 h3 hq hL
    rcases hq with ⟨v', σ1, e1, e2, e3, e4⟩ | ⟨E, x, -, e2, -⟩
    · cases e2
      refine kr v' σ1 t.heap (locs ++ L) e1 e3 ⟨e4.1, fun q hq _ => e4.2 q hq, fun q hq => ?_⟩
      rcases List.mem_append.mp hq with h | h
      · exact hS.2.2 q h
      · exact hL q h
    · cases e2
  · intro x st₀ t L h1 h2 h3 hq hL
    rcases hq with ⟨v', σ1, -, e2, -⟩ | ⟨E, x', e1, e2, e3, e4⟩
    · cases e2
    · cases e2
      rw [h1] at e4
      have e5 := (xo_S hS).tr e4
      refine kt E x t.heap (locs ++ L) e1 (e3.moved h2.alike.symm) e4 ⟨e5.1, fun q hq _ => e5.2 q hq, fun q hq => ?_⟩
      rcases List.mem_append.mp hq with h | h
      · exact hS.2.2 q h
      · exact hL q h
variable {cc : ByteArray} {pc : Nat} {ls : Array Slot} {rest : List Value}
/-! ends -/
theorem xr_i (hexec : p.tables.exec = Jvm.exec) (hb : c.code = cc) (hr : meth.sig.returnType = some .int) (hlocks : meth.locks = false) {v : Int32} (hdg : decode cc pc = .ok (.ireturn, 1)) : W p l e R s m args below meth c s.heap [] cells slots (XMQ below (XQp xv_i (.inl v)) args s cells slots (fun _ => False)) (F0 m pc ls [.int v]) :=
  x_mono x_ofMQ (W.iret hexec hb hr (fun t ht hW => Or.inl ⟨v, rfl, rfl, ht⟩) (fun q h => by cases h) hdg hlocks)
theorem xr_z (hexec : p.tables.exec = Jvm.exec) (hb : c.code = cc) (hr : meth.sig.returnType = some .boolean) (hlocks : meth.locks = false) {v : Int32} (hn : narrow .boolean (.int v) = .int v) (hdg : decode cc pc = .ok (.ireturn, 1)) : W p l e R s m args below meth c s.heap [] cells slots (XMQ below (XQp xv_i (.inl v)) args s cells slots (fun _ => False)) (F0 m pc ls [.int v]) :=
  x_mono x_ofMQ (W.zret hexec hb hr hn (fun t ht hW => Or.inl ⟨v, rfl, rfl, ht⟩) (fun q h => by cases h) hdg hlocks)
theorem xr_l (hexec : p.tables.exec = Jvm.exec) (hb : c.code = cc) (hr : meth.sig.returnType = some .long) (hlocks : meth.locks = false) {v : Int64} (hdg : decode cc pc = .ok (.lreturn, 1)) : W p l e R s m args below meth c s.heap [] cells slots (XMQ below (XQp xv_l (.inl v)) args s cells slots (fun _ => False)) (F0 m pc ls [.long v]) :=
  x_mono x_ofMQ (W.lret hexec hb hr (fun t ht hW => Or.inl ⟨v, rfl, rfl, ht⟩) (fun q h => by cases h) hdg hlocks)
theorem xr_v (hexec : p.tables.exec = Jvm.exec) (hb : c.code = cc) (hr : meth.sig.returnType = none) (hlocks : meth.locks = false) (hdg : decode cc pc = .ok (.return_, 1)) : W p l e R s m args below meth c s.heap [] cells slots (XMQ below (XQp xv_v (.inl ())) args s cells slots (fun _ => False)) (F0 m pc ls []) :=
  x_mono x_ofMQ (W.vret hexec hb hr (fun t ht hW => Or.inl ⟨(), rfl, rfl, ht⟩) (fun q h => by cases h) hdg hlocks)
theorem xr_a (hexec : p.tables.exec = Jvm.exec) (hb : c.code = cc) {rt : FieldType} (hr : meth.sig.returnType = some rt) (hrt : (∃ n, rt = .object n) ∨ ∃ t, rt = .array t) (hlocks : meth.locks = false) {r i : Nat} (hdg : decode cc pc = .ok (.areturn, 1)) : W p l e R s m args below meth c s.heap [] cells slots (XMQ below (XQp (xv_r s0 r) (.inl i)) args s cells slots (fun _ => False)) (F0 m pc ls [.ref (xB s0 + XA r i)]) :=
  x_mono x_ofMQ (W.aret hexec hb hr hrt (Or.inr ⟨_, rfl⟩) (fun t ht hW => Or.inl ⟨i, rfl, rfl, ht⟩) (fun q h => by cases h) hdg hlocks)
theorem xs_i (hexec : p.tables.exec = Jvm.exec) (hb : c.code = cc) (hr : meth.sig.returnType = some .int) (hlocks : meth.locks = false) (hX : XWs D dA s0 σ H) (hS : va_S (xAm s0) s0.heap H locs) {v : Int32} (hdg : decode cc pc = .ok (.ireturn, 1)) : W p l e R s m args below meth c H locs cells slots (XMQ below (XQs D dA s0 xv_i (.inl (v, σ))) args s cells slots (xAm s0)) (F0 m pc ls [.int v]) :=
  x_mono x_ofMQ (W.iret hexec hb hr (fun t ht hW => Or.inl ⟨v, σ, rfl, rfl, by rw [ht]; exact hX, by rw [ht]; exact xo_S hS⟩) hS.2.2 hdg hlocks)
theorem xs_v (hexec : p.tables.exec = Jvm.exec) (hb : c.code = cc) (hr : meth.sig.returnType = none) (hlocks : meth.locks = false) (hX : XWs D dA s0 σ H) (hS : va_S (xAm s0) s0.heap H locs) (hdg : decode cc pc = .ok (.return_, 1)) : W p l e R s m args below meth c H locs cells slots (XMQ below (XQs D dA s0 xv_v (.inl ((), σ))) args s cells slots (xAm s0)) (F0 m pc ls []) :=
  x_mono x_ofMQ (W.vret hexec hb hr (fun t ht hW => Or.inl ⟨(), σ, rfl, rfl, by rw [ht]; exact hX, by rw [ht]; exact xo_S hS⟩) hS.2.2 hdg hlocks)
/-- what a callee threw is thrown on: a method that writes nothing -/
theorem xt_p {α : Type} {vw : α → Option Value} {E : String} {x : Addr} {H1 : Heap} {st : List Value} (hlocks : meth.locks = false) (hnt : c.exceptionTable.isEmpty = true) (hE : XH E x H1 s) (hext : XExt s.heap H1) : XT p l e R s m args below meth c H1 [] cells slots (XMQ below (XQp vw (.inr E)) args s cells slots (fun _ => False)) (F0 m pc ls st) x :=
  x_out hlocks (covers_of_empty hnt _) (fun t ht hW => Or.inr ⟨E, x, rfl, rfl, by rw [ht]; exact hE, by rw [ht]; exact hext⟩) (fun q h => by cases h)
theorem xt_s {α : Type} {vw : α → Option Value} {E : String} {x : Addr} {H1 : Heap} {st : List Value} (hlocks : meth.locks = false) (hnt : c.exceptionTable.isEmpty = true) (hE : XH E x H1 s) (hext : XExt s.heap H1) (hf : ∀ q ∈ locs, xAm s0 q.base) : XT p l e R s m args below meth c H1 locs cells slots (XMQ below (XQs D dA s0 vw (.inr E)) args s cells slots (xAm s0)) (F0 m pc ls st) x :=
  x_out hlocks (covers_of_empty hnt _) (fun t ht hW => Or.inr ⟨E, x, rfl, rfl, by rw [ht]; exact hE, by rw [ht]; exact hext⟩) hf
/-- a W with XMQ at lower counts -/
theorem xw_wid {Qc : Array Value → State → Outcome → State → Prop} {free : Addr → Prop} {g : JFrame} {k n : Nat} (h1 : cells ≤ k) (h2 : slots ≤ n) (kk : W p l e R s m args below meth c H locs k n Q g) : W p l e R s m args below meth c H locs cells slots Q g := W.widen h1 h2 kk
theorem xt_wid {g : JFrame} {x : Addr} {k n : Nat} (h1 : cells ≤ k) (h2 : slots ≤ n) (kk : XT p l e R s m args below meth c H locs k n Q g x) : XT p l e R s m args below meth c H locs cells slots Q g x := fun T hT X => kk T hT (stand_widen X h1 h2)
end XK6
end
section
theorem m_1 : Cond.selects "LoadChecks" ⟨"LoadChecks", "knownVehicle", "(I)LLoadChecks$Vehicle;"⟩ ⟨"LoadChecks", "knownVehicle", "(I)LLoadChecks$Vehicle;"⟩ ∈ lw_tbl := List.mem_of_getElem? (i := 1) (by decide +kernel)
theorem w_1 : Cond.selects "LoadChecks" ⟨"LoadChecks", "knownVehicle", "(I)LLoadChecks$Vehicle;"⟩ ⟨"LoadChecks", "knownVehicle", "(I)LLoadChecks$Vehicle;"⟩ ∈ xT := List.mem_filter.mpr ⟨m_1, by decide +kernel⟩
theorem m_2 : Cond.selects "LoadChecks$Vehicle" ⟨"LoadChecks$Vehicle", "isEmpty", "(I)Z"⟩ ⟨"LoadChecks$Vehicle", "isEmpty", "(I)Z"⟩ ∈ lw_tbl := List.mem_of_getElem? (i := 2) (by decide +kernel)
theorem w_2 : Cond.selects "LoadChecks$Vehicle" ⟨"LoadChecks$Vehicle", "isEmpty", "(I)Z"⟩ ⟨"LoadChecks$Vehicle", "isEmpty", "(I)Z"⟩ ∈ xT := List.mem_filter.mpr ⟨m_2, by decide +kernel⟩
theorem m_3 : Cond.selects "LoadChecks" ⟨"LoadChecks", "isAnywhere", "(I)Z"⟩ ⟨"LoadChecks", "isAnywhere", "(I)Z"⟩ ∈ lw_tbl := List.mem_of_getElem? (i := 3) (by decide +kernel)
theorem w_3 : Cond.selects "LoadChecks" ⟨"LoadChecks", "isAnywhere", "(I)Z"⟩ ⟨"LoadChecks", "isAnywhere", "(I)Z"⟩ ∈ xT := List.mem_filter.mpr ⟨m_3, by decide +kernel⟩
theorem m_4 : Cond.selects "LoadChecks$Vehicle" ⟨"LoadChecks$Vehicle", "carries", "(I)Z"⟩ ⟨"LoadChecks$Vehicle", "carries", "(I)Z"⟩ ∈ lw_tbl := List.mem_of_getElem? (i := 4) (by decide +kernel)
theorem w_4 : Cond.selects "LoadChecks$Vehicle" ⟨"LoadChecks$Vehicle", "carries", "(I)Z"⟩ ⟨"LoadChecks$Vehicle", "carries", "(I)Z"⟩ ∈ xT := List.mem_filter.mpr ⟨m_4, by decide +kernel⟩
theorem m_5 : Cond.selects "LoadChecks" ⟨"LoadChecks", "requireBearable", "(LLoadChecks$Vehicle;II)V"⟩ ⟨"LoadChecks", "requireBearable", "(LLoadChecks$Vehicle;II)V"⟩ ∈ lw_tbl := List.mem_of_getElem? (i := 5) (by decide +kernel)
theorem w_5 : Cond.selects "LoadChecks" ⟨"LoadChecks", "requireBearable", "(LLoadChecks$Vehicle;II)V"⟩ ⟨"LoadChecks", "requireBearable", "(LLoadChecks$Vehicle;II)V"⟩ ∈ xT := List.mem_filter.mpr ⟨m_5, by decide +kernel⟩
theorem m_6 : Cond.selects "LoadChecks$Vehicle" ⟨"LoadChecks$Vehicle", "bears", "(III)Z"⟩ ⟨"LoadChecks$Vehicle", "bears", "(III)Z"⟩ ∈ lw_tbl := List.mem_of_getElem? (i := 6) (by decide +kernel)
theorem w_6 : Cond.selects "LoadChecks$Vehicle" ⟨"LoadChecks$Vehicle", "bears", "(III)Z"⟩ ⟨"LoadChecks$Vehicle", "bears", "(III)Z"⟩ ∈ xT := List.mem_filter.mpr ⟨m_6, by decide +kernel⟩
theorem m_7 : Cond.selects "LoadChecks$Vehicle" ⟨"LoadChecks$Vehicle", "frontMoment", "()J"⟩ ⟨"LoadChecks$Vehicle", "frontMoment", "()J"⟩ ∈ lw_tbl := List.mem_of_getElem? (i := 7) (by decide +kernel)
theorem w_7 : Cond.selects "LoadChecks$Vehicle" ⟨"LoadChecks$Vehicle", "frontMoment", "()J"⟩ ⟨"LoadChecks$Vehicle", "frontMoment", "()J"⟩ ∈ xT := List.mem_filter.mpr ⟨m_7, by decide +kernel⟩
theorem m_8 : Cond.selects "LoadChecks$Vehicle" ⟨"LoadChecks$Vehicle", "exceeds", "(JI)Z"⟩ ⟨"LoadChecks$Vehicle", "exceeds", "(JI)Z"⟩ ∈ lw_tbl := List.mem_of_getElem? (i := 8) (by decide +kernel)
theorem w_8 : Cond.selects "LoadChecks$Vehicle" ⟨"LoadChecks$Vehicle", "exceeds", "(JI)Z"⟩ ⟨"LoadChecks$Vehicle", "exceeds", "(JI)Z"⟩ ∈ xT := List.mem_filter.mpr ⟨m_8, by decide +kernel⟩
theorem m_9 : Cond.selects "LoadChecks$Vehicle" ⟨"LoadChecks$Vehicle", "rearMoment", "()J"⟩ ⟨"LoadChecks$Vehicle", "rearMoment", "()J"⟩ ∈ lw_tbl := List.mem_of_getElem? (i := 9) (by decide +kernel)
theorem w_9 : Cond.selects "LoadChecks$Vehicle" ⟨"LoadChecks$Vehicle", "rearMoment", "()J"⟩ ⟨"LoadChecks$Vehicle", "rearMoment", "()J"⟩ ∈ xT := List.mem_filter.mpr ⟨m_9, by decide +kernel⟩
theorem m_10 : Cond.selects "LoadChecks$Vehicle" ⟨"LoadChecks$Vehicle", "load", "(III)V"⟩ ⟨"LoadChecks$Vehicle", "load", "(III)V"⟩ ∈ lw_tbl := List.mem_of_getElem? (i := 10) (by decide +kernel)
theorem w_10 : Cond.selects "LoadChecks$Vehicle" ⟨"LoadChecks$Vehicle", "load", "(III)V"⟩ ⟨"LoadChecks$Vehicle", "load", "(III)V"⟩ ∈ xT := List.mem_filter.mpr ⟨m_10, by decide +kernel⟩
theorem m_11 : Cond.selects "LoadChecks$Vehicle" ⟨"LoadChecks$Vehicle", "lackOf", "(II)I"⟩ ⟨"LoadChecks$Vehicle", "lackOf", "(II)I"⟩ ∈ lw_tbl := List.mem_of_getElem? (i := 11) (by decide +kernel)
theorem w_11 : Cond.selects "LoadChecks$Vehicle" ⟨"LoadChecks$Vehicle", "lackOf", "(II)I"⟩ ⟨"LoadChecks$Vehicle", "lackOf", "(II)I"⟩ ∈ xT := List.mem_filter.mpr ⟨m_11, by decide +kernel⟩
theorem m_12 : Cond.selects "LoadChecks$Rows" ⟨"LoadChecks$Rows", "add", "(III)V"⟩ ⟨"LoadChecks$Rows", "add", "(III)V"⟩ ∈ lw_tbl := List.mem_of_getElem? (i := 12) (by decide +kernel)
theorem w_12 : Cond.selects "LoadChecks$Rows" ⟨"LoadChecks$Rows", "add", "(III)V"⟩ ⟨"LoadChecks$Rows", "add", "(III)V"⟩ ∈ xT := List.mem_filter.mpr ⟨m_12, by decide +kernel⟩
theorem m_13 : Cond.selects "LoadChecks$Vehicle" ⟨"LoadChecks$Vehicle", "missingCell", "([II)I"⟩ ⟨"LoadChecks$Vehicle", "missingCell", "([II)I"⟩ ∈ lw_tbl := List.mem_of_getElem? (i := 13) (by decide +kernel)
theorem w_13 : Cond.selects "LoadChecks$Vehicle" ⟨"LoadChecks$Vehicle", "missingCell", "([II)I"⟩ ⟨"LoadChecks$Vehicle", "missingCell", "([II)I"⟩ ∈ xT := List.mem_filter.mpr ⟨m_13, by decide +kernel⟩
theorem m_14 : Cond.selects "LoadChecks$Vehicle" ⟨"LoadChecks$Vehicle", "hasBrokenSeal", "()Z"⟩ ⟨"LoadChecks$Vehicle", "hasBrokenSeal", "()Z"⟩ ∈ lw_tbl := List.mem_of_getElem? (i := 14) (by decide +kernel)
theorem w_14 : Cond.selects "LoadChecks$Vehicle" ⟨"LoadChecks$Vehicle", "hasBrokenSeal", "()Z"⟩ ⟨"LoadChecks$Vehicle", "hasBrokenSeal", "()Z"⟩ ∈ xT := List.mem_filter.mpr ⟨m_14, by decide +kernel⟩
theorem m_15 : Cond.selects "LoadChecks$Vehicle" ⟨"LoadChecks$Vehicle", "needsPastItem", "([II)Z"⟩ ⟨"LoadChecks$Vehicle", "needsPastItem", "([II)Z"⟩ ∈ lw_tbl := List.mem_of_getElem? (i := 15) (by decide +kernel)
theorem w_15 : Cond.selects "LoadChecks$Vehicle" ⟨"LoadChecks$Vehicle", "needsPastItem", "([II)Z"⟩ ⟨"LoadChecks$Vehicle", "needsPastItem", "([II)Z"⟩ ∈ xT := List.mem_filter.mpr ⟨m_15, by decide +kernel⟩
theorem m_16 : Cond.selects "LoadChecks$Vehicle" ⟨"LoadChecks$Vehicle", "needsWeakItem", "([I[I)Z"⟩ ⟨"LoadChecks$Vehicle", "needsWeakItem", "([I[I)Z"⟩ ∈ lw_tbl := List.mem_of_getElem? (i := 16) (by decide +kernel)
theorem w_16 : Cond.selects "LoadChecks$Vehicle" ⟨"LoadChecks$Vehicle", "needsWeakItem", "([I[I)Z"⟩ ⟨"LoadChecks$Vehicle", "needsWeakItem", "([I[I)Z"⟩ ∈ xT := List.mem_filter.mpr ⟨m_16, by decide +kernel⟩
theorem m_17 : Cond.selects "LoadChecks$Vehicle" ⟨"LoadChecks$Vehicle", "isBeyond", "()Z"⟩ ⟨"LoadChecks$Vehicle", "isBeyond", "()Z"⟩ ∈ lw_tbl := List.mem_of_getElem? (i := 17) (by decide +kernel)
theorem w_17 : Cond.selects "LoadChecks$Vehicle" ⟨"LoadChecks$Vehicle", "isBeyond", "()Z"⟩ ⟨"LoadChecks$Vehicle", "isBeyond", "()Z"⟩ ∈ xT := List.mem_filter.mpr ⟨m_17, by decide +kernel⟩
theorem m_18 : Cond.selects "LoadChecks$Rows" ⟨"LoadChecks$Rows", "keeps", "(I)Z"⟩ ⟨"LoadChecks$Rows", "keeps", "(I)Z"⟩ ∈ lw_tbl := List.mem_of_getElem? (i := 18) (by decide +kernel)
theorem w_18 : Cond.selects "LoadChecks$Rows" ⟨"LoadChecks$Rows", "keeps", "(I)Z"⟩ ⟨"LoadChecks$Rows", "keeps", "(I)Z"⟩ ∈ xT := List.mem_filter.mpr ⟨m_18, by decide +kernel⟩
theorem m_19 : Cond.selects "LoadChecks$Rows" ⟨"LoadChecks$Rows", "number", "(II)I"⟩ ⟨"LoadChecks$Rows", "number", "(II)I"⟩ ∈ lw_tbl := List.mem_of_getElem? (i := 19) (by decide +kernel)
theorem w_19 : Cond.selects "LoadChecks$Rows" ⟨"LoadChecks$Rows", "number", "(II)I"⟩ ⟨"LoadChecks$Rows", "number", "(II)I"⟩ ∈ xT := List.mem_filter.mpr ⟨m_19, by decide +kernel⟩
theorem m_34 : (Cond.initialized "LoadChecks") ∈ lw_tbl := List.mem_of_getElem? (i := 34) (by decide +kernel)
theorem w_34 : (Cond.initialized "LoadChecks") ∈ xT := List.mem_filter.mpr ⟨m_34, by decide +kernel⟩
theorem m_35 : (Cond.initialized "LoadChecks$Rows") ∈ lw_tbl := List.mem_of_getElem? (i := 35) (by decide +kernel)
theorem w_35 : (Cond.initialized "LoadChecks$Rows") ∈ xT := List.mem_filter.mpr ⟨m_35, by decide +kernel⟩
theorem m_36 : (Cond.initialized "LoadChecks$Vehicle") ∈ lw_tbl := List.mem_of_getElem? (i := 36) (by decide +kernel)
theorem w_36 : (Cond.initialized "LoadChecks$Vehicle") ∈ xT := List.mem_filter.mpr ⟨m_36, by decide +kernel⟩
theorem m_42 : (Cond.initialized "java/lang/IllegalArgumentException") ∈ lw_tbl := List.mem_of_getElem? (i := 42) (by decide +kernel)
theorem w_42 : (Cond.initialized "java/lang/IllegalArgumentException") ∈ xT := List.mem_filter.mpr ⟨m_42, by decide +kernel⟩
theorem m_43 : (Cond.initialized "java/lang/IndexOutOfBoundsException") ∈ lw_tbl := List.mem_of_getElem? (i := 43) (by decide +kernel)
theorem w_43 : (Cond.initialized "java/lang/IndexOutOfBoundsException") ∈ xT := List.mem_filter.mpr ⟨m_43, by decide +kernel⟩
theorem m_44 : (Cond.initialized "java/lang/UnsupportedOperationException") ∈ lw_tbl := List.mem_of_getElem? (i := 44) (by decide +kernel)
theorem w_44 : (Cond.initialized "java/lang/UnsupportedOperationException") ∈ xT := List.mem_filter.mpr ⟨m_44, by decide +kernel⟩
theorem m_45 : (Cond.initialized "java/lang/IllegalStateException") ∈ lw_tbl := List.mem_of_getElem? (i := 45) (by decide +kernel)
theorem w_45 : (Cond.initialized "java/lang/IllegalStateException") ∈ xT := List.mem_filter.mpr ⟨m_45, by decide +kernel⟩
theorem m_46 : (Cond.initialized "java/lang/Math") ∈ lw_tbl := List.mem_of_getElem? (i := 46) (by decide +kernel)
theorem w_46 : (Cond.initialized "java/lang/Math") ∈ xT := List.mem_filter.mpr ⟨m_46, by decide +kernel⟩
theorem m_47 : (Cond.initialized "java/lang/ArithmeticException") ∈ lw_tbl := List.mem_of_getElem? (i := 47) (by decide +kernel)
theorem w_47 : (Cond.initialized "java/lang/ArithmeticException") ∈ xT := List.mem_filter.mpr ⟨m_47, by decide +kernel⟩
theorem m_66 : (Cond.fieldLink "LoadChecks$Rows" (9 : Nat) "LoadChecks$Rows" "numbers" "[I") ∈ lw_tbl := List.mem_of_getElem? (i := 66) (by decide +kernel)
theorem w_66 : (Cond.fieldLink "LoadChecks$Rows" (9 : Nat) "LoadChecks$Rows" "numbers" "[I") ∈ xT := List.mem_filter.mpr ⟨m_66, by decide +kernel⟩
theorem m_67 : (Cond.fieldLink "LoadChecks$Rows" (13 : Nat) "LoadChecks$Rows" "made" "J") ∈ lw_tbl := List.mem_of_getElem? (i := 67) (by decide +kernel)
theorem w_67 : (Cond.fieldLink "LoadChecks$Rows" (13 : Nat) "LoadChecks$Rows" "made" "J") ∈ xT := List.mem_filter.mpr ⟨m_67, by decide +kernel⟩
theorem m_82 : (Cond.fieldLink "LoadChecks$Vehicle" (9 : Nat) "LoadChecks$Vehicle" "places" "[I") ∈ lw_tbl := List.mem_of_getElem? (i := 82) (by decide +kernel)
theorem w_82 : (Cond.fieldLink "LoadChecks$Vehicle" (9 : Nat) "LoadChecks$Vehicle" "places" "[I") ∈ xT := List.mem_filter.mpr ⟨m_82, by decide +kernel⟩
theorem m_83 : (Cond.fieldLinkNest "LoadChecks" (89 : Nat) "LoadChecks$Vehicle" "places" "[I" "LoadChecks") ∈ lw_tbl := List.mem_of_getElem? (i := 83) (by decide +kernel)
theorem m_84 : (Cond.fieldLink "LoadChecks$Vehicle" (15 : Nat) "LoadChecks$Vehicle" "brokenSeals" "[Z") ∈ lw_tbl := List.mem_of_getElem? (i := 84) (by decide +kernel)
theorem w_84 : (Cond.fieldLink "LoadChecks$Vehicle" (15 : Nat) "LoadChecks$Vehicle" "brokenSeals" "[Z") ∈ xT := List.mem_filter.mpr ⟨m_84, by decide +kernel⟩
theorem m_85 : (Cond.fieldLinkNest "LoadChecks" (149 : Nat) "LoadChecks$Vehicle" "brokenSeals" "[Z" "LoadChecks") ∈ lw_tbl := List.mem_of_getElem? (i := 85) (by decide +kernel)
theorem m_86 : (Cond.fieldLink "LoadChecks$Vehicle" (19 : Nat) "LoadChecks$Vehicle" "counts" "[I") ∈ lw_tbl := List.mem_of_getElem? (i := 86) (by decide +kernel)
theorem w_86 : (Cond.fieldLink "LoadChecks$Vehicle" (19 : Nat) "LoadChecks$Vehicle" "counts" "[I") ∈ xT := List.mem_filter.mpr ⟨m_86, by decide +kernel⟩
theorem m_87 : (Cond.fieldLinkNest "LoadChecks" (117 : Nat) "LoadChecks$Vehicle" "counts" "[I" "LoadChecks") ∈ lw_tbl := List.mem_of_getElem? (i := 87) (by decide +kernel)
theorem m_88 : (Cond.fieldLink "LoadChecks$Vehicle" (22 : Nat) "LoadChecks$Vehicle" "endDays" "[I") ∈ lw_tbl := List.mem_of_getElem? (i := 88) (by decide +kernel)
theorem w_88 : (Cond.fieldLink "LoadChecks$Vehicle" (22 : Nat) "LoadChecks$Vehicle" "endDays" "[I") ∈ xT := List.mem_filter.mpr ⟨m_88, by decide +kernel⟩
theorem m_89 : (Cond.fieldLinkNest "LoadChecks" (143 : Nat) "LoadChecks$Vehicle" "endDays" "[I" "LoadChecks") ∈ lw_tbl := List.mem_of_getElem? (i := 89) (by decide +kernel)
theorem m_90 : (Cond.fieldLink "LoadChecks$Vehicle" (25 : Nat) "LoadChecks$Vehicle" "batteries" "[I") ∈ lw_tbl := List.mem_of_getElem? (i := 90) (by decide +kernel)
theorem w_90 : (Cond.fieldLink "LoadChecks$Vehicle" (25 : Nat) "LoadChecks$Vehicle" "batteries" "[I") ∈ xT := List.mem_filter.mpr ⟨m_90, by decide +kernel⟩
theorem m_91 : (Cond.fieldLinkNest "LoadChecks" (146 : Nat) "LoadChecks$Vehicle" "batteries" "[I" "LoadChecks") ∈ lw_tbl := List.mem_of_getElem? (i := 91) (by decide +kernel)
theorem m_92 : (Cond.fieldLinkNest "LoadChecks" (61 : Nat) "LoadChecks$Vehicle" "kind" "I" "LoadChecks") ∈ lw_tbl := List.mem_of_getElem? (i := 92) (by decide +kernel)
theorem m_93 : (Cond.fieldLink "LoadChecks$Vehicle" (28 : Nat) "LoadChecks$Vehicle" "wheelbase" "I") ∈ lw_tbl := List.mem_of_getElem? (i := 93) (by decide +kernel)
theorem w_93 : (Cond.fieldLink "LoadChecks$Vehicle" (28 : Nat) "LoadChecks$Vehicle" "wheelbase" "I") ∈ xT := List.mem_filter.mpr ⟨m_93, by decide +kernel⟩
theorem m_94 : (Cond.fieldLinkNest "LoadChecks" (64 : Nat) "LoadChecks$Vehicle" "wheelbase" "I" "LoadChecks") ∈ lw_tbl := List.mem_of_getElem? (i := 94) (by decide +kernel)
theorem m_95 : (Cond.fieldLinkNest "LoadChecks" (67 : Nat) "LoadChecks$Vehicle" "frontLimit" "I" "LoadChecks") ∈ lw_tbl := List.mem_of_getElem? (i := 95) (by decide +kernel)
theorem m_96 : (Cond.fieldLink "LoadChecks$Vehicle" (55 : Nat) "LoadChecks$Vehicle" "frontLimit" "I") ∈ lw_tbl := List.mem_of_getElem? (i := 96) (by decide +kernel)
theorem w_96 : (Cond.fieldLink "LoadChecks$Vehicle" (55 : Nat) "LoadChecks$Vehicle" "frontLimit" "I") ∈ xT := List.mem_filter.mpr ⟨m_96, by decide +kernel⟩
theorem m_97 : (Cond.fieldLinkNest "LoadChecks" (70 : Nat) "LoadChecks$Vehicle" "rearLimit" "I" "LoadChecks") ∈ lw_tbl := List.mem_of_getElem? (i := 97) (by decide +kernel)
theorem m_98 : (Cond.fieldLink "LoadChecks$Vehicle" (65 : Nat) "LoadChecks$Vehicle" "rearLimit" "I") ∈ lw_tbl := List.mem_of_getElem? (i := 98) (by decide +kernel)
theorem w_98 : (Cond.fieldLink "LoadChecks$Vehicle" (65 : Nat) "LoadChecks$Vehicle" "rearLimit" "I") ∈ xT := List.mem_filter.mpr ⟨m_98, by decide +kernel⟩
theorem m_100 : (Cond.fieldLinkNest "LoadChecks" (158 : Nat) "LoadChecks$Vehicle" "checkedDay" "I" "LoadChecks") ∈ lw_tbl := List.mem_of_getElem? (i := 100) (by decide +kernel)
theorem m_102 : (Cond.fieldLinkNest "LoadChecks" (164 : Nat) "LoadChecks$Vehicle" "checkedShift" "I" "LoadChecks") ∈ lw_tbl := List.mem_of_getElem? (i := 102) (by decide +kernel)
theorem m_103 : (Cond.fieldLink "LoadChecks$Vehicle" (44 : Nat) "LoadChecks$Vehicle" "grams" "J") ∈ lw_tbl := List.mem_of_getElem? (i := 103) (by decide +kernel)
theorem w_103 : (Cond.fieldLink "LoadChecks$Vehicle" (44 : Nat) "LoadChecks$Vehicle" "grams" "J") ∈ xT := List.mem_filter.mpr ⟨m_103, by decide +kernel⟩
theorem m_104 : (Cond.fieldLink "LoadChecks$Vehicle" (48 : Nat) "LoadChecks$Vehicle" "moment" "J") ∈ lw_tbl := List.mem_of_getElem? (i := 104) (by decide +kernel)
theorem w_104 : (Cond.fieldLink "LoadChecks$Vehicle" (48 : Nat) "LoadChecks$Vehicle" "moment" "J") ∈ xT := List.mem_filter.mpr ⟨m_104, by decide +kernel⟩
theorem m_133 : (Cond.fieldLink "LoadChecks" (9 : Nat) "LoadChecks" "weights" "[I") ∈ lw_tbl := List.mem_of_getElem? (i := 133) (by decide +kernel)
theorem w_133 : (Cond.fieldLink "LoadChecks" (9 : Nat) "LoadChecks" "weights" "[I") ∈ xT := List.mem_filter.mpr ⟨m_133, by decide +kernel⟩
theorem m_134 : (Cond.fieldLink "LoadChecks" (13 : Nat) "LoadChecks" "leastBatteries" "[I") ∈ lw_tbl := List.mem_of_getElem? (i := 134) (by decide +kernel)
theorem w_134 : (Cond.fieldLink "LoadChecks" (13 : Nat) "LoadChecks" "leastBatteries" "[I") ∈ xT := List.mem_filter.mpr ⟨m_134, by decide +kernel⟩
theorem m_135 : (Cond.fieldLink "LoadChecks" (16 : Nat) "LoadChecks" "stocks" "[I") ∈ lw_tbl := List.mem_of_getElem? (i := 135) (by decide +kernel)
theorem w_135 : (Cond.fieldLink "LoadChecks" (16 : Nat) "LoadChecks" "stocks" "[I") ∈ xT := List.mem_filter.mpr ⟨m_135, by decide +kernel⟩
theorem m_136 : (Cond.fieldLink "LoadChecks" (21 : Nat) "LoadChecks" "needs" "[[I") ∈ lw_tbl := List.mem_of_getElem? (i := 136) (by decide +kernel)
theorem w_136 : (Cond.fieldLink "LoadChecks" (21 : Nat) "LoadChecks" "needs" "[[I") ∈ xT := List.mem_filter.mpr ⟨m_136, by decide +kernel⟩
theorem m_137 : (Cond.fieldLink "LoadChecks" (26 : Nat) "LoadChecks" "vehicles" "[LLoadChecks$Vehicle;") ∈ lw_tbl := List.mem_of_getElem? (i := 137) (by decide +kernel)
theorem w_137 : (Cond.fieldLink "LoadChecks" (26 : Nat) "LoadChecks" "vehicles" "[LLoadChecks$Vehicle;") ∈ xT := List.mem_filter.mpr ⟨m_137, by decide +kernel⟩
theorem m_138 : (Cond.fieldLink "LoadChecks" (33 : Nat) "LoadChecks" "rows" "LLoadChecks$Rows;") ∈ lw_tbl := List.mem_of_getElem? (i := 138) (by decide +kernel)
theorem w_138 : (Cond.fieldLink "LoadChecks" (33 : Nat) "LoadChecks" "rows" "LLoadChecks$Rows;") ∈ xT := List.mem_filter.mpr ⟨m_138, by decide +kernel⟩
theorem m_139 : (Cond.fieldLink "LoadChecks" (50 : Nat) "LoadChecks" "vehicleCount" "I") ∈ lw_tbl := List.mem_of_getElem? (i := 139) (by decide +kernel)
theorem w_139 : (Cond.fieldLink "LoadChecks" (50 : Nat) "LoadChecks" "vehicleCount" "I") ∈ xT := List.mem_filter.mpr ⟨m_139, by decide +kernel⟩
theorem m_140 : (Cond.fieldLink "LoadChecks" (155 : Nat) "LoadChecks" "presentDay" "I") ∈ lw_tbl := List.mem_of_getElem? (i := 140) (by decide +kernel)
theorem w_140 : (Cond.fieldLink "LoadChecks" (155 : Nat) "LoadChecks" "presentDay" "I") ∈ xT := List.mem_filter.mpr ⟨m_140, by decide +kernel⟩
theorem m_141 : (Cond.fieldLink "LoadChecks" (161 : Nat) "LoadChecks" "presentShift" "I") ∈ lw_tbl := List.mem_of_getElem? (i := 141) (by decide +kernel)
theorem w_141 : (Cond.fieldLink "LoadChecks" (161 : Nat) "LoadChecks" "presentShift" "I") ∈ xT := List.mem_filter.mpr ⟨m_141, by decide +kernel⟩
theorem m_171 : (Cond.methodLink "LoadChecks" (38 : Nat) ({ cls := "LoadChecks", name := "requireKind", desc := "(I)V" } : MethodName)) ∈ lw_tbl := List.mem_of_getElem? (i := 171) (by decide +kernel)
theorem w_171 : (Cond.methodLink "LoadChecks" (38 : Nat) ({ cls := "LoadChecks", name := "requireKind", desc := "(I)V" } : MethodName)) ∈ xT := List.mem_filter.mpr ⟨m_171, by decide +kernel⟩
theorem m_172 : (Cond.static ({ cls := "LoadChecks", name := "requireKind", desc := "(I)V" } : MethodName)) ∈ lw_tbl := List.mem_of_getElem? (i := 172) (by decide +kernel)
theorem w_172 : (Cond.static ({ cls := "LoadChecks", name := "requireKind", desc := "(I)V" } : MethodName)) ∈ xT := List.mem_filter.mpr ⟨m_172, by decide +kernel⟩
theorem m_173 : (Cond.code ({ cls := "LoadChecks", name := "requireKind", desc := "(I)V" } : MethodName) prog_1_method_25_code (1 : Nat) (Option.none : Option FieldType)) ∈ lw_tbl := List.mem_of_getElem? (i := 173) (by decide +kernel)
theorem w_173 : (Cond.code ({ cls := "LoadChecks", name := "requireKind", desc := "(I)V" } : MethodName) prog_1_method_25_code (1 : Nat) (Option.none : Option FieldType)) ∈ xT := List.mem_filter.mpr ⟨m_173, by decide +kernel⟩
theorem m_174 : (Cond.classLink "LoadChecks" (135 : Nat) "java/lang/IllegalArgumentException") ∈ lw_tbl := List.mem_of_getElem? (i := 174) (by decide +kernel)
theorem w_174 : (Cond.classLink "LoadChecks" (135 : Nat) "java/lang/IllegalArgumentException") ∈ xT := List.mem_filter.mpr ⟨m_174, by decide +kernel⟩
theorem m_244 : (Cond.methodLink "LoadChecks" (42 : Nat) ({ cls := "LoadChecks", name := "requireRange", desc := "(III)V" } : MethodName)) ∈ lw_tbl := List.mem_of_getElem? (i := 244) (by decide +kernel)
theorem w_244 : (Cond.methodLink "LoadChecks" (42 : Nat) ({ cls := "LoadChecks", name := "requireRange", desc := "(III)V" } : MethodName)) ∈ xT := List.mem_filter.mpr ⟨m_244, by decide +kernel⟩
theorem m_245 : (Cond.static ({ cls := "LoadChecks", name := "requireRange", desc := "(III)V" } : MethodName)) ∈ lw_tbl := List.mem_of_getElem? (i := 245) (by decide +kernel)
theorem w_245 : (Cond.static ({ cls := "LoadChecks", name := "requireRange", desc := "(III)V" } : MethodName)) ∈ xT := List.mem_filter.mpr ⟨m_245, by decide +kernel⟩
theorem m_246 : (Cond.code ({ cls := "LoadChecks", name := "requireRange", desc := "(III)V" } : MethodName) prog_1_method_28_code (3 : Nat) (Option.none : Option FieldType)) ∈ lw_tbl := List.mem_of_getElem? (i := 246) (by decide +kernel)
theorem w_246 : (Cond.code ({ cls := "LoadChecks", name := "requireRange", desc := "(III)V" } : MethodName) prog_1_method_28_code (3 : Nat) (Option.none : Option FieldType)) ∈ xT := List.mem_filter.mpr ⟨m_246, by decide +kernel⟩
theorem m_247 : (Cond.classLink "LoadChecks" (186 : Nat) "java/lang/IndexOutOfBoundsException") ∈ lw_tbl := List.mem_of_getElem? (i := 247) (by decide +kernel)
theorem w_247 : (Cond.classLink "LoadChecks" (186 : Nat) "java/lang/IndexOutOfBoundsException") ∈ xT := List.mem_filter.mpr ⟨m_247, by decide +kernel⟩
theorem m_263 : (Cond.methodLink "LoadChecks" (46 : Nat) ({ cls := "LoadChecks", name := "requireLimits", desc := "(II)V" } : MethodName)) ∈ lw_tbl := List.mem_of_getElem? (i := 263) (by decide +kernel)
theorem w_263 : (Cond.methodLink "LoadChecks" (46 : Nat) ({ cls := "LoadChecks", name := "requireLimits", desc := "(II)V" } : MethodName)) ∈ xT := List.mem_filter.mpr ⟨m_263, by decide +kernel⟩
theorem m_264 : (Cond.static ({ cls := "LoadChecks", name := "requireLimits", desc := "(II)V" } : MethodName)) ∈ lw_tbl := List.mem_of_getElem? (i := 264) (by decide +kernel)
theorem w_264 : (Cond.static ({ cls := "LoadChecks", name := "requireLimits", desc := "(II)V" } : MethodName)) ∈ xT := List.mem_filter.mpr ⟨m_264, by decide +kernel⟩
theorem m_265 : (Cond.code ({ cls := "LoadChecks", name := "requireLimits", desc := "(II)V" } : MethodName) prog_1_method_29_code (2 : Nat) (Option.none : Option FieldType)) ∈ lw_tbl := List.mem_of_getElem? (i := 265) (by decide +kernel)
theorem w_265 : (Cond.code ({ cls := "LoadChecks", name := "requireLimits", desc := "(II)V" } : MethodName) prog_1_method_29_code (2 : Nat) (Option.none : Option FieldType)) ∈ xT := List.mem_filter.mpr ⟨m_265, by decide +kernel⟩
theorem m_266 : (Cond.constant "LoadChecks" (227 : Nat) (20000000 : Int32)) ∈ lw_tbl := List.mem_of_getElem? (i := 266) (by decide +kernel)
theorem w_266 : (Cond.constant "LoadChecks" (227 : Nat) (20000000 : Int32)) ∈ xT := List.mem_filter.mpr ⟨m_266, by decide +kernel⟩
theorem m_267 : (Cond.classLink "LoadChecks" (54 : Nat) "java/lang/UnsupportedOperationException") ∈ lw_tbl := List.mem_of_getElem? (i := 267) (by decide +kernel)
theorem w_267 : (Cond.classLink "LoadChecks" (54 : Nat) "java/lang/UnsupportedOperationException") ∈ xT := List.mem_filter.mpr ⟨m_267, by decide +kernel⟩
theorem m_290 : (Cond.methodLink "LoadChecks" (73 : Nat) ({ cls := "LoadChecks", name := "knownVehicle", desc := "(I)LLoadChecks$Vehicle;" } : MethodName)) ∈ lw_tbl := List.mem_of_getElem? (i := 290) (by decide +kernel)
theorem w_290 : (Cond.methodLink "LoadChecks" (73 : Nat) ({ cls := "LoadChecks", name := "knownVehicle", desc := "(I)LLoadChecks$Vehicle;" } : MethodName)) ∈ xT := List.mem_filter.mpr ⟨m_290, by decide +kernel⟩
theorem m_292 : (Cond.instanceMethod ({ cls := "LoadChecks", name := "knownVehicle", desc := "(I)LLoadChecks$Vehicle;" } : MethodName)) ∈ lw_tbl := List.mem_of_getElem? (i := 292) (by decide +kernel)
theorem w_292 : (Cond.instanceMethod ({ cls := "LoadChecks", name := "knownVehicle", desc := "(I)LLoadChecks$Vehicle;" } : MethodName)) ∈ xT := List.mem_filter.mpr ⟨m_292, by decide +kernel⟩
theorem m_293 : (Cond.code ({ cls := "LoadChecks", name := "knownVehicle", desc := "(I)LLoadChecks$Vehicle;" } : MethodName) prog_1_method_24_code (2 : Nat) (Option.some (FieldType.object "LoadChecks$Vehicle"))) ∈ lw_tbl := List.mem_of_getElem? (i := 293) (by decide +kernel)
theorem w_293 : (Cond.code ({ cls := "LoadChecks", name := "knownVehicle", desc := "(I)LLoadChecks$Vehicle;" } : MethodName) prog_1_method_24_code (2 : Nat) (Option.some (FieldType.object "LoadChecks$Vehicle"))) ∈ xT := List.mem_filter.mpr ⟨m_293, by decide +kernel⟩
theorem m_303 : (Cond.methodLink "LoadChecks" (77 : Nat) ({ cls := "LoadChecks", name := "requireCupboard", desc := "(I)V" } : MethodName)) ∈ lw_tbl := List.mem_of_getElem? (i := 303) (by decide +kernel)
theorem w_303 : (Cond.methodLink "LoadChecks" (77 : Nat) ({ cls := "LoadChecks", name := "requireCupboard", desc := "(I)V" } : MethodName)) ∈ xT := List.mem_filter.mpr ⟨m_303, by decide +kernel⟩
theorem m_304 : (Cond.static ({ cls := "LoadChecks", name := "requireCupboard", desc := "(I)V" } : MethodName)) ∈ lw_tbl := List.mem_of_getElem? (i := 304) (by decide +kernel)
theorem w_304 : (Cond.static ({ cls := "LoadChecks", name := "requireCupboard", desc := "(I)V" } : MethodName)) ∈ xT := List.mem_filter.mpr ⟨m_304, by decide +kernel⟩
theorem m_305 : (Cond.code ({ cls := "LoadChecks", name := "requireCupboard", desc := "(I)V" } : MethodName) prog_1_method_26_code (1 : Nat) (Option.none : Option FieldType)) ∈ lw_tbl := List.mem_of_getElem? (i := 305) (by decide +kernel)
theorem w_305 : (Cond.code ({ cls := "LoadChecks", name := "requireCupboard", desc := "(I)V" } : MethodName) prog_1_method_26_code (1 : Nat) (Option.none : Option FieldType)) ∈ xT := List.mem_filter.mpr ⟨m_305, by decide +kernel⟩
theorem m_307 : (Cond.methodLinkNest "LoadChecks" (80 : Nat) ({ cls := "LoadChecks$Vehicle", name := "isEmpty", desc := "(I)Z" } : MethodName) "LoadChecks") ∈ lw_tbl := List.mem_of_getElem? (i := 307) (by decide +kernel)
theorem m_309 : (Cond.instanceMethod ({ cls := "LoadChecks$Vehicle", name := "isEmpty", desc := "(I)Z" } : MethodName)) ∈ lw_tbl := List.mem_of_getElem? (i := 309) (by decide +kernel)
theorem w_309 : (Cond.instanceMethod ({ cls := "LoadChecks$Vehicle", name := "isEmpty", desc := "(I)Z" } : MethodName)) ∈ xT := List.mem_filter.mpr ⟨m_309, by decide +kernel⟩
theorem m_310 : (Cond.code ({ cls := "LoadChecks$Vehicle", name := "isEmpty", desc := "(I)Z" } : MethodName) prog_3_method_8_code (3 : Nat) (Option.some FieldType.boolean)) ∈ lw_tbl := List.mem_of_getElem? (i := 310) (by decide +kernel)
theorem w_310 : (Cond.code ({ cls := "LoadChecks$Vehicle", name := "isEmpty", desc := "(I)Z" } : MethodName) prog_3_method_8_code (3 : Nat) (Option.some FieldType.boolean)) ∈ xT := List.mem_filter.mpr ⟨m_310, by decide +kernel⟩
theorem m_311 : (Cond.methodLinkNest "LoadChecks$Vehicle" (68 : Nat) ({ cls := "LoadChecks", name := "cellOf", desc := "(II)I" } : MethodName) "LoadChecks") ∈ lw_tbl := List.mem_of_getElem? (i := 311) (by decide +kernel)
theorem m_312 : (Cond.static ({ cls := "LoadChecks", name := "cellOf", desc := "(II)I" } : MethodName)) ∈ lw_tbl := List.mem_of_getElem? (i := 312) (by decide +kernel)
theorem w_312 : (Cond.static ({ cls := "LoadChecks", name := "cellOf", desc := "(II)I" } : MethodName)) ∈ xT := List.mem_filter.mpr ⟨m_312, by decide +kernel⟩
theorem m_313 : (Cond.code ({ cls := "LoadChecks", name := "cellOf", desc := "(II)I" } : MethodName) prog_1_method_33_code (2 : Nat) (Option.some FieldType.int)) ∈ lw_tbl := List.mem_of_getElem? (i := 313) (by decide +kernel)
theorem w_313 : (Cond.code ({ cls := "LoadChecks", name := "cellOf", desc := "(II)I" } : MethodName) prog_1_method_33_code (2 : Nat) (Option.some FieldType.int)) ∈ xT := List.mem_filter.mpr ⟨m_313, by decide +kernel⟩
theorem m_314 : (Cond.classLink "LoadChecks" (84 : Nat) "java/lang/IllegalStateException") ∈ lw_tbl := List.mem_of_getElem? (i := 314) (by decide +kernel)
theorem w_314 : (Cond.classLink "LoadChecks" (84 : Nat) "java/lang/IllegalStateException") ∈ xT := List.mem_filter.mpr ⟨m_314, by decide +kernel⟩
theorem m_337 : (Cond.methodLink "LoadChecks" (92 : Nat) ({ cls := "LoadChecks", name := "requireItem", desc := "(I)V" } : MethodName)) ∈ lw_tbl := List.mem_of_getElem? (i := 337) (by decide +kernel)
theorem w_337 : (Cond.methodLink "LoadChecks" (92 : Nat) ({ cls := "LoadChecks", name := "requireItem", desc := "(I)V" } : MethodName)) ∈ xT := List.mem_filter.mpr ⟨m_337, by decide +kernel⟩
theorem m_338 : (Cond.static ({ cls := "LoadChecks", name := "requireItem", desc := "(I)V" } : MethodName)) ∈ lw_tbl := List.mem_of_getElem? (i := 338) (by decide +kernel)
theorem w_338 : (Cond.static ({ cls := "LoadChecks", name := "requireItem", desc := "(I)V" } : MethodName)) ∈ xT := List.mem_filter.mpr ⟨m_338, by decide +kernel⟩
theorem m_339 : (Cond.code ({ cls := "LoadChecks", name := "requireItem", desc := "(I)V" } : MethodName) prog_1_method_27_code (1 : Nat) (Option.none : Option FieldType)) ∈ lw_tbl := List.mem_of_getElem? (i := 339) (by decide +kernel)
theorem w_339 : (Cond.code ({ cls := "LoadChecks", name := "requireItem", desc := "(I)V" } : MethodName) prog_1_method_27_code (1 : Nat) (Option.none : Option FieldType)) ∈ xT := List.mem_filter.mpr ⟨m_339, by decide +kernel⟩
theorem m_341 : (Cond.constant "LoadChecks" (95 : Nat) (500000 : Int32)) ∈ lw_tbl := List.mem_of_getElem? (i := 341) (by decide +kernel)
theorem w_341 : (Cond.constant "LoadChecks" (95 : Nat) (500000 : Int32)) ∈ xT := List.mem_filter.mpr ⟨m_341, by decide +kernel⟩
theorem m_342 : (Cond.methodLink "LoadChecks" (96 : Nat) ({ cls := "LoadChecks", name := "isAnywhere", desc := "(I)Z" } : MethodName)) ∈ lw_tbl := List.mem_of_getElem? (i := 342) (by decide +kernel)
theorem w_342 : (Cond.methodLink "LoadChecks" (96 : Nat) ({ cls := "LoadChecks", name := "isAnywhere", desc := "(I)Z" } : MethodName)) ∈ xT := List.mem_filter.mpr ⟨m_342, by decide +kernel⟩
theorem m_344 : (Cond.instanceMethod ({ cls := "LoadChecks", name := "isAnywhere", desc := "(I)Z" } : MethodName)) ∈ lw_tbl := List.mem_of_getElem? (i := 344) (by decide +kernel)
theorem w_344 : (Cond.instanceMethod ({ cls := "LoadChecks", name := "isAnywhere", desc := "(I)Z" } : MethodName)) ∈ xT := List.mem_filter.mpr ⟨m_344, by decide +kernel⟩
theorem m_345 : (Cond.code ({ cls := "LoadChecks", name := "isAnywhere", desc := "(I)Z" } : MethodName) prog_1_method_34_code (3 : Nat) (Option.some FieldType.boolean)) ∈ lw_tbl := List.mem_of_getElem? (i := 345) (by decide +kernel)
theorem w_345 : (Cond.code ({ cls := "LoadChecks", name := "isAnywhere", desc := "(I)Z" } : MethodName) prog_1_method_34_code (3 : Nat) (Option.some FieldType.boolean)) ∈ xT := List.mem_filter.mpr ⟨m_345, by decide +kernel⟩
theorem m_346 : (Cond.methodLinkNest "LoadChecks" (234 : Nat) ({ cls := "LoadChecks$Vehicle", name := "carries", desc := "(I)Z" } : MethodName) "LoadChecks") ∈ lw_tbl := List.mem_of_getElem? (i := 346) (by decide +kernel)
theorem m_348 : (Cond.instanceMethod ({ cls := "LoadChecks$Vehicle", name := "carries", desc := "(I)Z" } : MethodName)) ∈ lw_tbl := List.mem_of_getElem? (i := 348) (by decide +kernel)
theorem w_348 : (Cond.instanceMethod ({ cls := "LoadChecks$Vehicle", name := "carries", desc := "(I)Z" } : MethodName)) ∈ xT := List.mem_filter.mpr ⟨m_348, by decide +kernel⟩
theorem m_349 : (Cond.code ({ cls := "LoadChecks$Vehicle", name := "carries", desc := "(I)Z" } : MethodName) prog_3_method_9_code (3 : Nat) (Option.some FieldType.boolean)) ∈ lw_tbl := List.mem_of_getElem? (i := 349) (by decide +kernel)
theorem w_349 : (Cond.code ({ cls := "LoadChecks$Vehicle", name := "carries", desc := "(I)Z" } : MethodName) prog_3_method_9_code (3 : Nat) (Option.some FieldType.boolean)) ∈ xT := List.mem_filter.mpr ⟨m_349, by decide +kernel⟩
theorem m_358 : (Cond.methodLink "LoadChecks" (101 : Nat) ({ cls := "LoadChecks", name := "cellOf", desc := "(II)I" } : MethodName)) ∈ lw_tbl := List.mem_of_getElem? (i := 358) (by decide +kernel)
theorem w_358 : (Cond.methodLink "LoadChecks" (101 : Nat) ({ cls := "LoadChecks", name := "cellOf", desc := "(II)I" } : MethodName)) ∈ xT := List.mem_filter.mpr ⟨m_358, by decide +kernel⟩
theorem m_374 : (Cond.methodLink "LoadChecks" (107 : Nat) ({ cls := "LoadChecks", name := "requireBearable", desc := "(LLoadChecks$Vehicle;II)V" } : MethodName)) ∈ lw_tbl := List.mem_of_getElem? (i := 374) (by decide +kernel)
theorem w_374 : (Cond.methodLink "LoadChecks" (107 : Nat) ({ cls := "LoadChecks", name := "requireBearable", desc := "(LLoadChecks$Vehicle;II)V" } : MethodName)) ∈ xT := List.mem_filter.mpr ⟨m_374, by decide +kernel⟩
theorem m_376 : (Cond.instanceMethod ({ cls := "LoadChecks", name := "requireBearable", desc := "(LLoadChecks$Vehicle;II)V" } : MethodName)) ∈ lw_tbl := List.mem_of_getElem? (i := 376) (by decide +kernel)
theorem w_376 : (Cond.instanceMethod ({ cls := "LoadChecks", name := "requireBearable", desc := "(LLoadChecks$Vehicle;II)V" } : MethodName)) ∈ xT := List.mem_filter.mpr ⟨m_376, by decide +kernel⟩
theorem m_377 : (Cond.code ({ cls := "LoadChecks", name := "requireBearable", desc := "(LLoadChecks$Vehicle;II)V" } : MethodName) prog_1_method_31_code (4 : Nat) (Option.none : Option FieldType)) ∈ lw_tbl := List.mem_of_getElem? (i := 377) (by decide +kernel)
theorem w_377 : (Cond.code ({ cls := "LoadChecks", name := "requireBearable", desc := "(LLoadChecks$Vehicle;II)V" } : MethodName) prog_1_method_31_code (4 : Nat) (Option.none : Option FieldType)) ∈ xT := List.mem_filter.mpr ⟨m_377, by decide +kernel⟩
theorem m_378 : (Cond.methodLinkNest "LoadChecks" (131 : Nat) ({ cls := "LoadChecks$Vehicle", name := "bears", desc := "(III)Z" } : MethodName) "LoadChecks") ∈ lw_tbl := List.mem_of_getElem? (i := 378) (by decide +kernel)
theorem m_380 : (Cond.instanceMethod ({ cls := "LoadChecks$Vehicle", name := "bears", desc := "(III)Z" } : MethodName)) ∈ lw_tbl := List.mem_of_getElem? (i := 380) (by decide +kernel)
theorem w_380 : (Cond.instanceMethod ({ cls := "LoadChecks$Vehicle", name := "bears", desc := "(III)Z" } : MethodName)) ∈ xT := List.mem_filter.mpr ⟨m_380, by decide +kernel⟩
theorem m_381 : (Cond.code ({ cls := "LoadChecks$Vehicle", name := "bears", desc := "(III)Z" } : MethodName) prog_3_method_6_code (12 : Nat) (Option.some FieldType.boolean)) ∈ lw_tbl := List.mem_of_getElem? (i := 381) (by decide +kernel)
theorem w_381 : (Cond.code ({ cls := "LoadChecks$Vehicle", name := "bears", desc := "(III)Z" } : MethodName) prog_3_method_6_code (12 : Nat) (Option.some FieldType.boolean)) ∈ xT := List.mem_filter.mpr ⟨m_381, by decide +kernel⟩
theorem m_382 : (Cond.methodLink "LoadChecks$Vehicle" (51 : Nat) ({ cls := "LoadChecks$Vehicle", name := "frontMoment", desc := "()J" } : MethodName)) ∈ lw_tbl := List.mem_of_getElem? (i := 382) (by decide +kernel)
theorem w_382 : (Cond.methodLink "LoadChecks$Vehicle" (51 : Nat) ({ cls := "LoadChecks$Vehicle", name := "frontMoment", desc := "()J" } : MethodName)) ∈ xT := List.mem_filter.mpr ⟨m_382, by decide +kernel⟩
theorem m_384 : (Cond.instanceMethod ({ cls := "LoadChecks$Vehicle", name := "frontMoment", desc := "()J" } : MethodName)) ∈ lw_tbl := List.mem_of_getElem? (i := 384) (by decide +kernel)
theorem w_384 : (Cond.instanceMethod ({ cls := "LoadChecks$Vehicle", name := "frontMoment", desc := "()J" } : MethodName)) ∈ xT := List.mem_filter.mpr ⟨m_384, by decide +kernel⟩
theorem m_385 : (Cond.code ({ cls := "LoadChecks$Vehicle", name := "frontMoment", desc := "()J" } : MethodName) prog_3_method_2_code (1 : Nat) (Option.some FieldType.long)) ∈ lw_tbl := List.mem_of_getElem? (i := 385) (by decide +kernel)
theorem w_385 : (Cond.code ({ cls := "LoadChecks$Vehicle", name := "frontMoment", desc := "()J" } : MethodName) prog_3_method_2_code (1 : Nat) (Option.some FieldType.long)) ∈ xT := List.mem_filter.mpr ⟨m_385, by decide +kernel⟩
theorem m_386 : (Cond.methodLink "LoadChecks$Vehicle" (58 : Nat) ({ cls := "LoadChecks$Vehicle", name := "exceeds", desc := "(JI)Z" } : MethodName)) ∈ lw_tbl := List.mem_of_getElem? (i := 386) (by decide +kernel)
theorem w_386 : (Cond.methodLink "LoadChecks$Vehicle" (58 : Nat) ({ cls := "LoadChecks$Vehicle", name := "exceeds", desc := "(JI)Z" } : MethodName)) ∈ xT := List.mem_filter.mpr ⟨m_386, by decide +kernel⟩
theorem m_388 : (Cond.instanceMethod ({ cls := "LoadChecks$Vehicle", name := "exceeds", desc := "(JI)Z" } : MethodName)) ∈ lw_tbl := List.mem_of_getElem? (i := 388) (by decide +kernel)
theorem w_388 : (Cond.instanceMethod ({ cls := "LoadChecks$Vehicle", name := "exceeds", desc := "(JI)Z" } : MethodName)) ∈ xT := List.mem_filter.mpr ⟨m_388, by decide +kernel⟩
theorem m_389 : (Cond.code ({ cls := "LoadChecks$Vehicle", name := "exceeds", desc := "(JI)Z" } : MethodName) prog_3_method_5_code (4 : Nat) (Option.some FieldType.boolean)) ∈ lw_tbl := List.mem_of_getElem? (i := 389) (by decide +kernel)
theorem w_389 : (Cond.code ({ cls := "LoadChecks$Vehicle", name := "exceeds", desc := "(JI)Z" } : MethodName) prog_3_method_5_code (4 : Nat) (Option.some FieldType.boolean)) ∈ xT := List.mem_filter.mpr ⟨m_389, by decide +kernel⟩
theorem m_390 : (Cond.methodLink "LoadChecks$Vehicle" (62 : Nat) ({ cls := "LoadChecks$Vehicle", name := "rearMoment", desc := "()J" } : MethodName)) ∈ lw_tbl := List.mem_of_getElem? (i := 390) (by decide +kernel)
theorem w_390 : (Cond.methodLink "LoadChecks$Vehicle" (62 : Nat) ({ cls := "LoadChecks$Vehicle", name := "rearMoment", desc := "()J" } : MethodName)) ∈ xT := List.mem_filter.mpr ⟨m_390, by decide +kernel⟩
theorem m_392 : (Cond.instanceMethod ({ cls := "LoadChecks$Vehicle", name := "rearMoment", desc := "()J" } : MethodName)) ∈ lw_tbl := List.mem_of_getElem? (i := 392) (by decide +kernel)
theorem w_392 : (Cond.instanceMethod ({ cls := "LoadChecks$Vehicle", name := "rearMoment", desc := "()J" } : MethodName)) ∈ xT := List.mem_filter.mpr ⟨m_392, by decide +kernel⟩
theorem m_393 : (Cond.code ({ cls := "LoadChecks$Vehicle", name := "rearMoment", desc := "()J" } : MethodName) prog_3_method_3_code (1 : Nat) (Option.some FieldType.long)) ∈ lw_tbl := List.mem_of_getElem? (i := 393) (by decide +kernel)
theorem w_393 : (Cond.code ({ cls := "LoadChecks$Vehicle", name := "rearMoment", desc := "()J" } : MethodName) prog_3_method_3_code (1 : Nat) (Option.some FieldType.long)) ∈ xT := List.mem_filter.mpr ⟨m_393, by decide +kernel⟩
theorem m_395 : (Cond.methodLink "LoadChecks" (111 : Nat) ({ cls := "LoadChecks", name := "requireRoom", desc := "(LLoadChecks$Vehicle;II)V" } : MethodName)) ∈ lw_tbl := List.mem_of_getElem? (i := 395) (by decide +kernel)
theorem w_395 : (Cond.methodLink "LoadChecks" (111 : Nat) ({ cls := "LoadChecks", name := "requireRoom", desc := "(LLoadChecks$Vehicle;II)V" } : MethodName)) ∈ xT := List.mem_filter.mpr ⟨m_395, by decide +kernel⟩
theorem m_396 : (Cond.static ({ cls := "LoadChecks", name := "requireRoom", desc := "(LLoadChecks$Vehicle;II)V" } : MethodName)) ∈ lw_tbl := List.mem_of_getElem? (i := 396) (by decide +kernel)
theorem w_396 : (Cond.static ({ cls := "LoadChecks", name := "requireRoom", desc := "(LLoadChecks$Vehicle;II)V" } : MethodName)) ∈ xT := List.mem_filter.mpr ⟨m_396, by decide +kernel⟩
theorem m_397 : (Cond.code ({ cls := "LoadChecks", name := "requireRoom", desc := "(LLoadChecks$Vehicle;II)V" } : MethodName) prog_1_method_32_code (3 : Nat) (Option.none : Option FieldType)) ∈ lw_tbl := List.mem_of_getElem? (i := 397) (by decide +kernel)
theorem w_397 : (Cond.code ({ cls := "LoadChecks", name := "requireRoom", desc := "(LLoadChecks$Vehicle;II)V" } : MethodName) prog_1_method_32_code (3 : Nat) (Option.none : Option FieldType)) ∈ xT := List.mem_filter.mpr ⟨m_397, by decide +kernel⟩
theorem m_399 : (Cond.methodLinkNest "LoadChecks" (114 : Nat) ({ cls := "LoadChecks$Vehicle", name := "load", desc := "(III)V" } : MethodName) "LoadChecks") ∈ lw_tbl := List.mem_of_getElem? (i := 399) (by decide +kernel)
theorem m_401 : (Cond.instanceMethod ({ cls := "LoadChecks$Vehicle", name := "load", desc := "(III)V" } : MethodName)) ∈ lw_tbl := List.mem_of_getElem? (i := 401) (by decide +kernel)
theorem w_401 : (Cond.instanceMethod ({ cls := "LoadChecks$Vehicle", name := "load", desc := "(III)V" } : MethodName)) ∈ xT := List.mem_filter.mpr ⟨m_401, by decide +kernel⟩
theorem m_402 : (Cond.code ({ cls := "LoadChecks$Vehicle", name := "load", desc := "(III)V" } : MethodName) prog_3_method_7_code (6 : Nat) (Option.none : Option FieldType)) ∈ lw_tbl := List.mem_of_getElem? (i := 402) (by decide +kernel)
theorem w_402 : (Cond.code ({ cls := "LoadChecks$Vehicle", name := "load", desc := "(III)V" } : MethodName) prog_3_method_7_code (6 : Nat) (Option.none : Option FieldType)) ∈ xT := List.mem_filter.mpr ⟨m_402, by decide +kernel⟩
theorem m_410 : (Cond.methodLink "LoadChecks" (120 : Nat) ({ cls := "LoadChecks", name := "requireSoMany", desc := "(LLoadChecks$Vehicle;II)V" } : MethodName)) ∈ lw_tbl := List.mem_of_getElem? (i := 410) (by decide +kernel)
theorem w_410 : (Cond.methodLink "LoadChecks" (120 : Nat) ({ cls := "LoadChecks", name := "requireSoMany", desc := "(LLoadChecks$Vehicle;II)V" } : MethodName)) ∈ xT := List.mem_filter.mpr ⟨m_410, by decide +kernel⟩
theorem m_411 : (Cond.static ({ cls := "LoadChecks", name := "requireSoMany", desc := "(LLoadChecks$Vehicle;II)V" } : MethodName)) ∈ lw_tbl := List.mem_of_getElem? (i := 411) (by decide +kernel)
theorem w_411 : (Cond.static ({ cls := "LoadChecks", name := "requireSoMany", desc := "(LLoadChecks$Vehicle;II)V" } : MethodName)) ∈ xT := List.mem_filter.mpr ⟨m_411, by decide +kernel⟩
theorem m_412 : (Cond.code ({ cls := "LoadChecks", name := "requireSoMany", desc := "(LLoadChecks$Vehicle;II)V" } : MethodName) prog_1_method_30_code (3 : Nat) (Option.none : Option FieldType)) ∈ lw_tbl := List.mem_of_getElem? (i := 412) (by decide +kernel)
theorem w_412 : (Cond.code ({ cls := "LoadChecks", name := "requireSoMany", desc := "(LLoadChecks$Vehicle;II)V" } : MethodName) prog_1_method_30_code (3 : Nat) (Option.none : Option FieldType)) ∈ xT := List.mem_filter.mpr ⟨m_412, by decide +kernel⟩
theorem m_421 : (Cond.methodLinkNest "LoadChecks" (123 : Nat) ({ cls := "LoadChecks$Vehicle", name := "lackOf", desc := "(II)I" } : MethodName) "LoadChecks") ∈ lw_tbl := List.mem_of_getElem? (i := 421) (by decide +kernel)
theorem m_423 : (Cond.instanceMethod ({ cls := "LoadChecks$Vehicle", name := "lackOf", desc := "(II)I" } : MethodName)) ∈ lw_tbl := List.mem_of_getElem? (i := 423) (by decide +kernel)
theorem w_423 : (Cond.instanceMethod ({ cls := "LoadChecks$Vehicle", name := "lackOf", desc := "(II)I" } : MethodName)) ∈ xT := List.mem_filter.mpr ⟨m_423, by decide +kernel⟩
theorem m_424 : (Cond.code ({ cls := "LoadChecks$Vehicle", name := "lackOf", desc := "(II)I" } : MethodName) prog_3_method_10_code (3 : Nat) (Option.some FieldType.int)) ∈ lw_tbl := List.mem_of_getElem? (i := 424) (by decide +kernel)
theorem w_424 : (Cond.code ({ cls := "LoadChecks$Vehicle", name := "lackOf", desc := "(II)I" } : MethodName) prog_3_method_10_code (3 : Nat) (Option.some FieldType.int)) ∈ xT := List.mem_filter.mpr ⟨m_424, by decide +kernel⟩
theorem m_425 : (Cond.methodLink "LoadChecks$Vehicle" (72 : Nat) ({ cls := "java/lang/Math", name := "max", desc := "(II)I" } : MethodName)) ∈ lw_tbl := List.mem_of_getElem? (i := 425) (by decide +kernel)
theorem w_425 : (Cond.methodLink "LoadChecks$Vehicle" (72 : Nat) ({ cls := "java/lang/Math", name := "max", desc := "(II)I" } : MethodName)) ∈ xT := List.mem_filter.mpr ⟨m_425, by decide +kernel⟩
theorem m_426 : (Cond.static ({ cls := "java/lang/Math", name := "max", desc := "(II)I" } : MethodName)) ∈ lw_tbl := List.mem_of_getElem? (i := 426) (by decide +kernel)
theorem w_426 : (Cond.static ({ cls := "java/lang/Math", name := "max", desc := "(II)I" } : MethodName)) ∈ xT := List.mem_filter.mpr ⟨m_426, by decide +kernel⟩
theorem m_427 : (Cond.code ({ cls := "java/lang/Math", name := "max", desc := "(II)I" } : MethodName) prog_11_method_65_code (2 : Nat) (Option.some FieldType.int)) ∈ lw_tbl := List.mem_of_getElem? (i := 427) (by decide +kernel)
theorem w_427 : (Cond.code ({ cls := "java/lang/Math", name := "max", desc := "(II)I" } : MethodName) prog_11_method_65_code (2 : Nat) (Option.some FieldType.int)) ∈ xT := List.mem_filter.mpr ⟨m_427, by decide +kernel⟩
theorem m_428 : (Cond.methodLink "LoadChecks" (126 : Nat) ({ cls := "java/lang/Math", name := "min", desc := "(II)I" } : MethodName)) ∈ lw_tbl := List.mem_of_getElem? (i := 428) (by decide +kernel)
theorem w_428 : (Cond.methodLink "LoadChecks" (126 : Nat) ({ cls := "java/lang/Math", name := "min", desc := "(II)I" } : MethodName)) ∈ xT := List.mem_filter.mpr ⟨m_428, by decide +kernel⟩
theorem m_429 : (Cond.static ({ cls := "java/lang/Math", name := "min", desc := "(II)I" } : MethodName)) ∈ lw_tbl := List.mem_of_getElem? (i := 429) (by decide +kernel)
theorem w_429 : (Cond.static ({ cls := "java/lang/Math", name := "min", desc := "(II)I" } : MethodName)) ∈ xT := List.mem_filter.mpr ⟨m_429, by decide +kernel⟩
theorem m_430 : (Cond.code ({ cls := "java/lang/Math", name := "min", desc := "(II)I" } : MethodName) prog_11_method_69_code (2 : Nat) (Option.some FieldType.int)) ∈ lw_tbl := List.mem_of_getElem? (i := 430) (by decide +kernel)
theorem w_430 : (Cond.code ({ cls := "java/lang/Math", name := "min", desc := "(II)I" } : MethodName) prog_11_method_69_code (2 : Nat) (Option.some FieldType.int)) ∈ xT := List.mem_filter.mpr ⟨m_430, by decide +kernel⟩
theorem m_439 : (Cond.methodLinkNest "LoadChecks" (140 : Nat) ({ cls := "LoadChecks$Rows", name := "add", desc := "(III)V" } : MethodName) "LoadChecks") ∈ lw_tbl := List.mem_of_getElem? (i := 439) (by decide +kernel)
theorem m_441 : (Cond.instanceMethod ({ cls := "LoadChecks$Rows", name := "add", desc := "(III)V" } : MethodName)) ∈ lw_tbl := List.mem_of_getElem? (i := 441) (by decide +kernel)
theorem w_441 : (Cond.instanceMethod ({ cls := "LoadChecks$Rows", name := "add", desc := "(III)V" } : MethodName)) ∈ xT := List.mem_filter.mpr ⟨m_441, by decide +kernel⟩
theorem m_442 : (Cond.code ({ cls := "LoadChecks$Rows", name := "add", desc := "(III)V" } : MethodName) prog_2_method_2_code (5 : Nat) (Option.none : Option FieldType)) ∈ lw_tbl := List.mem_of_getElem? (i := 442) (by decide +kernel)
theorem w_442 : (Cond.code ({ cls := "LoadChecks$Rows", name := "add", desc := "(III)V" } : MethodName) prog_2_method_2_code (5 : Nat) (Option.none : Option FieldType)) ∈ xT := List.mem_filter.mpr ⟨m_442, by decide +kernel⟩
theorem m_443 : (Cond.constantLong "LoadChecks$Rows" (17 : Nat) (100 : Int64)) ∈ lw_tbl := List.mem_of_getElem? (i := 443) (by decide +kernel)
theorem w_443 : (Cond.constantLong "LoadChecks$Rows" (17 : Nat) (100 : Int64)) ∈ xT := List.mem_filter.mpr ⟨m_443, by decide +kernel⟩
theorem m_487 : (Cond.methodLinkNest "LoadChecks" (167 : Nat) ({ cls := "LoadChecks$Vehicle", name := "missingCell", desc := "([II)I" } : MethodName) "LoadChecks") ∈ lw_tbl := List.mem_of_getElem? (i := 487) (by decide +kernel)
theorem m_489 : (Cond.instanceMethod ({ cls := "LoadChecks$Vehicle", name := "missingCell", desc := "([II)I" } : MethodName)) ∈ lw_tbl := List.mem_of_getElem? (i := 489) (by decide +kernel)
theorem w_489 : (Cond.instanceMethod ({ cls := "LoadChecks$Vehicle", name := "missingCell", desc := "([II)I" } : MethodName)) ∈ xT := List.mem_filter.mpr ⟨m_489, by decide +kernel⟩
theorem m_490 : (Cond.code ({ cls := "LoadChecks$Vehicle", name := "missingCell", desc := "([II)I" } : MethodName) prog_3_method_11_code (5 : Nat) (Option.some FieldType.int)) ∈ lw_tbl := List.mem_of_getElem? (i := 490) (by decide +kernel)
theorem w_490 : (Cond.code ({ cls := "LoadChecks$Vehicle", name := "missingCell", desc := "([II)I" } : MethodName) prog_3_method_11_code (5 : Nat) (Option.some FieldType.int)) ∈ xT := List.mem_filter.mpr ⟨m_490, by decide +kernel⟩
theorem m_491 : (Cond.methodLink "LoadChecks$Vehicle" (77 : Nat) ({ cls := "LoadChecks$Vehicle", name := "lackOf", desc := "(II)I" } : MethodName)) ∈ lw_tbl := List.mem_of_getElem? (i := 491) (by decide +kernel)
theorem w_491 : (Cond.methodLink "LoadChecks$Vehicle" (77 : Nat) ({ cls := "LoadChecks$Vehicle", name := "lackOf", desc := "(II)I" } : MethodName)) ∈ xT := List.mem_filter.mpr ⟨m_491, by decide +kernel⟩
theorem m_492 : (Cond.methodLinkNest "LoadChecks" (171 : Nat) ({ cls := "LoadChecks$Vehicle", name := "hasBrokenSeal", desc := "()Z" } : MethodName) "LoadChecks") ∈ lw_tbl := List.mem_of_getElem? (i := 492) (by decide +kernel)
theorem m_494 : (Cond.instanceMethod ({ cls := "LoadChecks$Vehicle", name := "hasBrokenSeal", desc := "()Z" } : MethodName)) ∈ lw_tbl := List.mem_of_getElem? (i := 494) (by decide +kernel)
theorem w_494 : (Cond.instanceMethod ({ cls := "LoadChecks$Vehicle", name := "hasBrokenSeal", desc := "()Z" } : MethodName)) ∈ xT := List.mem_filter.mpr ⟨m_494, by decide +kernel⟩
theorem m_495 : (Cond.code ({ cls := "LoadChecks$Vehicle", name := "hasBrokenSeal", desc := "()Z" } : MethodName) prog_3_method_12_code (2 : Nat) (Option.some FieldType.boolean)) ∈ lw_tbl := List.mem_of_getElem? (i := 495) (by decide +kernel)
theorem w_495 : (Cond.code ({ cls := "LoadChecks$Vehicle", name := "hasBrokenSeal", desc := "()Z" } : MethodName) prog_3_method_12_code (2 : Nat) (Option.some FieldType.boolean)) ∈ xT := List.mem_filter.mpr ⟨m_495, by decide +kernel⟩
theorem m_496 : (Cond.methodLinkNest "LoadChecks" (175 : Nat) ({ cls := "LoadChecks$Vehicle", name := "needsPastItem", desc := "([II)Z" } : MethodName) "LoadChecks") ∈ lw_tbl := List.mem_of_getElem? (i := 496) (by decide +kernel)
theorem m_498 : (Cond.instanceMethod ({ cls := "LoadChecks$Vehicle", name := "needsPastItem", desc := "([II)Z" } : MethodName)) ∈ lw_tbl := List.mem_of_getElem? (i := 498) (by decide +kernel)
theorem w_498 : (Cond.instanceMethod ({ cls := "LoadChecks$Vehicle", name := "needsPastItem", desc := "([II)Z" } : MethodName)) ∈ xT := List.mem_filter.mpr ⟨m_498, by decide +kernel⟩
theorem m_499 : (Cond.code ({ cls := "LoadChecks$Vehicle", name := "needsPastItem", desc := "([II)Z" } : MethodName) prog_3_method_13_code (5 : Nat) (Option.some FieldType.boolean)) ∈ lw_tbl := List.mem_of_getElem? (i := 499) (by decide +kernel)
theorem w_499 : (Cond.code ({ cls := "LoadChecks$Vehicle", name := "needsPastItem", desc := "([II)Z" } : MethodName) prog_3_method_13_code (5 : Nat) (Option.some FieldType.boolean)) ∈ xT := List.mem_filter.mpr ⟨m_499, by decide +kernel⟩
theorem m_500 : (Cond.methodLinkNest "LoadChecks" (179 : Nat) ({ cls := "LoadChecks$Vehicle", name := "needsWeakItem", desc := "([I[I)Z" } : MethodName) "LoadChecks") ∈ lw_tbl := List.mem_of_getElem? (i := 500) (by decide +kernel)
theorem m_502 : (Cond.instanceMethod ({ cls := "LoadChecks$Vehicle", name := "needsWeakItem", desc := "([I[I)Z" } : MethodName)) ∈ lw_tbl := List.mem_of_getElem? (i := 502) (by decide +kernel)
theorem w_502 : (Cond.instanceMethod ({ cls := "LoadChecks$Vehicle", name := "needsWeakItem", desc := "([I[I)Z" } : MethodName)) ∈ xT := List.mem_filter.mpr ⟨m_502, by decide +kernel⟩
theorem m_503 : (Cond.code ({ cls := "LoadChecks$Vehicle", name := "needsWeakItem", desc := "([I[I)Z" } : MethodName) prog_3_method_14_code (5 : Nat) (Option.some FieldType.boolean)) ∈ lw_tbl := List.mem_of_getElem? (i := 503) (by decide +kernel)
theorem w_503 : (Cond.code ({ cls := "LoadChecks$Vehicle", name := "needsWeakItem", desc := "([I[I)Z" } : MethodName) prog_3_method_14_code (5 : Nat) (Option.some FieldType.boolean)) ∈ xT := List.mem_filter.mpr ⟨m_503, by decide +kernel⟩
theorem m_504 : (Cond.methodLinkNest "LoadChecks" (183 : Nat) ({ cls := "LoadChecks$Vehicle", name := "isBeyond", desc := "()Z" } : MethodName) "LoadChecks") ∈ lw_tbl := List.mem_of_getElem? (i := 504) (by decide +kernel)
theorem m_506 : (Cond.instanceMethod ({ cls := "LoadChecks$Vehicle", name := "isBeyond", desc := "()Z" } : MethodName)) ∈ lw_tbl := List.mem_of_getElem? (i := 506) (by decide +kernel)
theorem w_506 : (Cond.instanceMethod ({ cls := "LoadChecks$Vehicle", name := "isBeyond", desc := "()Z" } : MethodName)) ∈ xT := List.mem_filter.mpr ⟨m_506, by decide +kernel⟩
theorem m_507 : (Cond.code ({ cls := "LoadChecks$Vehicle", name := "isBeyond", desc := "()Z" } : MethodName) prog_3_method_4_code (1 : Nat) (Option.some FieldType.boolean)) ∈ lw_tbl := List.mem_of_getElem? (i := 507) (by decide +kernel)
theorem w_507 : (Cond.code ({ cls := "LoadChecks$Vehicle", name := "isBeyond", desc := "()Z" } : MethodName) prog_3_method_4_code (1 : Nat) (Option.some FieldType.boolean)) ∈ xT := List.mem_filter.mpr ⟨m_507, by decide +kernel⟩
theorem m_524 : (Cond.classLink "LoadChecks" (191 : Nat) "java/lang/ArithmeticException") ∈ lw_tbl := List.mem_of_getElem? (i := 524) (by decide +kernel)
theorem w_524 : (Cond.classLink "LoadChecks" (191 : Nat) "java/lang/ArithmeticException") ∈ xT := List.mem_filter.mpr ⟨m_524, by decide +kernel⟩
theorem m_548 : (Cond.methodLinkNest "LoadChecks" (198 : Nat) ({ cls := "LoadChecks$Vehicle", name := "frontMoment", desc := "()J" } : MethodName) "LoadChecks") ∈ lw_tbl := List.mem_of_getElem? (i := 548) (by decide +kernel)
theorem m_549 : (Cond.methodLinkNest "LoadChecks" (202 : Nat) ({ cls := "LoadChecks$Vehicle", name := "rearMoment", desc := "()J" } : MethodName) "LoadChecks") ∈ lw_tbl := List.mem_of_getElem? (i := 549) (by decide +kernel)
theorem m_550 : (Cond.methodLink "LoadChecks" (205 : Nat) ({ cls := "LoadChecks", name := "commonDivisor", desc := "(JJ)J" } : MethodName)) ∈ lw_tbl := List.mem_of_getElem? (i := 550) (by decide +kernel)
theorem w_550 : (Cond.methodLink "LoadChecks" (205 : Nat) ({ cls := "LoadChecks", name := "commonDivisor", desc := "(JJ)J" } : MethodName)) ∈ xT := List.mem_filter.mpr ⟨m_550, by decide +kernel⟩
theorem m_551 : (Cond.static ({ cls := "LoadChecks", name := "commonDivisor", desc := "(JJ)J" } : MethodName)) ∈ lw_tbl := List.mem_of_getElem? (i := 551) (by decide +kernel)
theorem w_551 : (Cond.static ({ cls := "LoadChecks", name := "commonDivisor", desc := "(JJ)J" } : MethodName)) ∈ xT := List.mem_filter.mpr ⟨m_551, by decide +kernel⟩
theorem m_552 : (Cond.code ({ cls := "LoadChecks", name := "commonDivisor", desc := "(JJ)J" } : MethodName) prog_1_method_35_code (11 : Nat) (Option.some FieldType.long)) ∈ lw_tbl := List.mem_of_getElem? (i := 552) (by decide +kernel)
theorem w_552 : (Cond.code ({ cls := "LoadChecks", name := "commonDivisor", desc := "(JJ)J" } : MethodName) prog_1_method_35_code (11 : Nat) (Option.some FieldType.long)) ∈ xT := List.mem_filter.mpr ⟨m_552, by decide +kernel⟩
theorem m_553 : (Cond.methodLink "LoadChecks" (237 : Nat) ({ cls := "java/lang/Math", name := "abs", desc := "(J)J" } : MethodName)) ∈ lw_tbl := List.mem_of_getElem? (i := 553) (by decide +kernel)
theorem w_553 : (Cond.methodLink "LoadChecks" (237 : Nat) ({ cls := "java/lang/Math", name := "abs", desc := "(J)J" } : MethodName)) ∈ xT := List.mem_filter.mpr ⟨m_553, by decide +kernel⟩
theorem m_554 : (Cond.static ({ cls := "java/lang/Math", name := "abs", desc := "(J)J" } : MethodName)) ∈ lw_tbl := List.mem_of_getElem? (i := 554) (by decide +kernel)
theorem w_554 : (Cond.static ({ cls := "java/lang/Math", name := "abs", desc := "(J)J" } : MethodName)) ∈ xT := List.mem_filter.mpr ⟨m_554, by decide +kernel⟩
theorem m_555 : (Cond.code ({ cls := "java/lang/Math", name := "abs", desc := "(J)J" } : MethodName) prog_11_method_61_code (2 : Nat) (Option.some FieldType.long)) ∈ lw_tbl := List.mem_of_getElem? (i := 555) (by decide +kernel)
theorem w_555 : (Cond.code ({ cls := "java/lang/Math", name := "abs", desc := "(J)J" } : MethodName) prog_11_method_61_code (2 : Nat) (Option.some FieldType.long)) ∈ xT := List.mem_filter.mpr ⟨m_555, by decide +kernel⟩
theorem m_556 : (Cond.methodLink "LoadChecks" (241 : Nat) ({ cls := "java/lang/Math", name := "max", desc := "(JJ)J" } : MethodName)) ∈ lw_tbl := List.mem_of_getElem? (i := 556) (by decide +kernel)
theorem w_556 : (Cond.methodLink "LoadChecks" (241 : Nat) ({ cls := "java/lang/Math", name := "max", desc := "(JJ)J" } : MethodName)) ∈ xT := List.mem_filter.mpr ⟨m_556, by decide +kernel⟩
theorem m_557 : (Cond.static ({ cls := "java/lang/Math", name := "max", desc := "(JJ)J" } : MethodName)) ∈ lw_tbl := List.mem_of_getElem? (i := 557) (by decide +kernel)
theorem w_557 : (Cond.static ({ cls := "java/lang/Math", name := "max", desc := "(JJ)J" } : MethodName)) ∈ xT := List.mem_filter.mpr ⟨m_557, by decide +kernel⟩
theorem m_558 : (Cond.code ({ cls := "java/lang/Math", name := "max", desc := "(JJ)J" } : MethodName) prog_11_method_66_code (4 : Nat) (Option.some FieldType.long)) ∈ lw_tbl := List.mem_of_getElem? (i := 558) (by decide +kernel)
theorem w_558 : (Cond.code ({ cls := "java/lang/Math", name := "max", desc := "(JJ)J" } : MethodName) prog_11_method_66_code (4 : Nat) (Option.some FieldType.long)) ∈ xT := List.mem_filter.mpr ⟨m_558, by decide +kernel⟩
theorem m_566 : (Cond.methodLinkNest "LoadChecks" (209 : Nat) ({ cls := "LoadChecks$Rows", name := "keeps", desc := "(I)Z" } : MethodName) "LoadChecks") ∈ lw_tbl := List.mem_of_getElem? (i := 566) (by decide +kernel)
theorem m_568 : (Cond.instanceMethod ({ cls := "LoadChecks$Rows", name := "keeps", desc := "(I)Z" } : MethodName)) ∈ lw_tbl := List.mem_of_getElem? (i := 568) (by decide +kernel)
theorem w_568 : (Cond.instanceMethod ({ cls := "LoadChecks$Rows", name := "keeps", desc := "(I)Z" } : MethodName)) ∈ xT := List.mem_filter.mpr ⟨m_568, by decide +kernel⟩
theorem m_569 : (Cond.code ({ cls := "LoadChecks$Rows", name := "keeps", desc := "(I)Z" } : MethodName) prog_2_method_3_code (2 : Nat) (Option.some FieldType.boolean)) ∈ lw_tbl := List.mem_of_getElem? (i := 569) (by decide +kernel)
theorem w_569 : (Cond.code ({ cls := "LoadChecks$Rows", name := "keeps", desc := "(I)Z" } : MethodName) prog_2_method_3_code (2 : Nat) (Option.some FieldType.boolean)) ∈ xT := List.mem_filter.mpr ⟨m_569, by decide +kernel⟩
theorem m_571 : (Cond.methodLinkNest "LoadChecks" (214 : Nat) ({ cls := "LoadChecks$Rows", name := "number", desc := "(II)I" } : MethodName) "LoadChecks") ∈ lw_tbl := List.mem_of_getElem? (i := 571) (by decide +kernel)
theorem m_573 : (Cond.instanceMethod ({ cls := "LoadChecks$Rows", name := "number", desc := "(II)I" } : MethodName)) ∈ lw_tbl := List.mem_of_getElem? (i := 573) (by decide +kernel)
theorem w_573 : (Cond.instanceMethod ({ cls := "LoadChecks$Rows", name := "number", desc := "(II)I" } : MethodName)) ∈ xT := List.mem_filter.mpr ⟨m_573, by decide +kernel⟩
theorem m_574 : (Cond.code ({ cls := "LoadChecks$Rows", name := "number", desc := "(II)I" } : MethodName) prog_2_method_4_code (3 : Nat) (Option.some FieldType.int)) ∈ lw_tbl := List.mem_of_getElem? (i := 574) (by decide +kernel)
theorem w_574 : (Cond.code ({ cls := "LoadChecks$Rows", name := "number", desc := "(II)I" } : MethodName) prog_2_method_4_code (3 : Nat) (Option.some FieldType.int)) ∈ xT := List.mem_filter.mpr ⟨m_574, by decide +kernel⟩
end
section
/-! what keeps the class's own indices in their ranges -/
def XOk (σ : XS) : Prop := (0 ≤ (σ.1 0 0 6).toInt ∧ (σ.1 0 0 6).toInt ≤ 16) ∧ (∀ i, i < 16 → vp_in (σ.1 9 i 5) 6) ∧ 0 ≤ (σ.2 7 0 1).toInt ∧ (σ.2 7 0 1).toInt < 1099511627776
def xbp {α β : Type} (r : α ⊕ String) (k : α → β ⊕ String) : β ⊕ String := match r with
  | .inl v => k v
  | .inr E => .inr E
theorem x_inl {α : Type} {r : α × XS} {v : α} {σ1 : XS} (h : (.inl r : (α × XS) ⊕ String) = .inl (v, σ1)) : v = r.1 ∧ σ1 = r.2 := by
  cases h
  exact ⟨rfl, rfl⟩
theorem x_klt {x M : Int32} {k b : Nat} (hM : M = nI b) (_ : b < 2 ^ 31) (hk : k < 2 ^ 31) (e : x = nI k) (c : ¬ M ≤ x) : k < b := by
  rcases Nat.lt_or_ge k b with q | q
  · exact q
  · exact absurd (by rw [hM, e]; exact nI_le q hk) c
theorem o_nI {x : Int32} {k N : Nat} (e : x = nI k) (h : k < N) (hN : N < 2 ^ 31) : vp_in x N := by rw [e]; exact vp_in_nI h hN
theorem o_cell {a b : Int32} (ha : vp_in a 8) (hb : vp_in b 30) : vp_in (a * 30 + b) 240 := by
  obtain ⟨i, hi, rfl⟩ := vp_in_of ha (by decide)
  obtain ⟨j, hj, rfl⟩ := vp_in_of hb (by decide)
  show vp_in (nI i * nI 30 + nI j) 240
  rw [pk_mul, nI_add]
  exact vp_in_nI (by omega) (by decide)
theorem o_rem {a : Int32} (h : vp_in a 240) : vp_in (a - a / 30 * 30) 30 := by
  obtain ⟨i, hi, rfl⟩ := vp_in_of h (by decide)
  show vp_in (nI i - nI i / nI 30 * nI 30) 30
  rw [pk_rem (by omega) (by decide) (by decide)]
  exact vp_in_nI (Nat.mod_lt _ (by decide)) (by decide)
theorem o_div {a : Int32} (h : vp_in a 240) : vp_in (a / 30) 8 := by
  obtain ⟨i, hi, rfl⟩ := vp_in_of h (by decide)
  show vp_in (nI i / nI 30) 8
  rw [pk_div (by omega) (by decide) (by decide)]
  exact vp_in_nI (by omega) (by decide)
theorem o_known {σ : XS} {v : Int32} (hok : XOk σ) (c1 : ¬ v < 0) (c9 : v < σ.1 0 0 6) : vp_in v 16 := by
  rw [vp_in_iff]
  rw [Int32.lt_iff_toInt_lt] at c1 c9
  have h0 : (0 : Int32).toInt = 0 := rfl
  have := hok.1
  omega
theorem o_vc {σ : XS} {x : Int32} {k : Nat} (hok : XOk σ) (e : x = nI k) (hk : k < 2 ^ 31) (c : ¬ σ.1 0 0 6 ≤ x) : k < 16 := by
  rw [Int32.le_iff_toInt_le, e, nI_toInt hk] at c
  have := hok.1
  omega
theorem o_l0 {b : Int64} (h : ¬ lg_cmp b 0 = 0) : ¬ b = 0 := fun q => h (by rw [q]; rfl)
theorem o_made {x : Int64} (h : 0 ≤ x.toInt) : ∃ k : Nat, k < 100 ∧ (x - x / 100 * 100).toInt32 * 3 = nI (k * 3) := by
  obtain ⟨a, ha, rfl⟩ := pk_lOf (x := x) (by rw [Int64.lt_iff_toInt_lt]; have h0 : (0 : Int64).toInt = 0 := rfl; omega)
  refine ⟨a % 100, Nat.mod_lt _ (by decide), ?_⟩
  show (lN a - lN a / lN 100 * lN 100).toInt32 * nI 3 = _
  rw [pk_lRem ha (by decide) (by decide), lN_i, pk_mul]
theorem o_row0 {x : Int64} (h : 0 ≤ x.toInt) : vp_in ((x - x / 100 * 100).toInt32 * 3) 300 := by
  obtain ⟨k, hk, e⟩ := o_made h
  rw [e]
  exact vp_in_nI (by omega) (by decide)
theorem o_row1 {x : Int64} (h : 0 ≤ x.toInt) : vp_in ((x - x / 100 * 100).toInt32 * 3 + 1) 300 := by
  obtain ⟨k, hk, e⟩ := o_made h
  rw [e]
  show vp_in (nI (k * 3) + nI 1) 300
  rw [nI_add]
  exact vp_in_nI (by omega) (by decide)
theorem o_row2 {x : Int64} (h : 0 ≤ x.toInt) : vp_in ((x - x / 100 * 100).toInt32 * 3 + 2) 300 := by
  obtain ⟨k, hk, e⟩ := o_made h
  rw [e]
  show vp_in (nI (k * 3) + nI 2) 300
  rw [nI_add]
  exact vp_in_nI (by omega) (by decide)
theorem hi_LC : ∀ w ∈ u_ws R_LC F_LC 9, w ∈ xT := by decide +kernel
theorem hi_VE : ∀ w ∈ u_ws R_VE F_VE 13, w ∈ xT := by decide +kernel
theorem hi_RW : ∀ w ∈ u_ws R_RW F_RW 2, w ∈ xT := by decide +kernel
theorem hi_MO : ∀ w ∈ u_ws R_MO F_MO 20, w ∈ xT := by decide +kernel
/-! the throws' atoms -/
def x_r1 : Cond := .isRef (.static "java/lang/Throwable" "UNASSIGNED_STACK" "[Ljava/lang/StackTraceElement;")
def x_r2 : Cond := .isRef (.static "java/lang/Throwable" "SUPPRESSED_SENTINEL" "Ljava/util/List;")
theorem x_r1_in : x_r1 ∈ flatC (Jvm.Cond.and given_1 narrow_1) := by decide +kernel
theorem x_r2_in : x_r2 ∈ flatC (Jvm.Cond.and given_1 narrow_1) := by decide +kernel
theorem x_oa {l : Launch} {s0 : State} {A0 : Array Value} {D : va_G} {dA : Nat → ClassId} {L : List Cond} (h0 : XS0 l s0 A0 D dA) (h : L.all (fun a => decide (a = x_r1) || decide (a = x_r2) || decide (a ∈ lw_tbl)) = true) : ∀ a ∈ L, a.before A0 s0 = true := fun a ha => by
  have h1 := List.all_eq_true.mp h a ha
  simp only [Bool.or_eq_true, decide_eq_true_eq] at h1
  rcases h1 with (rfl | rfl) | h1
  · exact h0.2.2.2.2 _ x_r1_in
  · exact h0.2.2.2.2 _ x_r2_in
  · exact h0.2.1 a h1
theorem oa_IAE {l : Launch} {s0 : State} {A0 : Array Value} {D : va_G} {dA : Nat → ClassId} (h0 : XS0 l s0 A0 D dA) : ∀ a ∈ Bundle.ownAtoms "LoadChecks" 139 "java/lang/IllegalArgumentException" ["java/lang/RuntimeException", "java/lang/Exception"], a.before A0 s0 = true := x_oa h0 (by decide +kernel)
theorem oa_IOB {l : Launch} {s0 : State} {A0 : Array Value} {D : va_G} {dA : Nat → ClassId} (h0 : XS0 l s0 A0 D dA) : ∀ a ∈ Bundle.ownAtoms "LoadChecks" 190 "java/lang/IndexOutOfBoundsException" ["java/lang/RuntimeException", "java/lang/Exception"], a.before A0 s0 = true := x_oa h0 (by decide +kernel)
theorem oa_ISE {l : Launch} {s0 : State} {A0 : Array Value} {D : va_G} {dA : Nat → ClassId} (h0 : XS0 l s0 A0 D dA) : ∀ a ∈ Bundle.ownAtoms "LoadChecks" 88 "java/lang/IllegalStateException" ["java/lang/RuntimeException", "java/lang/Exception"], a.before A0 s0 = true := x_oa h0 (by decide +kernel)
theorem oa_UOE {l : Launch} {s0 : State} {A0 : Array Value} {D : va_G} {dA : Nat → ClassId} (h0 : XS0 l s0 A0 D dA) : ∀ a ∈ Bundle.ownAtoms "LoadChecks" 58 "java/lang/UnsupportedOperationException" ["java/lang/RuntimeException", "java/lang/Exception"], a.before A0 s0 = true := x_oa h0 (by decide +kernel)
theorem oa_ARE {l : Launch} {s0 : State} {A0 : Array Value} {D : va_G} {dA : Nat → ClassId} (h0 : XS0 l s0 A0 D dA) : ∀ a ∈ Bundle.ownAtoms "LoadChecks" 195 "java/lang/ArithmeticException" ["java/lang/RuntimeException", "java/lang/Exception"], a.before A0 s0 = true := x_oa h0 (by decide +kernel)
end
section
abbrev rm_LC_cellOf : Room := { frames := 0, cells := 0, slots := 0, locals := 0 }
def S_LC_cellOf (σ : XS) (a : Int32) (b : Int32) : Int32 := ((a * (30 : Int32)) + b)
set_option maxHeartbeats 4000000 in
set_option maxRecDepth 100000 in
theorem c_LC_cellOf {l : Launch} {s0 : State} {A0 : Array Value} {D : va_G} {dA : Nat → ClassId} (h0 : XS0 l s0 A0 D dA) (σ : XS) (a : Int32) (b : Int32)  : XMet l y_LC_cellOf [cw_LC_cellOf] rm_LC_cellOf (XP D dA s0 σ [.int a, .int b]) (XQp xv_i (.inl (S_LC_cellOf σ a b))) 0 0 (fun _ => False) := by
  refine XMet.ofW (cc := b_LC_cellOf) (maxL := 2) (ret := (some .int)) (by decide) rfl ?_
  intro p e s m args below meth c s₁ Bd hml hv
  obtain ⟨rfl, hX, hO⟩ := hv
  have hx := Bd.exec
  have hb := Bd.bytes
  have hr := Bd.returns
  have hown : s.vm.findClass "LoadChecks" = some m.cls := findClass_of_methodNamed Bd.named
  have hlocks := Bd.notSynchronized
  have hnt : c.exceptionTable.isEmpty = true := Bd.noHandlers (atoms_spec (ws := [cw_LC_cellOf]) Bd.pre _ List.mem_cons_self)
  have hW0 := hO.1
  have hts := xs_w (args := ([.int a, .int b] : List Value).toArray) h0 hW0
  have hK := xs_K h0 hW0
  have hl := lv_entry ([.int a, .int b]) (n := 2) (Nat.le_of_ble_eq_true rfl)
  rw [lg_entry_eq]
  generalize (lg_sl ([.int a, .int b]) ++ List.replicate (2 - (lg_sl ([.int a, .int b])).length) Slot.unset).toArray = ls at hl ⊢
  have hl : lv_has ls 2 [(0, .int a), (1, .int b)] := hl
  generalize hR : S_LC_cellOf σ a b = res
  unfold S_LC_cellOf at hR
  refine lv_iload_n hx hb d_LC_cellOf_0 rfl (lv_at hl 0 rfl) ?_
  refine lv_bipush (v := 30) hx hb d_LC_cellOf_1 (by decide) ?_
  refine lv_imul hx hb d_LC_cellOf_3 ?_
  refine lv_iload_n hx hb d_LC_cellOf_4 rfl (lv_at hl 1 rfl) ?_
  refine lv_iadd hx hb d_LC_cellOf_5 ?_
  subst hR
  refine W.widen (k := 0) (n := 0) (by decide) (by decide) ?_; exact xr_i hx hb hr hlocks d_LC_cellOf_6

abbrev rm_LC_requireKind : Room := { frames := 6, cells := 1, slots := 6, locals := 82 }
def S_LC_requireKind (σ : XS) (x : Int32) : Unit ⊕ String := (if x < 0 then .inr "java/lang/IllegalArgumentException" else (if x < (6 : Int32) then .inl () else .inr "java/lang/IllegalArgumentException"))
set_option maxHeartbeats 4000000 in
set_option maxRecDepth 100000 in
theorem c_LC_requireKind {l : Launch} {s0 : State} {A0 : Array Value} {D : va_G} {dA : Nat → ClassId} (h0 : XS0 l s0 A0 D dA) (σ : XS) (x : Int32)  : XMet l y_LC_requireKind [cw_LC_requireKind] rm_LC_requireKind (XP D dA s0 σ [.int x]) (XQp xv_v (S_LC_requireKind σ x)) 1 6 (fun _ => False) := by
  refine XMet.ofW (cc := b_LC_requireKind) (maxL := 1) (ret := none) (by decide) rfl ?_
  intro p e s m args below meth c s₁ Bd hml hv
  obtain ⟨rfl, hX, hO⟩ := hv
  have hx := Bd.exec
  have hb := Bd.bytes
  have hr := Bd.returns
  have hown : s.vm.findClass "LoadChecks" = some m.cls := findClass_of_methodNamed Bd.named
  have hlocks := Bd.notSynchronized
  have hnt : c.exceptionTable.isEmpty = true := Bd.noHandlers (atoms_spec (ws := [cw_LC_requireKind]) Bd.pre _ List.mem_cons_self)
  have hW0 := hO.1
  have hts := xs_w (args := ([.int x] : List Value).toArray) h0 hW0
  have hK := xs_K h0 hW0
  have hl := lv_entry ([.int x]) (n := 1) (Nat.le_of_ble_eq_true rfl)
  rw [lg_entry_eq]
  generalize (lg_sl ([.int x]) ++ List.replicate (1 - (lg_sl ([.int x])).length) Slot.unset).toArray = ls at hl ⊢
  have hl : lv_has ls 1 [(0, .int x)] := hl
  generalize hR : S_LC_requireKind σ x = res
  unfold S_LC_requireKind at hR
  refine lv_iload_n hx hb d_LC_requireKind_0 rfl (lv_at hl 0 rfl) ?_
  refine lv_if_lt (tgt := 10) hx hb d_LC_requireKind_1 (by decide) (fun c1 => ?_) (fun c1 => ?_)
  · rw [if_pos c1] at hR
    obtain ⟨qs, hqs⟩ := xs_str h0 hW0 (own := "LoadChecks") (k := 219) (tx := "no such kind") (by decide +kernel); subst hR; refine W.widen (k := 0) (n := 0) (by decide) (by decide) ?_; exact x_throw hx hb h0.1 hown hlocks hnt (hl.1.trans hml.symm) (hts _ w_174) (hts _ w_42) hqs (x_own hO rfl (oa_IAE h0)) (by decide +kernel) (by decide +kernel) d_LC_requireKind_10 d_LC_requireKind_13 d_LC_requireKind_14 d_LC_requireKind_16 d_LC_requireKind_19 (Nat.le_of_ble_eq_true rfl) (Nat.le_of_ble_eq_true rfl) (Nat.le_of_ble_eq_true rfl) (Nat.le_of_ble_eq_true rfl) (fun x t h1 h2 => Or.inr ⟨_, x, rfl, rfl, h1, h2⟩)
  · rw [if_neg c1] at hR
    refine lv_iload_n hx hb d_LC_requireKind_4 rfl (lv_at hl 0 rfl) ?_
    refine lv_bipush (v := 6) hx hb d_LC_requireKind_5 (by decide) ?_
    refine lv_icmp_lt (tgt := 20) hx hb d_LC_requireKind_7 (by decide) (fun c7 => ?_) (fun c7 => ?_)
    · rw [if_pos c7] at hR
      subst hR
      refine W.widen (k := 1) (n := 6) (by decide) (by decide) ?_; exact xr_v hx hb hr hlocks d_LC_requireKind_20
    · rw [if_neg c7] at hR
      obtain ⟨qs, hqs⟩ := xs_str h0 hW0 (own := "LoadChecks") (k := 219) (tx := "no such kind") (by decide +kernel); subst hR; refine W.widen (k := 0) (n := 0) (by decide) (by decide) ?_; exact x_throw hx hb h0.1 hown hlocks hnt (hl.1.trans hml.symm) (hts _ w_174) (hts _ w_42) hqs (x_own hO rfl (oa_IAE h0)) (by decide +kernel) (by decide +kernel) d_LC_requireKind_10 d_LC_requireKind_13 d_LC_requireKind_14 d_LC_requireKind_16 d_LC_requireKind_19 (Nat.le_of_ble_eq_true rfl) (Nat.le_of_ble_eq_true rfl) (Nat.le_of_ble_eq_true rfl) (Nat.le_of_ble_eq_true rfl) (fun x t h1 h2 => Or.inr ⟨_, x, rfl, rfl, h1, h2⟩)

abbrev rm_LC_requireCupboard : Room := { frames := 6, cells := 1, slots := 6, locals := 82 }
def S_LC_requireCupboard (σ : XS) (x : Int32) : Unit ⊕ String := (if x < 0 then .inr "java/lang/IllegalArgumentException" else (if x < (8 : Int32) then .inl () else .inr "java/lang/IllegalArgumentException"))
set_option maxHeartbeats 4000000 in
set_option maxRecDepth 100000 in
theorem c_LC_requireCupboard {l : Launch} {s0 : State} {A0 : Array Value} {D : va_G} {dA : Nat → ClassId} (h0 : XS0 l s0 A0 D dA) (σ : XS) (x : Int32)  : XMet l y_LC_requireCupboard [cw_LC_requireCupboard] rm_LC_requireCupboard (XP D dA s0 σ [.int x]) (XQp xv_v (S_LC_requireCupboard σ x)) 1 6 (fun _ => False) := by
  refine XMet.ofW (cc := b_LC_requireCupboard) (maxL := 1) (ret := none) (by decide) rfl ?_
  intro p e s m args below meth c s₁ Bd hml hv
  obtain ⟨rfl, hX, hO⟩ := hv
  have hx := Bd.exec
  have hb := Bd.bytes
  have hr := Bd.returns
  have hown : s.vm.findClass "LoadChecks" = some m.cls := findClass_of_methodNamed Bd.named
  have hlocks := Bd.notSynchronized
  have hnt : c.exceptionTable.isEmpty = true := Bd.noHandlers (atoms_spec (ws := [cw_LC_requireCupboard]) Bd.pre _ List.mem_cons_self)
  have hW0 := hO.1
  have hts := xs_w (args := ([.int x] : List Value).toArray) h0 hW0
  have hK := xs_K h0 hW0
  have hl := lv_entry ([.int x]) (n := 1) (Nat.le_of_ble_eq_true rfl)
  rw [lg_entry_eq]
  generalize (lg_sl ([.int x]) ++ List.replicate (1 - (lg_sl ([.int x])).length) Slot.unset).toArray = ls at hl ⊢
  have hl : lv_has ls 1 [(0, .int x)] := hl
  generalize hR : S_LC_requireCupboard σ x = res
  unfold S_LC_requireCupboard at hR
  refine lv_iload_n hx hb d_LC_requireCupboard_0 rfl (lv_at hl 0 rfl) ?_
  refine lv_if_lt (tgt := 10) hx hb d_LC_requireCupboard_1 (by decide) (fun c1 => ?_) (fun c1 => ?_)
  · rw [if_pos c1] at hR
    obtain ⟨qs, hqs⟩ := xs_str h0 hW0 (own := "LoadChecks") (k := 221) (tx := "no such cupboard") (by decide +kernel); subst hR; refine W.widen (k := 0) (n := 0) (by decide) (by decide) ?_; exact x_throw hx hb h0.1 hown hlocks hnt (hl.1.trans hml.symm) (hts _ w_174) (hts _ w_42) hqs (x_own hO rfl (oa_IAE h0)) (by decide +kernel) (by decide +kernel) d_LC_requireCupboard_10 d_LC_requireCupboard_13 d_LC_requireCupboard_14 d_LC_requireCupboard_16 d_LC_requireCupboard_19 (Nat.le_of_ble_eq_true rfl) (Nat.le_of_ble_eq_true rfl) (Nat.le_of_ble_eq_true rfl) (Nat.le_of_ble_eq_true rfl) (fun x t h1 h2 => Or.inr ⟨_, x, rfl, rfl, h1, h2⟩)
  · rw [if_neg c1] at hR
    refine lv_iload_n hx hb d_LC_requireCupboard_4 rfl (lv_at hl 0 rfl) ?_
    refine lv_bipush (v := 8) hx hb d_LC_requireCupboard_5 (by decide) ?_
    refine lv_icmp_lt (tgt := 20) hx hb d_LC_requireCupboard_7 (by decide) (fun c7 => ?_) (fun c7 => ?_)
    · rw [if_pos c7] at hR
      subst hR
      refine W.widen (k := 1) (n := 6) (by decide) (by decide) ?_; exact xr_v hx hb hr hlocks d_LC_requireCupboard_20
    · rw [if_neg c7] at hR
      obtain ⟨qs, hqs⟩ := xs_str h0 hW0 (own := "LoadChecks") (k := 221) (tx := "no such cupboard") (by decide +kernel); subst hR; refine W.widen (k := 0) (n := 0) (by decide) (by decide) ?_; exact x_throw hx hb h0.1 hown hlocks hnt (hl.1.trans hml.symm) (hts _ w_174) (hts _ w_42) hqs (x_own hO rfl (oa_IAE h0)) (by decide +kernel) (by decide +kernel) d_LC_requireCupboard_10 d_LC_requireCupboard_13 d_LC_requireCupboard_14 d_LC_requireCupboard_16 d_LC_requireCupboard_19 (Nat.le_of_ble_eq_true rfl) (Nat.le_of_ble_eq_true rfl) (Nat.le_of_ble_eq_true rfl) (Nat.le_of_ble_eq_true rfl) (fun x t h1 h2 => Or.inr ⟨_, x, rfl, rfl, h1, h2⟩)

abbrev rm_LC_requireItem : Room := { frames := 6, cells := 1, slots := 6, locals := 82 }
def S_LC_requireItem (σ : XS) (x : Int32) : Unit ⊕ String := (if x < 0 then .inr "java/lang/IllegalArgumentException" else (if x < (30 : Int32) then .inl () else .inr "java/lang/IllegalArgumentException"))
set_option maxHeartbeats 4000000 in
set_option maxRecDepth 100000 in
theorem c_LC_requireItem {l : Launch} {s0 : State} {A0 : Array Value} {D : va_G} {dA : Nat → ClassId} (h0 : XS0 l s0 A0 D dA) (σ : XS) (x : Int32)  : XMet l y_LC_requireItem [cw_LC_requireItem] rm_LC_requireItem (XP D dA s0 σ [.int x]) (XQp xv_v (S_LC_requireItem σ x)) 1 6 (fun _ => False) := by
  refine XMet.ofW (cc := b_LC_requireItem) (maxL := 1) (ret := none) (by decide) rfl ?_
  intro p e s m args below meth c s₁ Bd hml hv
  obtain ⟨rfl, hX, hO⟩ := hv
  have hx := Bd.exec
  have hb := Bd.bytes
  have hr := Bd.returns
  have hown : s.vm.findClass "LoadChecks" = some m.cls := findClass_of_methodNamed Bd.named
  have hlocks := Bd.notSynchronized
  have hnt : c.exceptionTable.isEmpty = true := Bd.noHandlers (atoms_spec (ws := [cw_LC_requireItem]) Bd.pre _ List.mem_cons_self)
  have hW0 := hO.1
  have hts := xs_w (args := ([.int x] : List Value).toArray) h0 hW0
  have hK := xs_K h0 hW0
  have hl := lv_entry ([.int x]) (n := 1) (Nat.le_of_ble_eq_true rfl)
  rw [lg_entry_eq]
  generalize (lg_sl ([.int x]) ++ List.replicate (1 - (lg_sl ([.int x])).length) Slot.unset).toArray = ls at hl ⊢
  have hl : lv_has ls 1 [(0, .int x)] := hl
  generalize hR : S_LC_requireItem σ x = res
  unfold S_LC_requireItem at hR
  refine lv_iload_n hx hb d_LC_requireItem_0 rfl (lv_at hl 0 rfl) ?_
  refine lv_if_lt (tgt := 10) hx hb d_LC_requireItem_1 (by decide) (fun c1 => ?_) (fun c1 => ?_)
  · rw [if_pos c1] at hR
    obtain ⟨qs, hqs⟩ := xs_str h0 hW0 (own := "LoadChecks") (k := 223) (tx := "no such item") (by decide +kernel); subst hR; refine W.widen (k := 0) (n := 0) (by decide) (by decide) ?_; exact x_throw hx hb h0.1 hown hlocks hnt (hl.1.trans hml.symm) (hts _ w_174) (hts _ w_42) hqs (x_own hO rfl (oa_IAE h0)) (by decide +kernel) (by decide +kernel) d_LC_requireItem_10 d_LC_requireItem_13 d_LC_requireItem_14 d_LC_requireItem_16 d_LC_requireItem_19 (Nat.le_of_ble_eq_true rfl) (Nat.le_of_ble_eq_true rfl) (Nat.le_of_ble_eq_true rfl) (Nat.le_of_ble_eq_true rfl) (fun x t h1 h2 => Or.inr ⟨_, x, rfl, rfl, h1, h2⟩)
  · rw [if_neg c1] at hR
    refine lv_iload_n hx hb d_LC_requireItem_4 rfl (lv_at hl 0 rfl) ?_
    refine lv_bipush (v := 30) hx hb d_LC_requireItem_5 (by decide) ?_
    refine lv_icmp_lt (tgt := 20) hx hb d_LC_requireItem_7 (by decide) (fun c7 => ?_) (fun c7 => ?_)
    · rw [if_pos c7] at hR
      subst hR
      refine W.widen (k := 1) (n := 6) (by decide) (by decide) ?_; exact xr_v hx hb hr hlocks d_LC_requireItem_20
    · rw [if_neg c7] at hR
      obtain ⟨qs, hqs⟩ := xs_str h0 hW0 (own := "LoadChecks") (k := 223) (tx := "no such item") (by decide +kernel); subst hR; refine W.widen (k := 0) (n := 0) (by decide) (by decide) ?_; exact x_throw hx hb h0.1 hown hlocks hnt (hl.1.trans hml.symm) (hts _ w_174) (hts _ w_42) hqs (x_own hO rfl (oa_IAE h0)) (by decide +kernel) (by decide +kernel) d_LC_requireItem_10 d_LC_requireItem_13 d_LC_requireItem_14 d_LC_requireItem_16 d_LC_requireItem_19 (Nat.le_of_ble_eq_true rfl) (Nat.le_of_ble_eq_true rfl) (Nat.le_of_ble_eq_true rfl) (Nat.le_of_ble_eq_true rfl) (fun x t h1 h2 => Or.inr ⟨_, x, rfl, rfl, h1, h2⟩)

abbrev rm_LC_requireRange : Room := { frames := 6, cells := 1, slots := 6, locals := 82 }
def S_LC_requireRange (σ : XS) (x : Int32) (lo : Int32) (hi : Int32) : Unit ⊕ String := (if x < lo then .inr "java/lang/IndexOutOfBoundsException" else (if x ≤ hi then .inl () else .inr "java/lang/IndexOutOfBoundsException"))
set_option maxHeartbeats 4000000 in
set_option maxRecDepth 100000 in
theorem c_LC_requireRange {l : Launch} {s0 : State} {A0 : Array Value} {D : va_G} {dA : Nat → ClassId} (h0 : XS0 l s0 A0 D dA) (σ : XS) (x : Int32) (lo : Int32) (hi : Int32)  : XMet l y_LC_requireRange [cw_LC_requireRange] rm_LC_requireRange (XP D dA s0 σ [.int x, .int lo, .int hi]) (XQp xv_v (S_LC_requireRange σ x lo hi)) 1 6 (fun _ => False) := by
  refine XMet.ofW (cc := b_LC_requireRange) (maxL := 3) (ret := none) (by decide) rfl ?_
  intro p e s m args below meth c s₁ Bd hml hv
  obtain ⟨rfl, hX, hO⟩ := hv
  have hx := Bd.exec
  have hb := Bd.bytes
  have hr := Bd.returns
  have hown : s.vm.findClass "LoadChecks" = some m.cls := findClass_of_methodNamed Bd.named
  have hlocks := Bd.notSynchronized
  have hnt : c.exceptionTable.isEmpty = true := Bd.noHandlers (atoms_spec (ws := [cw_LC_requireRange]) Bd.pre _ List.mem_cons_self)
  have hW0 := hO.1
  have hts := xs_w (args := ([.int x, .int lo, .int hi] : List Value).toArray) h0 hW0
  have hK := xs_K h0 hW0
  have hl := lv_entry ([.int x, .int lo, .int hi]) (n := 3) (Nat.le_of_ble_eq_true rfl)
  rw [lg_entry_eq]
  generalize (lg_sl ([.int x, .int lo, .int hi]) ++ List.replicate (3 - (lg_sl ([.int x, .int lo, .int hi])).length) Slot.unset).toArray = ls at hl ⊢
  have hl : lv_has ls 3 [(0, .int x), (1, .int lo), (2, .int hi)] := hl
  generalize hR : S_LC_requireRange σ x lo hi = res
  unfold S_LC_requireRange at hR
  refine lv_iload_n hx hb d_LC_requireRange_0 rfl (lv_at hl 0 rfl) ?_
  refine lv_iload_n hx hb d_LC_requireRange_1 rfl (lv_at hl 1 rfl) ?_
  refine lv_icmp_lt (tgt := 10) hx hb d_LC_requireRange_2 (by decide) (fun c2 => ?_) (fun c2 => ?_)
  · rw [if_pos c2] at hR
    obtain ⟨qs, hqs⟩ := xs_str h0 hW0 (own := "LoadChecks") (k := 225) (tx := "outside its range") (by decide +kernel); subst hR; refine W.widen (k := 0) (n := 0) (by decide) (by decide) ?_; exact x_throw hx hb h0.1 hown hlocks hnt (hl.1.trans hml.symm) (hts _ w_247) (hts _ w_43) hqs (x_own hO rfl (oa_IOB h0)) (by decide +kernel) (by decide +kernel) d_LC_requireRange_10 d_LC_requireRange_13 d_LC_requireRange_14 d_LC_requireRange_16 d_LC_requireRange_19 (Nat.le_of_ble_eq_true rfl) (Nat.le_of_ble_eq_true rfl) (Nat.le_of_ble_eq_true rfl) (Nat.le_of_ble_eq_true rfl) (fun x t h1 h2 => Or.inr ⟨_, x, rfl, rfl, h1, h2⟩)
  · rw [if_neg c2] at hR
    refine lv_iload_n hx hb d_LC_requireRange_5 rfl (lv_at hl 0 rfl) ?_
    refine lv_iload_n hx hb d_LC_requireRange_6 rfl (lv_at hl 2 rfl) ?_
    refine lv_icmp_le (tgt := 20) hx hb d_LC_requireRange_7 (by decide) (fun c7 => ?_) (fun c7 => ?_)
    · rw [if_pos c7] at hR
      subst hR
      refine W.widen (k := 1) (n := 6) (by decide) (by decide) ?_; exact xr_v hx hb hr hlocks d_LC_requireRange_20
    · rw [if_neg c7] at hR
      obtain ⟨qs, hqs⟩ := xs_str h0 hW0 (own := "LoadChecks") (k := 225) (tx := "outside its range") (by decide +kernel); subst hR; refine W.widen (k := 0) (n := 0) (by decide) (by decide) ?_; exact x_throw hx hb h0.1 hown hlocks hnt (hl.1.trans hml.symm) (hts _ w_247) (hts _ w_43) hqs (x_own hO rfl (oa_IOB h0)) (by decide +kernel) (by decide +kernel) d_LC_requireRange_10 d_LC_requireRange_13 d_LC_requireRange_14 d_LC_requireRange_16 d_LC_requireRange_19 (Nat.le_of_ble_eq_true rfl) (Nat.le_of_ble_eq_true rfl) (Nat.le_of_ble_eq_true rfl) (Nat.le_of_ble_eq_true rfl) (fun x t h1 h2 => Or.inr ⟨_, x, rfl, rfl, h1, h2⟩)

abbrev rm_LC_requireLimits : Room := { frames := 7, cells := 2, slots := 12, locals := 104 }
def S_LC_requireLimits (σ : XS) (a : Int32) (b : Int32) : Unit ⊕ String := (xbp (S_LC_requireRange σ a (0 : Int32) (20000000 : Int32)) fun _ => (xbp (S_LC_requireRange σ b (0 : Int32) (20000000 : Int32)) fun _ => .inl ()))
set_option maxHeartbeats 4000000 in
set_option maxRecDepth 100000 in
theorem c_LC_requireLimits {l : Launch} {s0 : State} {A0 : Array Value} {D : va_G} {dA : Nat → ClassId} (h0 : XS0 l s0 A0 D dA) (σ : XS) (a : Int32) (b : Int32)  : XMet l y_LC_requireLimits [cw_LC_requireLimits] rm_LC_requireLimits (XP D dA s0 σ [.int a, .int b]) (XQp xv_v (S_LC_requireLimits σ a b)) 2 12 (fun _ => False) := by
  refine XMet.ofW (cc := b_LC_requireLimits) (maxL := 2) (ret := none) (by decide) rfl ?_
  intro p e s m args below meth c s₁ Bd hml hv
  obtain ⟨rfl, hX, hO⟩ := hv
  have hx := Bd.exec
  have hb := Bd.bytes
  have hr := Bd.returns
  have hown : s.vm.findClass "LoadChecks" = some m.cls := findClass_of_methodNamed Bd.named
  have hlocks := Bd.notSynchronized
  have hnt : c.exceptionTable.isEmpty = true := Bd.noHandlers (atoms_spec (ws := [cw_LC_requireLimits]) Bd.pre _ List.mem_cons_self)
  have hW0 := hO.1
  have hts := xs_w (args := ([.int a, .int b] : List Value).toArray) h0 hW0
  have hK := xs_K h0 hW0
  have hl := lv_entry ([.int a, .int b]) (n := 2) (Nat.le_of_ble_eq_true rfl)
  rw [lg_entry_eq]
  generalize (lg_sl ([.int a, .int b]) ++ List.replicate (2 - (lg_sl ([.int a, .int b])).length) Slot.unset).toArray = ls at hl ⊢
  have hl : lv_has ls 2 [(0, .int a), (1, .int b)] := hl
  generalize hR : S_LC_requireLimits σ a b = res
  unfold S_LC_requireLimits at hR
  refine lv_iload_n hx hb d_LC_requireLimits_0 rfl (lv_at hl 0 rfl) ?_
  refine lv_iconst (v := 0) hx hb d_LC_requireLimits_1 (by decide) ?_
  refine lv_ldc (v := 20000000) hx hb hown (hts _ w_266) d_LC_requireLimits_2 ?_
  refine xc_p (rest := []) (x_invS (argsL := [.int a, .int (0 : Int32), .int (20000000 : Int32)]) hx hb hown (hts _ w_244) (hts _ w_245) (hts _ w_34) (x_code (hts _ w_246)) ⟨by decide, by decide⟩ rfl rfl rfl d_LC_requireLimits_4) (c_LC_requireRange h0 σ a (0 : Int32) (20000000 : Int32)) (xs_cw h0 hW0 m_246) (hts _ w_34) ⟨rfl, rfl, Nat.le_of_ble_eq_true rfl, Nat.le_of_ble_eq_true rfl⟩ (hl.1.trans hml.symm) (by rw [hb]; exact d_LC_requireLimits_4) (Nat.le_of_ble_eq_true rfl) ⟨Nat.le_of_ble_eq_true rfl, Nat.le_of_ble_eq_true rfl⟩ hX hO (fun v4 hM4 => ?_) (fun E4 x4 H4 hM4 hE4 he4 => ?_)
  · rw [hM4] at hR
    dsimp only [xbp] at hR
    refine lv_iload_n hx hb d_LC_requireLimits_7 rfl (lv_at hl 1 rfl) ?_
    refine lv_iconst (v := 0) hx hb d_LC_requireLimits_8 (by decide) ?_
    refine lv_ldc (v := 20000000) hx hb hown (hts _ w_266) d_LC_requireLimits_9 ?_
    refine xc_p (rest := []) (x_invS (argsL := [.int b, .int (0 : Int32), .int (20000000 : Int32)]) hx hb hown (hts _ w_244) (hts _ w_245) (hts _ w_34) (x_code (hts _ w_246)) ⟨by decide, by decide⟩ rfl rfl rfl d_LC_requireLimits_11) (c_LC_requireRange h0 σ b (0 : Int32) (20000000 : Int32)) (xs_cw h0 hW0 m_246) (hts _ w_34) ⟨rfl, rfl, Nat.le_of_ble_eq_true rfl, Nat.le_of_ble_eq_true rfl⟩ (hl.1.trans hml.symm) (by rw [hb]; exact d_LC_requireLimits_11) (Nat.le_of_ble_eq_true rfl) ⟨Nat.le_of_ble_eq_true rfl, Nat.le_of_ble_eq_true rfl⟩ hX hO (fun v11 hM11 => ?_) (fun E11 x11 H11 hM11 hE11 he11 => ?_)
    · rw [hM11] at hR
      dsimp only [xbp] at hR
      subst hR
      refine W.widen (k := 2) (n := 12) (by decide) (by decide) ?_; exact xr_v hx hb hr hlocks d_LC_requireLimits_14
    · rw [hM11] at hR
      dsimp only [xbp] at hR
      subst hR
      refine xt_wid (k := 2) (n := 12) (by decide) (by decide) ?_
      exact xt_p hlocks hnt hE11 he11
  · rw [hM4] at hR
    dsimp only [xbp] at hR
    subst hR
    refine xt_wid (k := 2) (n := 12) (by decide) (by decide) ?_
    exact xt_p hlocks hnt hE4 he4

abbrev rm_LC_knownVehicle : Room := { frames := 6, cells := 1, slots := 6, locals := 82 }
def S_LC_knownVehicle (σ : XS) (v : Int32) : Nat ⊕ String := (if v < 0 then .inr "java/lang/IllegalArgumentException" else (if v < (σ.1 0 0 6) then .inl v.toNatClampNeg else .inr "java/lang/IllegalArgumentException"))
set_option maxHeartbeats 4000000 in
set_option maxRecDepth 100000 in
theorem c_LC_knownVehicle {l : Launch} {s0 : State} {A0 : Array Value} {D : va_G} {dA : Nat → ClassId} (h0 : XS0 l s0 A0 D dA) (σ : XS) (v : Int32) (hok : XOk σ) : XMet l y_LC_knownVehicle [cw_LC_knownVehicle] rm_LC_knownVehicle (XP D dA s0 σ [.ref (xB s0 + XA 0 0), .int v]) (XQp (xv_r s0 9) (S_LC_knownVehicle σ v)) 1 6 (fun _ => False) := by
  refine XMet.ofW (cc := b_LC_knownVehicle) (maxL := 2) (ret := (some (.object "LoadChecks$Vehicle"))) (by decide) rfl ?_
  intro p e s m args below meth c s₁ Bd hml hv
  obtain ⟨rfl, hX, hO⟩ := hv
  have hx := Bd.exec
  have hb := Bd.bytes
  have hr := Bd.returns
  have hown : s.vm.findClass "LoadChecks" = some m.cls := findClass_of_methodNamed Bd.named
  have hlocks := Bd.notSynchronized
  have hnt : c.exceptionTable.isEmpty = true := Bd.noHandlers (atoms_spec (ws := [cw_LC_knownVehicle]) Bd.pre _ List.mem_cons_self)
  have hW0 := hO.1
  have hts := xs_w (args := ([.ref (xB s0 + XA 0 0), .int v] : List Value).toArray) h0 hW0
  have hK := xs_K h0 hW0
  have hl := lv_entry ([.ref (xB s0 + XA 0 0), .int v]) (n := 2) (Nat.le_of_ble_eq_true rfl)
  rw [lg_entry_eq]
  generalize (lg_sl ([.ref (xB s0 + XA 0 0), .int v]) ++ List.replicate (2 - (lg_sl ([.ref (xB s0 + XA 0 0), .int v])).length) Slot.unset).toArray = ls at hl ⊢
  have hl : lv_has ls 2 [(0, .ref (xB s0 + XA 0 0)), (1, .int v)] := hl
  generalize hR : S_LC_knownVehicle σ v = res
  unfold S_LC_knownVehicle at hR
  refine lv_iload_n hx hb d_LC_knownVehicle_0 rfl (lv_at hl 1 rfl) ?_
  refine lv_if_lt (tgt := 12) hx hb d_LC_knownVehicle_1 (by decide) (fun c1 => ?_) (fun c1 => ?_)
  · rw [if_pos c1] at hR
    obtain ⟨qs, hqs⟩ := xs_str h0 hW0 (own := "LoadChecks") (k := 217) (tx := "no such vehicle") (by decide +kernel); subst hR; refine W.widen (k := 0) (n := 0) (by decide) (by decide) ?_; exact x_throw hx hb h0.1 hown hlocks hnt (hl.1.trans hml.symm) (hts _ w_174) (hts _ w_42) hqs (x_own hO rfl (oa_IAE h0)) (by decide +kernel) (by decide +kernel) d_LC_knownVehicle_12 d_LC_knownVehicle_15 d_LC_knownVehicle_16 d_LC_knownVehicle_18 d_LC_knownVehicle_21 (Nat.le_of_ble_eq_true rfl) (Nat.le_of_ble_eq_true rfl) (Nat.le_of_ble_eq_true rfl) (Nat.le_of_ble_eq_true rfl) (fun x t h1 h2 => Or.inr ⟨_, x, rfl, rfl, h1, h2⟩)
  · rw [if_neg c1] at hR
    refine lv_iload_n hx hb d_LC_knownVehicle_4 rfl (lv_at hl 1 rfl) ?_
    refine lv_aload_n hx hb d_LC_knownVehicle_5 rfl (lv_at hl 0 rfl) ?_
    refine xw_get (C := R_LC) (T := F_LC) (N := 9) (r := 0) (i := 0) hx hb hts hi_LC hown hK hX (by decide) rfl rfl 6 (by decide) (hts _ w_139) rfl rfl d_LC_knownVehicle_6 ?_
    refine lv_icmp_lt (tgt := 22) hx hb d_LC_knownVehicle_9 (by decide) (fun c9 => ?_) (fun c9 => ?_)
    · rw [if_pos c9] at hR
      refine lv_aload_n hx hb d_LC_knownVehicle_22 rfl (lv_at hl 0 rfl) ?_
      refine xw_get (C := R_LC) (T := F_LC) (N := 9) (r := 0) (i := 0) hx hb hts hi_LC hown hK hX (by decide) rfl rfl 4 (by decide) (hts _ w_137) rfl rfl d_LC_knownVehicle_23 ?_
      refine lv_iload_n hx hb d_LC_knownVehicle_26 rfl (lv_at hl 1 rfl) ?_
      refine xw_aald (r := 6) (i := 0) hx hb hK hX (by decide) 4 rfl rfl rfl (j := v) (o_known hok c1 c9) rfl d_LC_knownVehicle_27 ?_
      subst hR
      refine W.widen (k := 1) (n := 6) (by decide) (by decide) ?_; exact xr_a hx hb hr (Or.inl ⟨_, rfl⟩) hlocks d_LC_knownVehicle_28
    · rw [if_neg c9] at hR
      obtain ⟨qs, hqs⟩ := xs_str h0 hW0 (own := "LoadChecks") (k := 217) (tx := "no such vehicle") (by decide +kernel); subst hR; refine W.widen (k := 0) (n := 0) (by decide) (by decide) ?_; exact x_throw hx hb h0.1 hown hlocks hnt (hl.1.trans hml.symm) (hts _ w_174) (hts _ w_42) hqs (x_own hO rfl (oa_IAE h0)) (by decide +kernel) (by decide +kernel) d_LC_knownVehicle_12 d_LC_knownVehicle_15 d_LC_knownVehicle_16 d_LC_knownVehicle_18 d_LC_knownVehicle_21 (Nat.le_of_ble_eq_true rfl) (Nat.le_of_ble_eq_true rfl) (Nat.le_of_ble_eq_true rfl) (Nat.le_of_ble_eq_true rfl) (fun x t h1 h2 => Or.inr ⟨_, x, rfl, rfl, h1, h2⟩)

abbrev rm_VE_frontMoment : Room := { frames := 0, cells := 0, slots := 0, locals := 0 }
def S_VE_frontMoment (σ : XS) (i : Nat) : Int64 := (((σ.2 9 i 11) * (σ.1 9 i 6).toInt64) - (σ.2 9 i 12))
set_option maxHeartbeats 4000000 in
set_option maxRecDepth 100000 in
theorem c_VE_frontMoment {l : Launch} {s0 : State} {A0 : Array Value} {D : va_G} {dA : Nat → ClassId} (h0 : XS0 l s0 A0 D dA) (σ : XS) (i : Nat) (hi_i : i < 16) : XMet l y_VE_frontMoment [cw_VE_frontMoment] rm_VE_frontMoment (XP D dA s0 σ [.ref (xB s0 + XA 9 i)]) (XQp xv_l (.inl (S_VE_frontMoment σ i))) 0 0 (fun _ => False) := by
  refine XMet.ofW (cc := b_VE_frontMoment) (maxL := 1) (ret := (some .long)) (by decide) rfl ?_
  intro p e s m args below meth c s₁ Bd hml hv
  obtain ⟨rfl, hX, hO⟩ := hv
  have hx := Bd.exec
  have hb := Bd.bytes
  have hr := Bd.returns
  have hown : s.vm.findClass "LoadChecks$Vehicle" = some m.cls := findClass_of_methodNamed Bd.named
  have hlocks := Bd.notSynchronized
  have hnt : c.exceptionTable.isEmpty = true := Bd.noHandlers (atoms_spec (ws := [cw_VE_frontMoment]) Bd.pre _ List.mem_cons_self)
  have hW0 := hO.1
  have hts := xs_w (args := ([.ref (xB s0 + XA 9 i)] : List Value).toArray) h0 hW0
  have hK := xs_K h0 hW0
  have hl := lv_entry ([.ref (xB s0 + XA 9 i)]) (n := 1) (Nat.le_of_ble_eq_true rfl)
  rw [lg_entry_eq]
  generalize (lg_sl ([.ref (xB s0 + XA 9 i)]) ++ List.replicate (1 - (lg_sl ([.ref (xB s0 + XA 9 i)])).length) Slot.unset).toArray = ls at hl ⊢
  have hl : lv_has ls 1 [(0, .ref (xB s0 + XA 9 i))] := hl
  generalize hR : S_VE_frontMoment σ i = res
  unfold S_VE_frontMoment at hR
  refine lv_aload_n hx hb d_VE_frontMoment_0 rfl (lv_at hl 0 rfl) ?_
  refine xw_get (C := R_VE) (T := F_VE) (N := 13) (r := 9) (i := i) hx hb hts hi_VE hown hK hX hi_i rfl rfl 11 (by decide) (hts _ w_103) rfl rfl d_VE_frontMoment_1 ?_
  refine lv_aload_n hx hb d_VE_frontMoment_4 rfl (lv_at hl 0 rfl) ?_
  refine xw_get (C := R_VE) (T := F_VE) (N := 13) (r := 9) (i := i) hx hb hts hi_VE hown hK hX hi_i rfl rfl 6 (by decide) (hts _ w_93) rfl rfl d_VE_frontMoment_5 ?_
  refine lv_i2l hx hb d_VE_frontMoment_8 rfl ?_
  refine lv_lmul hx hb d_VE_frontMoment_9 ?_
  refine lv_aload_n hx hb d_VE_frontMoment_10 rfl (lv_at hl 0 rfl) ?_
  refine xw_get (C := R_VE) (T := F_VE) (N := 13) (r := 9) (i := i) hx hb hts hi_VE hown hK hX hi_i rfl rfl 12 (by decide) (hts _ w_104) rfl rfl d_VE_frontMoment_11 ?_
  refine lv_lsub hx hb d_VE_frontMoment_14 ?_
  subst hR
  refine W.widen (k := 0) (n := 0) (by decide) (by decide) ?_; exact xr_l hx hb hr hlocks d_VE_frontMoment_15

abbrev rm_VE_rearMoment : Room := { frames := 0, cells := 0, slots := 0, locals := 0 }
def S_VE_rearMoment (σ : XS) (i : Nat) : Int64 := (σ.2 9 i 12)
set_option maxHeartbeats 4000000 in
set_option maxRecDepth 100000 in
theorem c_VE_rearMoment {l : Launch} {s0 : State} {A0 : Array Value} {D : va_G} {dA : Nat → ClassId} (h0 : XS0 l s0 A0 D dA) (σ : XS) (i : Nat) (hi_i : i < 16) : XMet l y_VE_rearMoment [cw_VE_rearMoment] rm_VE_rearMoment (XP D dA s0 σ [.ref (xB s0 + XA 9 i)]) (XQp xv_l (.inl (S_VE_rearMoment σ i))) 0 0 (fun _ => False) := by
  refine XMet.ofW (cc := b_VE_rearMoment) (maxL := 1) (ret := (some .long)) (by decide) rfl ?_
  intro p e s m args below meth c s₁ Bd hml hv
  obtain ⟨rfl, hX, hO⟩ := hv
  have hx := Bd.exec
  have hb := Bd.bytes
  have hr := Bd.returns
  have hown : s.vm.findClass "LoadChecks$Vehicle" = some m.cls := findClass_of_methodNamed Bd.named
  have hlocks := Bd.notSynchronized
  have hnt : c.exceptionTable.isEmpty = true := Bd.noHandlers (atoms_spec (ws := [cw_VE_rearMoment]) Bd.pre _ List.mem_cons_self)
  have hW0 := hO.1
  have hts := xs_w (args := ([.ref (xB s0 + XA 9 i)] : List Value).toArray) h0 hW0
  have hK := xs_K h0 hW0
  have hl := lv_entry ([.ref (xB s0 + XA 9 i)]) (n := 1) (Nat.le_of_ble_eq_true rfl)
  rw [lg_entry_eq]
  generalize (lg_sl ([.ref (xB s0 + XA 9 i)]) ++ List.replicate (1 - (lg_sl ([.ref (xB s0 + XA 9 i)])).length) Slot.unset).toArray = ls at hl ⊢
  have hl : lv_has ls 1 [(0, .ref (xB s0 + XA 9 i))] := hl
  generalize hR : S_VE_rearMoment σ i = res
  unfold S_VE_rearMoment at hR
  refine lv_aload_n hx hb d_VE_rearMoment_0 rfl (lv_at hl 0 rfl) ?_
  refine xw_get (C := R_VE) (T := F_VE) (N := 13) (r := 9) (i := i) hx hb hts hi_VE hown hK hX hi_i rfl rfl 12 (by decide) (hts _ w_104) rfl rfl d_VE_rearMoment_1 ?_
  subst hR
  refine W.widen (k := 0) (n := 0) (by decide) (by decide) ?_; exact xr_l hx hb hr hlocks d_VE_rearMoment_4

abbrev rm_VE_exceeds : Room := { frames := 0, cells := 0, slots := 0, locals := 0 }
def S_VE_exceeds (σ : XS) (i : Nat) (mo : Int64) (lim : Int32) : Int32 := (if (lg_cmp mo (lim.toInt64 * (σ.1 9 i 6).toInt64)) ≤ 0 then (0 : Int32) else (1 : Int32))
set_option maxHeartbeats 4000000 in
set_option maxRecDepth 100000 in
theorem c_VE_exceeds {l : Launch} {s0 : State} {A0 : Array Value} {D : va_G} {dA : Nat → ClassId} (h0 : XS0 l s0 A0 D dA) (σ : XS) (i : Nat) (mo : Int64) (lim : Int32) (hi_i : i < 16) : XMet l y_VE_exceeds [cw_VE_exceeds] rm_VE_exceeds (XP D dA s0 σ [.ref (xB s0 + XA 9 i), .long mo, .int lim]) (XQp xv_i (.inl (S_VE_exceeds σ i mo lim))) 0 0 (fun _ => False) := by
  refine XMet.ofW (cc := b_VE_exceeds) (maxL := 4) (ret := (some .boolean)) (by decide) rfl ?_
  intro p e s m args below meth c s₁ Bd hml hv
  obtain ⟨rfl, hX, hO⟩ := hv
  have hx := Bd.exec
  have hb := Bd.bytes
  have hr := Bd.returns
  have hown : s.vm.findClass "LoadChecks$Vehicle" = some m.cls := findClass_of_methodNamed Bd.named
  have hlocks := Bd.notSynchronized
  have hnt : c.exceptionTable.isEmpty = true := Bd.noHandlers (atoms_spec (ws := [cw_VE_exceeds]) Bd.pre _ List.mem_cons_self)
  have hW0 := hO.1
  have hts := xs_w (args := ([.ref (xB s0 + XA 9 i), .long mo, .int lim] : List Value).toArray) h0 hW0
  have hK := xs_K h0 hW0
  have hl := lv_entry ([.ref (xB s0 + XA 9 i), .long mo, .int lim]) (n := 4) (Nat.le_of_ble_eq_true rfl)
  rw [lg_entry_eq]
  generalize (lg_sl ([.ref (xB s0 + XA 9 i), .long mo, .int lim]) ++ List.replicate (4 - (lg_sl ([.ref (xB s0 + XA 9 i), .long mo, .int lim])).length) Slot.unset).toArray = ls at hl ⊢
  have hl : lv_has ls 4 [(0, .ref (xB s0 + XA 9 i)), (1, .long mo), (3, .int lim)] := hl
  generalize hR : S_VE_exceeds σ i mo lim = res
  unfold S_VE_exceeds at hR
  refine lv_lload_n hx hb d_VE_exceeds_0 rfl (lv_at hl 1 rfl) ?_
  refine lv_iload_n hx hb d_VE_exceeds_1 rfl (lv_at hl 2 rfl) ?_
  refine lv_i2l hx hb d_VE_exceeds_2 rfl ?_
  refine lv_aload_n hx hb d_VE_exceeds_3 rfl (lv_at hl 0 rfl) ?_
  refine xw_get (C := R_VE) (T := F_VE) (N := 13) (r := 9) (i := i) hx hb hts hi_VE hown hK hX hi_i rfl rfl 6 (by decide) (hts _ w_93) rfl rfl d_VE_exceeds_4 ?_
  refine lv_i2l hx hb d_VE_exceeds_7 rfl ?_
  refine lv_lmul hx hb d_VE_exceeds_8 ?_
  refine W.lcmp hx hb d_VE_exceeds_9 ?_
  refine lv_if_le (tgt := 17) hx hb d_VE_exceeds_10 (by decide) (fun c10 => ?_) (fun c10 => ?_)
  · rw [if_pos c10] at hR
    refine lv_iconst (v := 0) hx hb d_VE_exceeds_17 (by decide) ?_
    subst hR
    refine W.widen (k := 0) (n := 0) (by decide) (by decide) ?_; exact xr_z hx hb hr hlocks (by rfl) d_VE_exceeds_18
  · rw [if_neg c10] at hR
    refine lv_iconst (v := 1) hx hb d_VE_exceeds_13 (by decide) ?_
    refine lv_goto (tgt := 18) hx hb d_VE_exceeds_14 (by decide) ?_
    subst hR
    refine W.widen (k := 0) (n := 0) (by decide) (by decide) ?_; exact xr_z hx hb hr hlocks (by rfl) d_VE_exceeds_18

abbrev rm_VE_isBeyond : Room := { frames := 1, cells := 0, slots := 0, locals := 23 }
def S_VE_isBeyond (σ : XS) (i : Nat) : Int32 := (if (S_VE_exceeds σ i (S_VE_frontMoment σ i) (σ.1 9 i 7)) = 0 then (if (S_VE_exceeds σ i (S_VE_rearMoment σ i) (σ.1 9 i 8)) = 0 then (0 : Int32) else (1 : Int32)) else (1 : Int32))
set_option maxHeartbeats 4000000 in
set_option maxRecDepth 100000 in
theorem c_VE_isBeyond {l : Launch} {s0 : State} {A0 : Array Value} {D : va_G} {dA : Nat → ClassId} (h0 : XS0 l s0 A0 D dA) (σ : XS) (i : Nat) (hi_i : i < 16) : XMet l y_VE_isBeyond [cw_VE_isBeyond] rm_VE_isBeyond (XP D dA s0 σ [.ref (xB s0 + XA 9 i)]) (XQp xv_i (.inl (S_VE_isBeyond σ i))) 0 0 (fun _ => False) := by
  refine XMet.ofW (cc := b_VE_isBeyond) (maxL := 1) (ret := (some .boolean)) (by decide) rfl ?_
  intro p e s m args below meth c s₁ Bd hml hv
  obtain ⟨rfl, hX, hO⟩ := hv
  have hx := Bd.exec
  have hb := Bd.bytes
  have hr := Bd.returns
  have hown : s.vm.findClass "LoadChecks$Vehicle" = some m.cls := findClass_of_methodNamed Bd.named
  have hlocks := Bd.notSynchronized
  have hnt : c.exceptionTable.isEmpty = true := Bd.noHandlers (atoms_spec (ws := [cw_VE_isBeyond]) Bd.pre _ List.mem_cons_self)
  have hW0 := hO.1
  have hts := xs_w (args := ([.ref (xB s0 + XA 9 i)] : List Value).toArray) h0 hW0
  have hK := xs_K h0 hW0
  have hl := lv_entry ([.ref (xB s0 + XA 9 i)]) (n := 1) (Nat.le_of_ble_eq_true rfl)
  rw [lg_entry_eq]
  generalize (lg_sl ([.ref (xB s0 + XA 9 i)]) ++ List.replicate (1 - (lg_sl ([.ref (xB s0 + XA 9 i)])).length) Slot.unset).toArray = ls at hl ⊢
  have hl : lv_has ls 1 [(0, .ref (xB s0 + XA 9 i))] := hl
  generalize hR : S_VE_isBeyond σ i = res
  unfold S_VE_isBeyond at hR
  refine lv_aload_n hx hb d_VE_isBeyond_0 rfl (lv_at hl 0 rfl) ?_
  refine lv_aload_n hx hb d_VE_isBeyond_1 rfl (lv_at hl 0 rfl) ?_
  obtain ⟨cB2, hcB2, hoB2, hkB2⟩ := xw_recv (r := 9) (i := i) hK hX hi_i rfl rfl
  refine xc_f (rest := [.ref (xB s0 + XA 9 i)]) (x_invV (argsL := []) hx hb hown (hts _ w_382) (hts _ w_384) (hts _ w_7) (x_code (hts _ w_385)) ⟨by decide, by decide⟩ hcB2 hoB2 hkB2 rfl rfl rfl d_VE_isBeyond_2) (c_VE_frontMoment h0 σ i hi_i) (xs_cw h0 hW0 m_385) (hts _ w_36) ⟨rfl, rfl, Nat.le_of_ble_eq_true rfl, Nat.le_of_ble_eq_true rfl⟩ (hl.1.trans hml.symm) (by rw [hb]; exact d_VE_isBeyond_2) (Nat.le_of_ble_eq_true rfl) ⟨Nat.le_of_ble_eq_true rfl, Nat.le_of_ble_eq_true rfl⟩ hX hO ?_
  refine lv_aload_n hx hb d_VE_isBeyond_5 rfl (lv_at hl 0 rfl) ?_
  refine xw_get (C := R_VE) (T := F_VE) (N := 13) (r := 9) (i := i) hx hb hts hi_VE hown hK hX hi_i rfl rfl 7 (by decide) (hts _ w_96) rfl rfl d_VE_isBeyond_6 ?_
  obtain ⟨cB9, hcB9, hoB9, hkB9⟩ := xw_recv (r := 9) (i := i) hK hX hi_i rfl rfl
  refine xc_f (rest := []) (x_invV (argsL := [.long (S_VE_frontMoment σ i), .int (σ.1 9 i 7)]) hx hb hown (hts _ w_386) (hts _ w_388) (hts _ w_8) (x_code (hts _ w_389)) ⟨by decide, by decide⟩ hcB9 hoB9 hkB9 rfl rfl rfl d_VE_isBeyond_9) (c_VE_exceeds h0 σ i (S_VE_frontMoment σ i) (σ.1 9 i 7) hi_i) (xs_cw h0 hW0 m_389) (hts _ w_36) ⟨rfl, rfl, Nat.le_of_ble_eq_true rfl, Nat.le_of_ble_eq_true rfl⟩ (hl.1.trans hml.symm) (by rw [hb]; exact d_VE_isBeyond_9) (Nat.le_of_ble_eq_true rfl) ⟨Nat.le_of_ble_eq_true rfl, Nat.le_of_ble_eq_true rfl⟩ hX hO ?_
  refine lv_if_ne (tgt := 30) hx hb d_VE_isBeyond_12 (by decide) (fun c12 => ?_) (fun c12 => ?_)
  · rw [if_neg c12] at hR
    refine lv_iconst (v := 1) hx hb d_VE_isBeyond_30 (by decide) ?_
    refine lv_goto (tgt := 35) hx hb d_VE_isBeyond_31 (by decide) ?_
    subst hR
    refine W.widen (k := 0) (n := 0) (by decide) (by decide) ?_; exact xr_z hx hb hr hlocks (by rfl) d_VE_isBeyond_35
  · rw [if_pos c12] at hR
    refine lv_aload_n hx hb d_VE_isBeyond_15 rfl (lv_at hl 0 rfl) ?_
    refine lv_aload_n hx hb d_VE_isBeyond_16 rfl (lv_at hl 0 rfl) ?_
    obtain ⟨cB17, hcB17, hoB17, hkB17⟩ := xw_recv (r := 9) (i := i) hK hX hi_i rfl rfl
    refine xc_f (rest := [.ref (xB s0 + XA 9 i)]) (x_invV (argsL := []) hx hb hown (hts _ w_390) (hts _ w_392) (hts _ w_9) (x_code (hts _ w_393)) ⟨by decide, by decide⟩ hcB17 hoB17 hkB17 rfl rfl rfl d_VE_isBeyond_17) (c_VE_rearMoment h0 σ i hi_i) (xs_cw h0 hW0 m_393) (hts _ w_36) ⟨rfl, rfl, Nat.le_of_ble_eq_true rfl, Nat.le_of_ble_eq_true rfl⟩ (hl.1.trans hml.symm) (by rw [hb]; exact d_VE_isBeyond_17) (Nat.le_of_ble_eq_true rfl) ⟨Nat.le_of_ble_eq_true rfl, Nat.le_of_ble_eq_true rfl⟩ hX hO ?_
    refine lv_aload_n hx hb d_VE_isBeyond_20 rfl (lv_at hl 0 rfl) ?_
    refine xw_get (C := R_VE) (T := F_VE) (N := 13) (r := 9) (i := i) hx hb hts hi_VE hown hK hX hi_i rfl rfl 8 (by decide) (hts _ w_98) rfl rfl d_VE_isBeyond_21 ?_
    obtain ⟨cB24, hcB24, hoB24, hkB24⟩ := xw_recv (r := 9) (i := i) hK hX hi_i rfl rfl
    refine xc_f (rest := []) (x_invV (argsL := [.long (S_VE_rearMoment σ i), .int (σ.1 9 i 8)]) hx hb hown (hts _ w_386) (hts _ w_388) (hts _ w_8) (x_code (hts _ w_389)) ⟨by decide, by decide⟩ hcB24 hoB24 hkB24 rfl rfl rfl d_VE_isBeyond_24) (c_VE_exceeds h0 σ i (S_VE_rearMoment σ i) (σ.1 9 i 8) hi_i) (xs_cw h0 hW0 m_389) (hts _ w_36) ⟨rfl, rfl, Nat.le_of_ble_eq_true rfl, Nat.le_of_ble_eq_true rfl⟩ (hl.1.trans hml.symm) (by rw [hb]; exact d_VE_isBeyond_24) (Nat.le_of_ble_eq_true rfl) ⟨Nat.le_of_ble_eq_true rfl, Nat.le_of_ble_eq_true rfl⟩ hX hO ?_
    refine lv_if_eq (tgt := 34) hx hb d_VE_isBeyond_27 (by decide) (fun c27 => ?_) (fun c27 => ?_)
    · rw [if_pos c27] at hR
      refine lv_iconst (v := 0) hx hb d_VE_isBeyond_34 (by decide) ?_
      subst hR
      refine W.widen (k := 0) (n := 0) (by decide) (by decide) ?_; exact xr_z hx hb hr hlocks (by rfl) d_VE_isBeyond_35
    · rw [if_neg c27] at hR
      refine lv_iconst (v := 1) hx hb d_VE_isBeyond_30 (by decide) ?_
      refine lv_goto (tgt := 35) hx hb d_VE_isBeyond_31 (by decide) ?_
      subst hR
      refine W.widen (k := 0) (n := 0) (by decide) (by decide) ?_; exact xr_z hx hb hr hlocks (by rfl) d_VE_isBeyond_35
end
section
abbrev rm_VE_bears : Room := { frames := 1, cells := 0, slots := 0, locals := 23 }
def S_VE_bears (σ : XS) (i : Nat) (cell : Int32) (n : Int32) (w : Int32) : Int32 := (if (lg_cmp (((w.toInt64 * n.toInt64) * (σ.1 9 i 6).toInt64) - ((w.toInt64 * n.toInt64) * (σ.1 10 i (cell / (30 : Int32)).toNatClampNeg).toInt64)) (0 : Int64)) ≤ 0 then (if (lg_cmp ((w.toInt64 * n.toInt64) * (σ.1 10 i (cell / (30 : Int32)).toNatClampNeg).toInt64) (0 : Int64)) ≤ 0 then (if (0 : Int32) = 0 then (if (0 : Int32) = 0 then (1 : Int32) else (0 : Int32)) else (0 : Int32)) else (if (S_VE_exceeds σ i ((S_VE_rearMoment σ i) + ((w.toInt64 * n.toInt64) * (σ.1 10 i (cell / (30 : Int32)).toNatClampNeg).toInt64)) (σ.1 9 i 8)) = 0 then (if (0 : Int32) = 0 then (if (0 : Int32) = 0 then (1 : Int32) else (0 : Int32)) else (0 : Int32)) else (if (0 : Int32) = 0 then (if (1 : Int32) = 0 then (1 : Int32) else (0 : Int32)) else (0 : Int32)))) else (if (S_VE_exceeds σ i ((S_VE_frontMoment σ i) + (((w.toInt64 * n.toInt64) * (σ.1 9 i 6).toInt64) - ((w.toInt64 * n.toInt64) * (σ.1 10 i (cell / (30 : Int32)).toNatClampNeg).toInt64))) (σ.1 9 i 7)) = 0 then (if (lg_cmp ((w.toInt64 * n.toInt64) * (σ.1 10 i (cell / (30 : Int32)).toNatClampNeg).toInt64) (0 : Int64)) ≤ 0 then (if (0 : Int32) = 0 then (if (0 : Int32) = 0 then (1 : Int32) else (0 : Int32)) else (0 : Int32)) else (if (S_VE_exceeds σ i ((S_VE_rearMoment σ i) + ((w.toInt64 * n.toInt64) * (σ.1 10 i (cell / (30 : Int32)).toNatClampNeg).toInt64)) (σ.1 9 i 8)) = 0 then (if (0 : Int32) = 0 then (if (0 : Int32) = 0 then (1 : Int32) else (0 : Int32)) else (0 : Int32)) else (if (0 : Int32) = 0 then (if (1 : Int32) = 0 then (1 : Int32) else (0 : Int32)) else (0 : Int32)))) else (if (lg_cmp ((w.toInt64 * n.toInt64) * (σ.1 10 i (cell / (30 : Int32)).toNatClampNeg).toInt64) (0 : Int64)) ≤ 0 then (if (1 : Int32) = 0 then (if (0 : Int32) = 0 then (1 : Int32) else (0 : Int32)) else (0 : Int32)) else (if (S_VE_exceeds σ i ((S_VE_rearMoment σ i) + ((w.toInt64 * n.toInt64) * (σ.1 10 i (cell / (30 : Int32)).toNatClampNeg).toInt64)) (σ.1 9 i 8)) = 0 then (if (1 : Int32) = 0 then (if (0 : Int32) = 0 then (1 : Int32) else (0 : Int32)) else (0 : Int32)) else (if (1 : Int32) = 0 then (if (1 : Int32) = 0 then (1 : Int32) else (0 : Int32)) else (0 : Int32))))))
set_option maxHeartbeats 4000000 in
set_option maxRecDepth 100000 in
theorem c_VE_bears {l : Launch} {s0 : State} {A0 : Array Value} {D : va_G} {dA : Nat → ClassId} (h0 : XS0 l s0 A0 D dA) (σ : XS) (i : Nat) (cell : Int32) (n : Int32) (w : Int32) (hi_i : i < 16) (hc : vp_in cell 240) : XMet l y_VE_bears [cw_VE_bears] rm_VE_bears (XP D dA s0 σ [.ref (xB s0 + XA 9 i), .int cell, .int n, .int w]) (XQp xv_i (.inl (S_VE_bears σ i cell n w))) 0 0 (fun _ => False) := by
  refine XMet.ofW (cc := b_VE_bears) (maxL := 12) (ret := (some .boolean)) (by decide) rfl ?_
  intro p e s m args below meth c s₁ Bd hml hv
  obtain ⟨rfl, hX, hO⟩ := hv
  have hx := Bd.exec
  have hb := Bd.bytes
  have hr := Bd.returns
  have hown : s.vm.findClass "LoadChecks$Vehicle" = some m.cls := findClass_of_methodNamed Bd.named
  have hlocks := Bd.notSynchronized
  have hnt : c.exceptionTable.isEmpty = true := Bd.noHandlers (atoms_spec (ws := [cw_VE_bears]) Bd.pre _ List.mem_cons_self)
  have hW0 := hO.1
  have hts := xs_w (args := ([.ref (xB s0 + XA 9 i), .int cell, .int n, .int w] : List Value).toArray) h0 hW0
  have hK := xs_K h0 hW0
  have hl := lv_entry ([.ref (xB s0 + XA 9 i), .int cell, .int n, .int w]) (n := 12) (Nat.le_of_ble_eq_true rfl)
  rw [lg_entry_eq]
  generalize (lg_sl ([.ref (xB s0 + XA 9 i), .int cell, .int n, .int w]) ++ List.replicate (12 - (lg_sl ([.ref (xB s0 + XA 9 i), .int cell, .int n, .int w])).length) Slot.unset).toArray = ls at hl ⊢
  have hl : lv_has ls 12 [(0, .ref (xB s0 + XA 9 i)), (1, .int cell), (2, .int n), (3, .int w)] := hl
  generalize hR : S_VE_bears σ i cell n w = res
  unfold S_VE_bears at hR
  refine lv_iload_n hx hb d_VE_bears_0 rfl (lv_at hl 3 rfl) ?_
  refine lv_i2l hx hb d_VE_bears_1 rfl ?_
  refine lv_iload_n hx hb d_VE_bears_2 rfl (lv_at hl 2 rfl) ?_
  refine lv_i2l hx hb d_VE_bears_3 rfl ?_
  refine lv_lmul hx hb d_VE_bears_4 ?_
  refine lv_lstore (lv' := [(4, .long (w.toInt64 * n.toInt64)), (0, .ref (xB s0 + XA 9 i)), (1, .int cell), (2, .int n), (3, .int w)]) hx hb d_VE_bears_5 hl (by decide) rfl (fun ls hl => ?_)
  refine lv_lload hx hb d_VE_bears_7 (lv_at hl 0 rfl) ?_
  refine lv_aload_n hx hb d_VE_bears_9 rfl (lv_at hl 1 rfl) ?_
  refine xw_get (C := R_VE) (T := F_VE) (N := 13) (r := 9) (i := i) hx hb hts hi_VE hown hK hX hi_i rfl rfl 0 (by decide) (hts _ w_82) rfl rfl d_VE_bears_10 ?_
  refine lv_iload_n hx hb d_VE_bears_13 rfl (lv_at hl 2 rfl) ?_
  refine lv_bipush (v := 30) hx hb d_VE_bears_14 (by decide) ?_
  refine lv_idiv hx hb d_VE_bears_16 (by decide) ?_
  refine xw_iald (r := 10) (i := i) hx hb hK hX hi_i 0 rfl rfl (j := (cell / (30 : Int32))) (o_div hc) d_VE_bears_17 ?_
  refine lv_i2l hx hb d_VE_bears_18 rfl ?_
  refine lv_lmul hx hb d_VE_bears_19 ?_
  refine lv_lstore (lv' := [(6, .long ((w.toInt64 * n.toInt64) * (σ.1 10 i (cell / (30 : Int32)).toNatClampNeg).toInt64)), (4, .long (w.toInt64 * n.toInt64)), (0, .ref (xB s0 + XA 9 i)), (1, .int cell), (2, .int n), (3, .int w)]) hx hb d_VE_bears_20 hl (by decide) rfl (fun ls hl => ?_)
  refine lv_lload hx hb d_VE_bears_22 (lv_at hl 1 rfl) ?_
  refine lv_aload_n hx hb d_VE_bears_24 rfl (lv_at hl 2 rfl) ?_
  refine xw_get (C := R_VE) (T := F_VE) (N := 13) (r := 9) (i := i) hx hb hts hi_VE hown hK hX hi_i rfl rfl 6 (by decide) (hts _ w_93) rfl rfl d_VE_bears_25 ?_
  refine lv_i2l hx hb d_VE_bears_28 rfl ?_
  refine lv_lmul hx hb d_VE_bears_29 ?_
  refine lv_lload hx hb d_VE_bears_30 (lv_at hl 0 rfl) ?_
  refine lv_lsub hx hb d_VE_bears_32 ?_
  refine lv_lstore (lv' := [(8, .long (((w.toInt64 * n.toInt64) * (σ.1 9 i 6).toInt64) - ((w.toInt64 * n.toInt64) * (σ.1 10 i (cell / (30 : Int32)).toNatClampNeg).toInt64))), (6, .long ((w.toInt64 * n.toInt64) * (σ.1 10 i (cell / (30 : Int32)).toNatClampNeg).toInt64)), (4, .long (w.toInt64 * n.toInt64)), (0, .ref (xB s0 + XA 9 i)), (1, .int cell), (2, .int n), (3, .int w)]) hx hb d_VE_bears_33 hl (by decide) rfl (fun ls hl => ?_)
  refine lv_lload hx hb d_VE_bears_35 (lv_at hl 0 rfl) ?_
  refine lv_lconst (v := 0) hx hb d_VE_bears_37 (by decide) ?_
  refine W.lcmp hx hb d_VE_bears_38 ?_
  refine lv_if_le (tgt := 64) hx hb d_VE_bears_39 (by decide) (fun c39 => ?_) (fun c39 => ?_)
  · rw [if_pos c39] at hR
    refine lv_iconst (v := 0) hx hb d_VE_bears_64 (by decide) ?_
    refine lv_istore (lv' := [(10, .int (0 : Int32)), (8, .long (((w.toInt64 * n.toInt64) * (σ.1 9 i 6).toInt64) - ((w.toInt64 * n.toInt64) * (σ.1 10 i (cell / (30 : Int32)).toNatClampNeg).toInt64))), (6, .long ((w.toInt64 * n.toInt64) * (σ.1 10 i (cell / (30 : Int32)).toNatClampNeg).toInt64)), (4, .long (w.toInt64 * n.toInt64)), (0, .ref (xB s0 + XA 9 i)), (1, .int cell), (2, .int n), (3, .int w)]) hx hb d_VE_bears_65 hl (by decide) rfl (fun ls hl => ?_)
    refine lv_lload hx hb d_VE_bears_67 (lv_at hl 2 rfl) ?_
    refine lv_lconst (v := 0) hx hb d_VE_bears_69 (by decide) ?_
    refine W.lcmp hx hb d_VE_bears_70 ?_
    refine lv_if_le (tgt := 96) hx hb d_VE_bears_71 (by decide) (fun c71 => ?_) (fun c71 => ?_)
    · rw [if_pos c71] at hR
      refine lv_iconst (v := 0) hx hb d_VE_bears_96 (by decide) ?_
      refine lv_istore (lv' := [(11, .int (0 : Int32)), (10, .int (0 : Int32)), (8, .long (((w.toInt64 * n.toInt64) * (σ.1 9 i 6).toInt64) - ((w.toInt64 * n.toInt64) * (σ.1 10 i (cell / (30 : Int32)).toNatClampNeg).toInt64))), (6, .long ((w.toInt64 * n.toInt64) * (σ.1 10 i (cell / (30 : Int32)).toNatClampNeg).toInt64)), (4, .long (w.toInt64 * n.toInt64)), (0, .ref (xB s0 + XA 9 i)), (1, .int cell), (2, .int n), (3, .int w)]) hx hb d_VE_bears_97 hl (by decide) rfl (fun ls hl => ?_)
      refine lv_iload hx hb d_VE_bears_99 (lv_at hl 1 rfl) ?_
      refine lv_if_ne (tgt := 113) hx hb d_VE_bears_101 (by decide) (fun c101 => ?_) (fun c101 => ?_)
      · rw [if_neg c101] at hR
        refine lv_iconst (v := 0) hx hb d_VE_bears_113 (by decide) ?_
        subst hR
        refine W.widen (k := 0) (n := 0) (by decide) (by decide) ?_; exact xr_z hx hb hr hlocks (by rfl) d_VE_bears_114
      · rw [if_pos c101] at hR
        refine lv_iload hx hb d_VE_bears_104 (lv_at hl 0 rfl) ?_
        refine lv_if_ne (tgt := 113) hx hb d_VE_bears_106 (by decide) (fun c106 => ?_) (fun c106 => ?_)
        · rw [if_neg c106] at hR
          refine lv_iconst (v := 0) hx hb d_VE_bears_113 (by decide) ?_
          subst hR
          refine W.widen (k := 0) (n := 0) (by decide) (by decide) ?_; exact xr_z hx hb hr hlocks (by rfl) d_VE_bears_114
        · rw [if_pos c106] at hR
          refine lv_iconst (v := 1) hx hb d_VE_bears_109 (by decide) ?_
          refine lv_goto (tgt := 114) hx hb d_VE_bears_110 (by decide) ?_
          subst hR
          refine W.widen (k := 0) (n := 0) (by decide) (by decide) ?_; exact xr_z hx hb hr hlocks (by rfl) d_VE_bears_114
    · rw [if_neg c71] at hR
      refine lv_aload_n hx hb d_VE_bears_74 rfl (lv_at hl 4 rfl) ?_
      refine lv_aload_n hx hb d_VE_bears_75 rfl (lv_at hl 4 rfl) ?_
      obtain ⟨cB76, hcB76, hoB76, hkB76⟩ := xw_recv (r := 9) (i := i) hK hX hi_i rfl rfl
      refine xc_f (rest := [.ref (xB s0 + XA 9 i)]) (x_invV (argsL := []) hx hb hown (hts _ w_390) (hts _ w_392) (hts _ w_9) (x_code (hts _ w_393)) ⟨by decide, by decide⟩ hcB76 hoB76 hkB76 rfl rfl rfl d_VE_bears_76) (c_VE_rearMoment h0 σ i hi_i) (xs_cw h0 hW0 m_393) (hts _ w_36) ⟨rfl, rfl, Nat.le_of_ble_eq_true rfl, Nat.le_of_ble_eq_true rfl⟩ (hl.1.trans hml.symm) (by rw [hb]; exact d_VE_bears_76) (Nat.le_of_ble_eq_true rfl) ⟨Nat.le_of_ble_eq_true rfl, Nat.le_of_ble_eq_true rfl⟩ hX hO ?_
      refine lv_lload hx hb d_VE_bears_79 (lv_at hl 2 rfl) ?_
      refine lv_ladd hx hb d_VE_bears_81 ?_
      refine lv_aload_n hx hb d_VE_bears_82 rfl (lv_at hl 4 rfl) ?_
      refine xw_get (C := R_VE) (T := F_VE) (N := 13) (r := 9) (i := i) hx hb hts hi_VE hown hK hX hi_i rfl rfl 8 (by decide) (hts _ w_98) rfl rfl d_VE_bears_83 ?_
      obtain ⟨cB86, hcB86, hoB86, hkB86⟩ := xw_recv (r := 9) (i := i) hK hX hi_i rfl rfl
      refine xc_f (rest := []) (x_invV (argsL := [.long ((S_VE_rearMoment σ i) + ((w.toInt64 * n.toInt64) * (σ.1 10 i (cell / (30 : Int32)).toNatClampNeg).toInt64)), .int (σ.1 9 i 8)]) hx hb hown (hts _ w_386) (hts _ w_388) (hts _ w_8) (x_code (hts _ w_389)) ⟨by decide, by decide⟩ hcB86 hoB86 hkB86 rfl rfl rfl d_VE_bears_86) (c_VE_exceeds h0 σ i ((S_VE_rearMoment σ i) + ((w.toInt64 * n.toInt64) * (σ.1 10 i (cell / (30 : Int32)).toNatClampNeg).toInt64)) (σ.1 9 i 8) hi_i) (xs_cw h0 hW0 m_389) (hts _ w_36) ⟨rfl, rfl, Nat.le_of_ble_eq_true rfl, Nat.le_of_ble_eq_true rfl⟩ (hl.1.trans hml.symm) (by rw [hb]; exact d_VE_bears_86) (Nat.le_of_ble_eq_true rfl) ⟨Nat.le_of_ble_eq_true rfl, Nat.le_of_ble_eq_true rfl⟩ hX hO ?_
      refine lv_if_eq (tgt := 96) hx hb d_VE_bears_89 (by decide) (fun c89 => ?_) (fun c89 => ?_)
      · rw [if_pos c89] at hR
        refine lv_iconst (v := 0) hx hb d_VE_bears_96 (by decide) ?_
        refine lv_istore (lv' := [(11, .int (0 : Int32)), (10, .int (0 : Int32)), (8, .long (((w.toInt64 * n.toInt64) * (σ.1 9 i 6).toInt64) - ((w.toInt64 * n.toInt64) * (σ.1 10 i (cell / (30 : Int32)).toNatClampNeg).toInt64))), (6, .long ((w.toInt64 * n.toInt64) * (σ.1 10 i (cell / (30 : Int32)).toNatClampNeg).toInt64)), (4, .long (w.toInt64 * n.toInt64)), (0, .ref (xB s0 + XA 9 i)), (1, .int cell), (2, .int n), (3, .int w)]) hx hb d_VE_bears_97 hl (by decide) rfl (fun ls hl => ?_)
        refine lv_iload hx hb d_VE_bears_99 (lv_at hl 1 rfl) ?_
        refine lv_if_ne (tgt := 113) hx hb d_VE_bears_101 (by decide) (fun c101 => ?_) (fun c101 => ?_)
        · rw [if_neg c101] at hR
          refine lv_iconst (v := 0) hx hb d_VE_bears_113 (by decide) ?_
          subst hR
          refine W.widen (k := 0) (n := 0) (by decide) (by decide) ?_; exact xr_z hx hb hr hlocks (by rfl) d_VE_bears_114
        · rw [if_pos c101] at hR
          refine lv_iload hx hb d_VE_bears_104 (lv_at hl 0 rfl) ?_
          refine lv_if_ne (tgt := 113) hx hb d_VE_bears_106 (by decide) (fun c106 => ?_) (fun c106 => ?_)
          · rw [if_neg c106] at hR
            refine lv_iconst (v := 0) hx hb d_VE_bears_113 (by decide) ?_
            subst hR
            refine W.widen (k := 0) (n := 0) (by decide) (by decide) ?_; exact xr_z hx hb hr hlocks (by rfl) d_VE_bears_114
          · rw [if_pos c106] at hR
            refine lv_iconst (v := 1) hx hb d_VE_bears_109 (by decide) ?_
            refine lv_goto (tgt := 114) hx hb d_VE_bears_110 (by decide) ?_
            subst hR
            refine W.widen (k := 0) (n := 0) (by decide) (by decide) ?_; exact xr_z hx hb hr hlocks (by rfl) d_VE_bears_114
      · rw [if_neg c89] at hR
        refine lv_iconst (v := 1) hx hb d_VE_bears_92 (by decide) ?_
        refine lv_goto (tgt := 97) hx hb d_VE_bears_93 (by decide) ?_
        refine lv_istore (lv' := [(11, .int (1 : Int32)), (10, .int (0 : Int32)), (8, .long (((w.toInt64 * n.toInt64) * (σ.1 9 i 6).toInt64) - ((w.toInt64 * n.toInt64) * (σ.1 10 i (cell / (30 : Int32)).toNatClampNeg).toInt64))), (6, .long ((w.toInt64 * n.toInt64) * (σ.1 10 i (cell / (30 : Int32)).toNatClampNeg).toInt64)), (4, .long (w.toInt64 * n.toInt64)), (0, .ref (xB s0 + XA 9 i)), (1, .int cell), (2, .int n), (3, .int w)]) hx hb d_VE_bears_97 hl (by decide) rfl (fun ls hl => ?_)
        refine lv_iload hx hb d_VE_bears_99 (lv_at hl 1 rfl) ?_
        refine lv_if_ne (tgt := 113) hx hb d_VE_bears_101 (by decide) (fun c101 => ?_) (fun c101 => ?_)
        · rw [if_neg c101] at hR
          refine lv_iconst (v := 0) hx hb d_VE_bears_113 (by decide) ?_
          subst hR
          refine W.widen (k := 0) (n := 0) (by decide) (by decide) ?_; exact xr_z hx hb hr hlocks (by rfl) d_VE_bears_114
        · rw [if_pos c101] at hR
          refine lv_iload hx hb d_VE_bears_104 (lv_at hl 0 rfl) ?_
          refine lv_if_ne (tgt := 113) hx hb d_VE_bears_106 (by decide) (fun c106 => ?_) (fun c106 => ?_)
          · rw [if_neg c106] at hR
            refine lv_iconst (v := 0) hx hb d_VE_bears_113 (by decide) ?_
            subst hR
            refine W.widen (k := 0) (n := 0) (by decide) (by decide) ?_; exact xr_z hx hb hr hlocks (by rfl) d_VE_bears_114
          · rw [if_pos c106] at hR
            refine lv_iconst (v := 1) hx hb d_VE_bears_109 (by decide) ?_
            refine lv_goto (tgt := 114) hx hb d_VE_bears_110 (by decide) ?_
            subst hR
            refine W.widen (k := 0) (n := 0) (by decide) (by decide) ?_; exact xr_z hx hb hr hlocks (by rfl) d_VE_bears_114
  · rw [if_neg c39] at hR
    refine lv_aload_n hx hb d_VE_bears_42 rfl (lv_at hl 3 rfl) ?_
    refine lv_aload_n hx hb d_VE_bears_43 rfl (lv_at hl 3 rfl) ?_
    obtain ⟨cB44, hcB44, hoB44, hkB44⟩ := xw_recv (r := 9) (i := i) hK hX hi_i rfl rfl
    refine xc_f (rest := [.ref (xB s0 + XA 9 i)]) (x_invV (argsL := []) hx hb hown (hts _ w_382) (hts _ w_384) (hts _ w_7) (x_code (hts _ w_385)) ⟨by decide, by decide⟩ hcB44 hoB44 hkB44 rfl rfl rfl d_VE_bears_44) (c_VE_frontMoment h0 σ i hi_i) (xs_cw h0 hW0 m_385) (hts _ w_36) ⟨rfl, rfl, Nat.le_of_ble_eq_true rfl, Nat.le_of_ble_eq_true rfl⟩ (hl.1.trans hml.symm) (by rw [hb]; exact d_VE_bears_44) (Nat.le_of_ble_eq_true rfl) ⟨Nat.le_of_ble_eq_true rfl, Nat.le_of_ble_eq_true rfl⟩ hX hO ?_
    refine lv_lload hx hb d_VE_bears_47 (lv_at hl 0 rfl) ?_
    refine lv_ladd hx hb d_VE_bears_49 ?_
    refine lv_aload_n hx hb d_VE_bears_50 rfl (lv_at hl 3 rfl) ?_
    refine xw_get (C := R_VE) (T := F_VE) (N := 13) (r := 9) (i := i) hx hb hts hi_VE hown hK hX hi_i rfl rfl 7 (by decide) (hts _ w_96) rfl rfl d_VE_bears_51 ?_
    obtain ⟨cB54, hcB54, hoB54, hkB54⟩ := xw_recv (r := 9) (i := i) hK hX hi_i rfl rfl
    refine xc_f (rest := []) (x_invV (argsL := [.long ((S_VE_frontMoment σ i) + (((w.toInt64 * n.toInt64) * (σ.1 9 i 6).toInt64) - ((w.toInt64 * n.toInt64) * (σ.1 10 i (cell / (30 : Int32)).toNatClampNeg).toInt64))), .int (σ.1 9 i 7)]) hx hb hown (hts _ w_386) (hts _ w_388) (hts _ w_8) (x_code (hts _ w_389)) ⟨by decide, by decide⟩ hcB54 hoB54 hkB54 rfl rfl rfl d_VE_bears_54) (c_VE_exceeds h0 σ i ((S_VE_frontMoment σ i) + (((w.toInt64 * n.toInt64) * (σ.1 9 i 6).toInt64) - ((w.toInt64 * n.toInt64) * (σ.1 10 i (cell / (30 : Int32)).toNatClampNeg).toInt64))) (σ.1 9 i 7) hi_i) (xs_cw h0 hW0 m_389) (hts _ w_36) ⟨rfl, rfl, Nat.le_of_ble_eq_true rfl, Nat.le_of_ble_eq_true rfl⟩ (hl.1.trans hml.symm) (by rw [hb]; exact d_VE_bears_54) (Nat.le_of_ble_eq_true rfl) ⟨Nat.le_of_ble_eq_true rfl, Nat.le_of_ble_eq_true rfl⟩ hX hO ?_
    refine lv_if_eq (tgt := 64) hx hb d_VE_bears_57 (by decide) (fun c57 => ?_) (fun c57 => ?_)
    · rw [if_pos c57] at hR
      refine lv_iconst (v := 0) hx hb d_VE_bears_64 (by decide) ?_
      refine lv_istore (lv' := [(10, .int (0 : Int32)), (8, .long (((w.toInt64 * n.toInt64) * (σ.1 9 i 6).toInt64) - ((w.toInt64 * n.toInt64) * (σ.1 10 i (cell / (30 : Int32)).toNatClampNeg).toInt64))), (6, .long ((w.toInt64 * n.toInt64) * (σ.1 10 i (cell / (30 : Int32)).toNatClampNeg).toInt64)), (4, .long (w.toInt64 * n.toInt64)), (0, .ref (xB s0 + XA 9 i)), (1, .int cell), (2, .int n), (3, .int w)]) hx hb d_VE_bears_65 hl (by decide) rfl (fun ls hl => ?_)
      refine lv_lload hx hb d_VE_bears_67 (lv_at hl 2 rfl) ?_
      refine lv_lconst (v := 0) hx hb d_VE_bears_69 (by decide) ?_
      refine W.lcmp hx hb d_VE_bears_70 ?_
      refine lv_if_le (tgt := 96) hx hb d_VE_bears_71 (by decide) (fun c71 => ?_) (fun c71 => ?_)
      · rw [if_pos c71] at hR
        refine lv_iconst (v := 0) hx hb d_VE_bears_96 (by decide) ?_
        refine lv_istore (lv' := [(11, .int (0 : Int32)), (10, .int (0 : Int32)), (8, .long (((w.toInt64 * n.toInt64) * (σ.1 9 i 6).toInt64) - ((w.toInt64 * n.toInt64) * (σ.1 10 i (cell / (30 : Int32)).toNatClampNeg).toInt64))), (6, .long ((w.toInt64 * n.toInt64) * (σ.1 10 i (cell / (30 : Int32)).toNatClampNeg).toInt64)), (4, .long (w.toInt64 * n.toInt64)), (0, .ref (xB s0 + XA 9 i)), (1, .int cell), (2, .int n), (3, .int w)]) hx hb d_VE_bears_97 hl (by decide) rfl (fun ls hl => ?_)
        refine lv_iload hx hb d_VE_bears_99 (lv_at hl 1 rfl) ?_
        refine lv_if_ne (tgt := 113) hx hb d_VE_bears_101 (by decide) (fun c101 => ?_) (fun c101 => ?_)
        · rw [if_neg c101] at hR
          refine lv_iconst (v := 0) hx hb d_VE_bears_113 (by decide) ?_
          subst hR
          refine W.widen (k := 0) (n := 0) (by decide) (by decide) ?_; exact xr_z hx hb hr hlocks (by rfl) d_VE_bears_114
        · rw [if_pos c101] at hR
          refine lv_iload hx hb d_VE_bears_104 (lv_at hl 0 rfl) ?_
          refine lv_if_ne (tgt := 113) hx hb d_VE_bears_106 (by decide) (fun c106 => ?_) (fun c106 => ?_)
          · rw [if_neg c106] at hR
            refine lv_iconst (v := 0) hx hb d_VE_bears_113 (by decide) ?_
            subst hR
            refine W.widen (k := 0) (n := 0) (by decide) (by decide) ?_; exact xr_z hx hb hr hlocks (by rfl) d_VE_bears_114
          · rw [if_pos c106] at hR
            refine lv_iconst (v := 1) hx hb d_VE_bears_109 (by decide) ?_
            refine lv_goto (tgt := 114) hx hb d_VE_bears_110 (by decide) ?_
            subst hR
            refine W.widen (k := 0) (n := 0) (by decide) (by decide) ?_; exact xr_z hx hb hr hlocks (by rfl) d_VE_bears_114
      · rw [if_neg c71] at hR
        refine lv_aload_n hx hb d_VE_bears_74 rfl (lv_at hl 4 rfl) ?_
        refine lv_aload_n hx hb d_VE_bears_75 rfl (lv_at hl 4 rfl) ?_
        obtain ⟨cB76, hcB76, hoB76, hkB76⟩ := xw_recv (r := 9) (i := i) hK hX hi_i rfl rfl
        refine xc_f (rest := [.ref (xB s0 + XA 9 i)]) (x_invV (argsL := []) hx hb hown (hts _ w_390) (hts _ w_392) (hts _ w_9) (x_code (hts _ w_393)) ⟨by decide, by decide⟩ hcB76 hoB76 hkB76 rfl rfl rfl d_VE_bears_76) (c_VE_rearMoment h0 σ i hi_i) (xs_cw h0 hW0 m_393) (hts _ w_36) ⟨rfl, rfl, Nat.le_of_ble_eq_true rfl, Nat.le_of_ble_eq_true rfl⟩ (hl.1.trans hml.symm) (by rw [hb]; exact d_VE_bears_76) (Nat.le_of_ble_eq_true rfl) ⟨Nat.le_of_ble_eq_true rfl, Nat.le_of_ble_eq_true rfl⟩ hX hO ?_
        refine lv_lload hx hb d_VE_bears_79 (lv_at hl 2 rfl) ?_
        refine lv_ladd hx hb d_VE_bears_81 ?_
        refine lv_aload_n hx hb d_VE_bears_82 rfl (lv_at hl 4 rfl) ?_
        refine xw_get (C := R_VE) (T := F_VE) (N := 13) (r := 9) (i := i) hx hb hts hi_VE hown hK hX hi_i rfl rfl 8 (by decide) (hts _ w_98) rfl rfl d_VE_bears_83 ?_
        obtain ⟨cB86, hcB86, hoB86, hkB86⟩ := xw_recv (r := 9) (i := i) hK hX hi_i rfl rfl
        refine xc_f (rest := []) (x_invV (argsL := [.long ((S_VE_rearMoment σ i) + ((w.toInt64 * n.toInt64) * (σ.1 10 i (cell / (30 : Int32)).toNatClampNeg).toInt64)), .int (σ.1 9 i 8)]) hx hb hown (hts _ w_386) (hts _ w_388) (hts _ w_8) (x_code (hts _ w_389)) ⟨by decide, by decide⟩ hcB86 hoB86 hkB86 rfl rfl rfl d_VE_bears_86) (c_VE_exceeds h0 σ i ((S_VE_rearMoment σ i) + ((w.toInt64 * n.toInt64) * (σ.1 10 i (cell / (30 : Int32)).toNatClampNeg).toInt64)) (σ.1 9 i 8) hi_i) (xs_cw h0 hW0 m_389) (hts _ w_36) ⟨rfl, rfl, Nat.le_of_ble_eq_true rfl, Nat.le_of_ble_eq_true rfl⟩ (hl.1.trans hml.symm) (by rw [hb]; exact d_VE_bears_86) (Nat.le_of_ble_eq_true rfl) ⟨Nat.le_of_ble_eq_true rfl, Nat.le_of_ble_eq_true rfl⟩ hX hO ?_
        refine lv_if_eq (tgt := 96) hx hb d_VE_bears_89 (by decide) (fun c89 => ?_) (fun c89 => ?_)
        · rw [if_pos c89] at hR
          refine lv_iconst (v := 0) hx hb d_VE_bears_96 (by decide) ?_
          refine lv_istore (lv' := [(11, .int (0 : Int32)), (10, .int (0 : Int32)), (8, .long (((w.toInt64 * n.toInt64) * (σ.1 9 i 6).toInt64) - ((w.toInt64 * n.toInt64) * (σ.1 10 i (cell / (30 : Int32)).toNatClampNeg).toInt64))), (6, .long ((w.toInt64 * n.toInt64) * (σ.1 10 i (cell / (30 : Int32)).toNatClampNeg).toInt64)), (4, .long (w.toInt64 * n.toInt64)), (0, .ref (xB s0 + XA 9 i)), (1, .int cell), (2, .int n), (3, .int w)]) hx hb d_VE_bears_97 hl (by decide) rfl (fun ls hl => ?_)
          refine lv_iload hx hb d_VE_bears_99 (lv_at hl 1 rfl) ?_
          refine lv_if_ne (tgt := 113) hx hb d_VE_bears_101 (by decide) (fun c101 => ?_) (fun c101 => ?_)
          · rw [if_neg c101] at hR
            refine lv_iconst (v := 0) hx hb d_VE_bears_113 (by decide) ?_
            subst hR
            refine W.widen (k := 0) (n := 0) (by decide) (by decide) ?_; exact xr_z hx hb hr hlocks (by rfl) d_VE_bears_114
          · rw [if_pos c101] at hR
            refine lv_iload hx hb d_VE_bears_104 (lv_at hl 0 rfl) ?_
            refine lv_if_ne (tgt := 113) hx hb d_VE_bears_106 (by decide) (fun c106 => ?_) (fun c106 => ?_)
            · rw [if_neg c106] at hR
              refine lv_iconst (v := 0) hx hb d_VE_bears_113 (by decide) ?_
              subst hR
              refine W.widen (k := 0) (n := 0) (by decide) (by decide) ?_; exact xr_z hx hb hr hlocks (by rfl) d_VE_bears_114
            · rw [if_pos c106] at hR
              refine lv_iconst (v := 1) hx hb d_VE_bears_109 (by decide) ?_
              refine lv_goto (tgt := 114) hx hb d_VE_bears_110 (by decide) ?_
              subst hR
              refine W.widen (k := 0) (n := 0) (by decide) (by decide) ?_; exact xr_z hx hb hr hlocks (by rfl) d_VE_bears_114
        · rw [if_neg c89] at hR
          refine lv_iconst (v := 1) hx hb d_VE_bears_92 (by decide) ?_
          refine lv_goto (tgt := 97) hx hb d_VE_bears_93 (by decide) ?_
          refine lv_istore (lv' := [(11, .int (1 : Int32)), (10, .int (0 : Int32)), (8, .long (((w.toInt64 * n.toInt64) * (σ.1 9 i 6).toInt64) - ((w.toInt64 * n.toInt64) * (σ.1 10 i (cell / (30 : Int32)).toNatClampNeg).toInt64))), (6, .long ((w.toInt64 * n.toInt64) * (σ.1 10 i (cell / (30 : Int32)).toNatClampNeg).toInt64)), (4, .long (w.toInt64 * n.toInt64)), (0, .ref (xB s0 + XA 9 i)), (1, .int cell), (2, .int n), (3, .int w)]) hx hb d_VE_bears_97 hl (by decide) rfl (fun ls hl => ?_)
          refine lv_iload hx hb d_VE_bears_99 (lv_at hl 1 rfl) ?_
          refine lv_if_ne (tgt := 113) hx hb d_VE_bears_101 (by decide) (fun c101 => ?_) (fun c101 => ?_)
          · rw [if_neg c101] at hR
            refine lv_iconst (v := 0) hx hb d_VE_bears_113 (by decide) ?_
            subst hR
            refine W.widen (k := 0) (n := 0) (by decide) (by decide) ?_; exact xr_z hx hb hr hlocks (by rfl) d_VE_bears_114
          · rw [if_pos c101] at hR
            refine lv_iload hx hb d_VE_bears_104 (lv_at hl 0 rfl) ?_
            refine lv_if_ne (tgt := 113) hx hb d_VE_bears_106 (by decide) (fun c106 => ?_) (fun c106 => ?_)
            · rw [if_neg c106] at hR
              refine lv_iconst (v := 0) hx hb d_VE_bears_113 (by decide) ?_
              subst hR
              refine W.widen (k := 0) (n := 0) (by decide) (by decide) ?_; exact xr_z hx hb hr hlocks (by rfl) d_VE_bears_114
            · rw [if_pos c106] at hR
              refine lv_iconst (v := 1) hx hb d_VE_bears_109 (by decide) ?_
              refine lv_goto (tgt := 114) hx hb d_VE_bears_110 (by decide) ?_
              subst hR
              refine W.widen (k := 0) (n := 0) (by decide) (by decide) ?_; exact xr_z hx hb hr hlocks (by rfl) d_VE_bears_114
    · rw [if_neg c57] at hR
      refine lv_iconst (v := 1) hx hb d_VE_bears_60 (by decide) ?_
      refine lv_goto (tgt := 65) hx hb d_VE_bears_61 (by decide) ?_
      refine lv_istore (lv' := [(10, .int (1 : Int32)), (8, .long (((w.toInt64 * n.toInt64) * (σ.1 9 i 6).toInt64) - ((w.toInt64 * n.toInt64) * (σ.1 10 i (cell / (30 : Int32)).toNatClampNeg).toInt64))), (6, .long ((w.toInt64 * n.toInt64) * (σ.1 10 i (cell / (30 : Int32)).toNatClampNeg).toInt64)), (4, .long (w.toInt64 * n.toInt64)), (0, .ref (xB s0 + XA 9 i)), (1, .int cell), (2, .int n), (3, .int w)]) hx hb d_VE_bears_65 hl (by decide) rfl (fun ls hl => ?_)
      refine lv_lload hx hb d_VE_bears_67 (lv_at hl 2 rfl) ?_
      refine lv_lconst (v := 0) hx hb d_VE_bears_69 (by decide) ?_
      refine W.lcmp hx hb d_VE_bears_70 ?_
      refine lv_if_le (tgt := 96) hx hb d_VE_bears_71 (by decide) (fun c71 => ?_) (fun c71 => ?_)
      · rw [if_pos c71] at hR
        refine lv_iconst (v := 0) hx hb d_VE_bears_96 (by decide) ?_
        refine lv_istore (lv' := [(11, .int (0 : Int32)), (10, .int (1 : Int32)), (8, .long (((w.toInt64 * n.toInt64) * (σ.1 9 i 6).toInt64) - ((w.toInt64 * n.toInt64) * (σ.1 10 i (cell / (30 : Int32)).toNatClampNeg).toInt64))), (6, .long ((w.toInt64 * n.toInt64) * (σ.1 10 i (cell / (30 : Int32)).toNatClampNeg).toInt64)), (4, .long (w.toInt64 * n.toInt64)), (0, .ref (xB s0 + XA 9 i)), (1, .int cell), (2, .int n), (3, .int w)]) hx hb d_VE_bears_97 hl (by decide) rfl (fun ls hl => ?_)
        refine lv_iload hx hb d_VE_bears_99 (lv_at hl 1 rfl) ?_
        refine lv_if_ne (tgt := 113) hx hb d_VE_bears_101 (by decide) (fun c101 => ?_) (fun c101 => ?_)
        · rw [if_neg c101] at hR
          refine lv_iconst (v := 0) hx hb d_VE_bears_113 (by decide) ?_
          subst hR
          refine W.widen (k := 0) (n := 0) (by decide) (by decide) ?_; exact xr_z hx hb hr hlocks (by rfl) d_VE_bears_114
        · rw [if_pos c101] at hR
          refine lv_iload hx hb d_VE_bears_104 (lv_at hl 0 rfl) ?_
          refine lv_if_ne (tgt := 113) hx hb d_VE_bears_106 (by decide) (fun c106 => ?_) (fun c106 => ?_)
          · rw [if_neg c106] at hR
            refine lv_iconst (v := 0) hx hb d_VE_bears_113 (by decide) ?_
            subst hR
            refine W.widen (k := 0) (n := 0) (by decide) (by decide) ?_; exact xr_z hx hb hr hlocks (by rfl) d_VE_bears_114
          · rw [if_pos c106] at hR
            refine lv_iconst (v := 1) hx hb d_VE_bears_109 (by decide) ?_
            refine lv_goto (tgt := 114) hx hb d_VE_bears_110 (by decide) ?_
            subst hR
            refine W.widen (k := 0) (n := 0) (by decide) (by decide) ?_; exact xr_z hx hb hr hlocks (by rfl) d_VE_bears_114
      · rw [if_neg c71] at hR
        refine lv_aload_n hx hb d_VE_bears_74 rfl (lv_at hl 4 rfl) ?_
        refine lv_aload_n hx hb d_VE_bears_75 rfl (lv_at hl 4 rfl) ?_
        obtain ⟨cB76, hcB76, hoB76, hkB76⟩ := xw_recv (r := 9) (i := i) hK hX hi_i rfl rfl
        refine xc_f (rest := [.ref (xB s0 + XA 9 i)]) (x_invV (argsL := []) hx hb hown (hts _ w_390) (hts _ w_392) (hts _ w_9) (x_code (hts _ w_393)) ⟨by decide, by decide⟩ hcB76 hoB76 hkB76 rfl rfl rfl d_VE_bears_76) (c_VE_rearMoment h0 σ i hi_i) (xs_cw h0 hW0 m_393) (hts _ w_36) ⟨rfl, rfl, Nat.le_of_ble_eq_true rfl, Nat.le_of_ble_eq_true rfl⟩ (hl.1.trans hml.symm) (by rw [hb]; exact d_VE_bears_76) (Nat.le_of_ble_eq_true rfl) ⟨Nat.le_of_ble_eq_true rfl, Nat.le_of_ble_eq_true rfl⟩ hX hO ?_
        refine lv_lload hx hb d_VE_bears_79 (lv_at hl 2 rfl) ?_
        refine lv_ladd hx hb d_VE_bears_81 ?_
        refine lv_aload_n hx hb d_VE_bears_82 rfl (lv_at hl 4 rfl) ?_
        refine xw_get (C := R_VE) (T := F_VE) (N := 13) (r := 9) (i := i) hx hb hts hi_VE hown hK hX hi_i rfl rfl 8 (by decide) (hts _ w_98) rfl rfl d_VE_bears_83 ?_
        obtain ⟨cB86, hcB86, hoB86, hkB86⟩ := xw_recv (r := 9) (i := i) hK hX hi_i rfl rfl
        refine xc_f (rest := []) (x_invV (argsL := [.long ((S_VE_rearMoment σ i) + ((w.toInt64 * n.toInt64) * (σ.1 10 i (cell / (30 : Int32)).toNatClampNeg).toInt64)), .int (σ.1 9 i 8)]) hx hb hown (hts _ w_386) (hts _ w_388) (hts _ w_8) (x_code (hts _ w_389)) ⟨by decide, by decide⟩ hcB86 hoB86 hkB86 rfl rfl rfl d_VE_bears_86) (c_VE_exceeds h0 σ i ((S_VE_rearMoment σ i) + ((w.toInt64 * n.toInt64) * (σ.1 10 i (cell / (30 : Int32)).toNatClampNeg).toInt64)) (σ.1 9 i 8) hi_i) (xs_cw h0 hW0 m_389) (hts _ w_36) ⟨rfl, rfl, Nat.le_of_ble_eq_true rfl, Nat.le_of_ble_eq_true rfl⟩ (hl.1.trans hml.symm) (by rw [hb]; exact d_VE_bears_86) (Nat.le_of_ble_eq_true rfl) ⟨Nat.le_of_ble_eq_true rfl, Nat.le_of_ble_eq_true rfl⟩ hX hO ?_
        refine lv_if_eq (tgt := 96) hx hb d_VE_bears_89 (by decide) (fun c89 => ?_) (fun c89 => ?_)
        · rw [if_pos c89] at hR
          refine lv_iconst (v := 0) hx hb d_VE_bears_96 (by decide) ?_
          refine lv_istore (lv' := [(11, .int (0 : Int32)), (10, .int (1 : Int32)), (8, .long (((w.toInt64 * n.toInt64) * (σ.1 9 i 6).toInt64) - ((w.toInt64 * n.toInt64) * (σ.1 10 i (cell / (30 : Int32)).toNatClampNeg).toInt64))), (6, .long ((w.toInt64 * n.toInt64) * (σ.1 10 i (cell / (30 : Int32)).toNatClampNeg).toInt64)), (4, .long (w.toInt64 * n.toInt64)), (0, .ref (xB s0 + XA 9 i)), (1, .int cell), (2, .int n), (3, .int w)]) hx hb d_VE_bears_97 hl (by decide) rfl (fun ls hl => ?_)
          refine lv_iload hx hb d_VE_bears_99 (lv_at hl 1 rfl) ?_
          refine lv_if_ne (tgt := 113) hx hb d_VE_bears_101 (by decide) (fun c101 => ?_) (fun c101 => ?_)
          · rw [if_neg c101] at hR
            refine lv_iconst (v := 0) hx hb d_VE_bears_113 (by decide) ?_
            subst hR
            refine W.widen (k := 0) (n := 0) (by decide) (by decide) ?_; exact xr_z hx hb hr hlocks (by rfl) d_VE_bears_114
          · rw [if_pos c101] at hR
            refine lv_iload hx hb d_VE_bears_104 (lv_at hl 0 rfl) ?_
            refine lv_if_ne (tgt := 113) hx hb d_VE_bears_106 (by decide) (fun c106 => ?_) (fun c106 => ?_)
            · rw [if_neg c106] at hR
              refine lv_iconst (v := 0) hx hb d_VE_bears_113 (by decide) ?_
              subst hR
              refine W.widen (k := 0) (n := 0) (by decide) (by decide) ?_; exact xr_z hx hb hr hlocks (by rfl) d_VE_bears_114
            · rw [if_pos c106] at hR
              refine lv_iconst (v := 1) hx hb d_VE_bears_109 (by decide) ?_
              refine lv_goto (tgt := 114) hx hb d_VE_bears_110 (by decide) ?_
              subst hR
              refine W.widen (k := 0) (n := 0) (by decide) (by decide) ?_; exact xr_z hx hb hr hlocks (by rfl) d_VE_bears_114
        · rw [if_neg c89] at hR
          refine lv_iconst (v := 1) hx hb d_VE_bears_92 (by decide) ?_
          refine lv_goto (tgt := 97) hx hb d_VE_bears_93 (by decide) ?_
          refine lv_istore (lv' := [(11, .int (1 : Int32)), (10, .int (1 : Int32)), (8, .long (((w.toInt64 * n.toInt64) * (σ.1 9 i 6).toInt64) - ((w.toInt64 * n.toInt64) * (σ.1 10 i (cell / (30 : Int32)).toNatClampNeg).toInt64))), (6, .long ((w.toInt64 * n.toInt64) * (σ.1 10 i (cell / (30 : Int32)).toNatClampNeg).toInt64)), (4, .long (w.toInt64 * n.toInt64)), (0, .ref (xB s0 + XA 9 i)), (1, .int cell), (2, .int n), (3, .int w)]) hx hb d_VE_bears_97 hl (by decide) rfl (fun ls hl => ?_)
          refine lv_iload hx hb d_VE_bears_99 (lv_at hl 1 rfl) ?_
          refine lv_if_ne (tgt := 113) hx hb d_VE_bears_101 (by decide) (fun c101 => ?_) (fun c101 => ?_)
          · rw [if_neg c101] at hR
            refine lv_iconst (v := 0) hx hb d_VE_bears_113 (by decide) ?_
            subst hR
            refine W.widen (k := 0) (n := 0) (by decide) (by decide) ?_; exact xr_z hx hb hr hlocks (by rfl) d_VE_bears_114
          · rw [if_pos c101] at hR
            refine lv_iload hx hb d_VE_bears_104 (lv_at hl 0 rfl) ?_
            refine lv_if_ne (tgt := 113) hx hb d_VE_bears_106 (by decide) (fun c106 => ?_) (fun c106 => ?_)
            · rw [if_neg c106] at hR
              refine lv_iconst (v := 0) hx hb d_VE_bears_113 (by decide) ?_
              subst hR
              refine W.widen (k := 0) (n := 0) (by decide) (by decide) ?_; exact xr_z hx hb hr hlocks (by rfl) d_VE_bears_114
            · rw [if_pos c106] at hR
              refine lv_iconst (v := 1) hx hb d_VE_bears_109 (by decide) ?_
              refine lv_goto (tgt := 114) hx hb d_VE_bears_110 (by decide) ?_
              subst hR
              refine W.widen (k := 0) (n := 0) (by decide) (by decide) ?_; exact xr_z hx hb hr hlocks (by rfl) d_VE_bears_114

abbrev rm_VE_load : Room := { frames := 0, cells := 0, slots := 0, locals := 0 }
def S_VE_load (σ : XS) (i : Nat) (cell : Int32) (n : Int32) (w : Int32) : Unit × XS := ((), (xuL (xuL (xuI σ 12 i cell.toNatClampNeg ((σ.1 12 i cell.toNatClampNeg) + n)) 9 i 11 (((xuI σ 12 i cell.toNatClampNeg ((σ.1 12 i cell.toNatClampNeg) + n)).2 9 i 11) + (w.toInt64 * n.toInt64))) 9 i 12 (((xuL (xuI σ 12 i cell.toNatClampNeg ((σ.1 12 i cell.toNatClampNeg) + n)) 9 i 11 (((xuI σ 12 i cell.toNatClampNeg ((σ.1 12 i cell.toNatClampNeg) + n)).2 9 i 11) + (w.toInt64 * n.toInt64))).2 9 i 12) + ((w.toInt64 * n.toInt64) * ((xuL (xuI σ 12 i cell.toNatClampNeg ((σ.1 12 i cell.toNatClampNeg) + n)) 9 i 11 (((xuI σ 12 i cell.toNatClampNeg ((σ.1 12 i cell.toNatClampNeg) + n)).2 9 i 11) + (w.toInt64 * n.toInt64))).1 10 i (cell / (30 : Int32)).toNatClampNeg).toInt64))))
set_option maxHeartbeats 4000000 in
set_option maxRecDepth 100000 in
theorem c_VE_load {l : Launch} {s0 : State} {A0 : Array Value} {D : va_G} {dA : Nat → ClassId} (h0 : XS0 l s0 A0 D dA) (σ : XS) (i : Nat) (cell : Int32) (n : Int32) (w : Int32) (hi_i : i < 16) (hc : vp_in cell 240) : XMet l y_VE_load [cw_VE_load] rm_VE_load (XP D dA s0 σ [.ref (xB s0 + XA 9 i), .int cell, .int n, .int w]) (XQs D dA s0 xv_v (.inl (S_VE_load σ i cell n w))) 0 0 (xAm s0) := by
  refine XMet.ofW (cc := b_VE_load) (maxL := 6) (ret := none) (by decide) rfl ?_
  intro p e s m args below meth c s₁ Bd hml hv
  obtain ⟨rfl, hX, hO⟩ := hv
  have hx := Bd.exec
  have hb := Bd.bytes
  have hr := Bd.returns
  have hown : s.vm.findClass "LoadChecks$Vehicle" = some m.cls := findClass_of_methodNamed Bd.named
  have hlocks := Bd.notSynchronized
  have hnt : c.exceptionTable.isEmpty = true := Bd.noHandlers (atoms_spec (ws := [cw_VE_load]) Bd.pre _ List.mem_cons_self)
  have hW0 := hO.1
  have hts := xs_w (args := ([.ref (xB s0 + XA 9 i), .int cell, .int n, .int w] : List Value).toArray) h0 hW0
  have hK := xs_K h0 hW0
  have hS := xo_S0 hO
  have hl := lv_entry ([.ref (xB s0 + XA 9 i), .int cell, .int n, .int w]) (n := 6) (Nat.le_of_ble_eq_true rfl)
  rw [lg_entry_eq]
  generalize (lg_sl ([.ref (xB s0 + XA 9 i), .int cell, .int n, .int w]) ++ List.replicate (6 - (lg_sl ([.ref (xB s0 + XA 9 i), .int cell, .int n, .int w])).length) Slot.unset).toArray = ls at hl ⊢
  have hl : lv_has ls 6 [(0, .ref (xB s0 + XA 9 i)), (1, .int cell), (2, .int n), (3, .int w)] := hl
  generalize hR : S_VE_load σ i cell n w = res
  unfold S_VE_load at hR
  refine lv_iload_n hx hb d_VE_load_0 rfl (lv_at hl 3 rfl) ?_
  refine lv_i2l hx hb d_VE_load_1 rfl ?_
  refine lv_iload_n hx hb d_VE_load_2 rfl (lv_at hl 2 rfl) ?_
  refine lv_i2l hx hb d_VE_load_3 rfl ?_
  refine lv_lmul hx hb d_VE_load_4 ?_
  refine lv_lstore (lv' := [(4, .long (w.toInt64 * n.toInt64)), (0, .ref (xB s0 + XA 9 i)), (1, .int cell), (2, .int n), (3, .int w)]) hx hb d_VE_load_5 hl (by decide) rfl (fun ls hl => ?_)
  refine lv_aload_n hx hb d_VE_load_7 rfl (lv_at hl 1 rfl) ?_
  refine xw_get (C := R_VE) (T := F_VE) (N := 13) (r := 9) (i := i) hx hb hts hi_VE hown hK hX hi_i rfl rfl 2 (by decide) (hts _ w_86) rfl rfl d_VE_load_8 ?_
  refine lv_iload_n hx hb d_VE_load_11 rfl (lv_at hl 2 rfl) ?_
  refine lv_dup2_11 hx hb d_VE_load_12 rfl rfl ?_
  refine xw_iald (r := 12) (i := i) hx hb hK hX hi_i 0 rfl rfl (j := cell) hc d_VE_load_13 ?_
  refine lv_iload_n hx hb d_VE_load_14 rfl (lv_at hl 3 rfl) ?_
  refine lv_iadd hx hb d_VE_load_15 ?_
  refine xw_iast (r := 12) (i := i) (ent' := XE dA (xB s0) (xuI σ 12 i cell.toNatClampNeg ((σ.1 12 i cell.toNatClampNeg) + n))) hx hb hK xInj hX hS (xA_in _ _ _) hi_i 0 rfl rfl (j := cell) hc ((xe_uI dA (xB s0) σ 12 i cell.toNatClampNeg ((σ.1 12 i cell.toNatClampNeg) + n)).trans rfl) (xe_oI dA (xB s0) σ 12 i cell.toNatClampNeg ((σ.1 12 i cell.toNatClampNeg) + n)) d_VE_load_16 (fun H locs hX hS => ?_)
  refine lv_aload_n hx hb d_VE_load_17 rfl (lv_at hl 1 rfl) ?_
  refine lv_dup hx hb d_VE_load_18 rfl ?_
  refine xw_get (C := R_VE) (T := F_VE) (N := 13) (r := 9) (i := i) hx hb hts hi_VE hown hK hX hi_i rfl rfl 11 (by decide) (hts _ w_103) rfl rfl d_VE_load_19 ?_
  refine lv_lload hx hb d_VE_load_22 (lv_at hl 0 rfl) ?_
  refine lv_ladd hx hb d_VE_load_24 ?_
  refine xw_put (C := R_VE) (T := F_VE) (N := 13) (r := 9) (i := i) (ent' := XE dA (xB s0) (xuL (xuI σ 12 i cell.toNatClampNeg ((σ.1 12 i cell.toNatClampNeg) + n)) 9 i 11 (((xuI σ 12 i cell.toNatClampNeg ((σ.1 12 i cell.toNatClampNeg) + n)).2 9 i 11) + (w.toInt64 * n.toInt64)))) hx hb hts hi_VE t_VE t_VE_ok n_VE hown hK xInj hX hS (xA_in _ _ _) hi_i rfl rfl 11 (by decide) (hts _ w_103) rfl rfl rfl rfl (Nat.le_of_ble_eq_true rfl) ((xe_uL dA (xB s0) (xuI σ 12 i cell.toNatClampNeg ((σ.1 12 i cell.toNatClampNeg) + n)) 9 i 11 (((xuI σ 12 i cell.toNatClampNeg ((σ.1 12 i cell.toNatClampNeg) + n)).2 9 i 11) + (w.toInt64 * n.toInt64))).trans rfl) (xe_oL dA (xB s0) (xuI σ 12 i cell.toNatClampNeg ((σ.1 12 i cell.toNatClampNeg) + n)) 9 i 11 (((xuI σ 12 i cell.toNatClampNeg ((σ.1 12 i cell.toNatClampNeg) + n)).2 9 i 11) + (w.toInt64 * n.toInt64))) d_VE_load_25 (fun H locs hX hS => ?_)
  refine lv_aload_n hx hb d_VE_load_28 rfl (lv_at hl 1 rfl) ?_
  refine lv_dup hx hb d_VE_load_29 rfl ?_
  refine xw_get (C := R_VE) (T := F_VE) (N := 13) (r := 9) (i := i) hx hb hts hi_VE hown hK hX hi_i rfl rfl 12 (by decide) (hts _ w_104) rfl rfl d_VE_load_30 ?_
  refine lv_lload hx hb d_VE_load_33 (lv_at hl 0 rfl) ?_
  refine lv_aload_n hx hb d_VE_load_35 rfl (lv_at hl 1 rfl) ?_
  refine xw_get (C := R_VE) (T := F_VE) (N := 13) (r := 9) (i := i) hx hb hts hi_VE hown hK hX hi_i rfl rfl 0 (by decide) (hts _ w_82) rfl rfl d_VE_load_36 ?_
  refine lv_iload_n hx hb d_VE_load_39 rfl (lv_at hl 2 rfl) ?_
  refine lv_bipush (v := 30) hx hb d_VE_load_40 (by decide) ?_
  refine lv_idiv hx hb d_VE_load_42 (by decide) ?_
  refine xw_iald (r := 10) (i := i) hx hb hK hX hi_i 0 rfl rfl (j := (cell / (30 : Int32))) (o_div hc) d_VE_load_43 ?_
  refine lv_i2l hx hb d_VE_load_44 rfl ?_
  refine lv_lmul hx hb d_VE_load_45 ?_
  refine lv_ladd hx hb d_VE_load_46 ?_
  refine xw_put (C := R_VE) (T := F_VE) (N := 13) (r := 9) (i := i) (ent' := XE dA (xB s0) (xuL (xuL (xuI σ 12 i cell.toNatClampNeg ((σ.1 12 i cell.toNatClampNeg) + n)) 9 i 11 (((xuI σ 12 i cell.toNatClampNeg ((σ.1 12 i cell.toNatClampNeg) + n)).2 9 i 11) + (w.toInt64 * n.toInt64))) 9 i 12 (((xuL (xuI σ 12 i cell.toNatClampNeg ((σ.1 12 i cell.toNatClampNeg) + n)) 9 i 11 (((xuI σ 12 i cell.toNatClampNeg ((σ.1 12 i cell.toNatClampNeg) + n)).2 9 i 11) + (w.toInt64 * n.toInt64))).2 9 i 12) + ((w.toInt64 * n.toInt64) * ((xuL (xuI σ 12 i cell.toNatClampNeg ((σ.1 12 i cell.toNatClampNeg) + n)) 9 i 11 (((xuI σ 12 i cell.toNatClampNeg ((σ.1 12 i cell.toNatClampNeg) + n)).2 9 i 11) + (w.toInt64 * n.toInt64))).1 10 i (cell / (30 : Int32)).toNatClampNeg).toInt64)))) hx hb hts hi_VE t_VE t_VE_ok n_VE hown hK xInj hX hS (xA_in _ _ _) hi_i rfl rfl 12 (by decide) (hts _ w_104) rfl rfl rfl rfl (Nat.le_of_ble_eq_true rfl) ((xe_uL dA (xB s0) (xuL (xuI σ 12 i cell.toNatClampNeg ((σ.1 12 i cell.toNatClampNeg) + n)) 9 i 11 (((xuI σ 12 i cell.toNatClampNeg ((σ.1 12 i cell.toNatClampNeg) + n)).2 9 i 11) + (w.toInt64 * n.toInt64))) 9 i 12 (((xuL (xuI σ 12 i cell.toNatClampNeg ((σ.1 12 i cell.toNatClampNeg) + n)) 9 i 11 (((xuI σ 12 i cell.toNatClampNeg ((σ.1 12 i cell.toNatClampNeg) + n)).2 9 i 11) + (w.toInt64 * n.toInt64))).2 9 i 12) + ((w.toInt64 * n.toInt64) * ((xuL (xuI σ 12 i cell.toNatClampNeg ((σ.1 12 i cell.toNatClampNeg) + n)) 9 i 11 (((xuI σ 12 i cell.toNatClampNeg ((σ.1 12 i cell.toNatClampNeg) + n)).2 9 i 11) + (w.toInt64 * n.toInt64))).1 10 i (cell / (30 : Int32)).toNatClampNeg).toInt64))).trans rfl) (xe_oL dA (xB s0) (xuL (xuI σ 12 i cell.toNatClampNeg ((σ.1 12 i cell.toNatClampNeg) + n)) 9 i 11 (((xuI σ 12 i cell.toNatClampNeg ((σ.1 12 i cell.toNatClampNeg) + n)).2 9 i 11) + (w.toInt64 * n.toInt64))) 9 i 12 (((xuL (xuI σ 12 i cell.toNatClampNeg ((σ.1 12 i cell.toNatClampNeg) + n)) 9 i 11 (((xuI σ 12 i cell.toNatClampNeg ((σ.1 12 i cell.toNatClampNeg) + n)).2 9 i 11) + (w.toInt64 * n.toInt64))).2 9 i 12) + ((w.toInt64 * n.toInt64) * ((xuL (xuI σ 12 i cell.toNatClampNeg ((σ.1 12 i cell.toNatClampNeg) + n)) 9 i 11 (((xuI σ 12 i cell.toNatClampNeg ((σ.1 12 i cell.toNatClampNeg) + n)).2 9 i 11) + (w.toInt64 * n.toInt64))).1 10 i (cell / (30 : Int32)).toNatClampNeg).toInt64))) d_VE_load_47 (fun H locs hX hS => ?_)
  subst hR
  refine W.widen (k := 0) (n := 0) (by decide) (by decide) ?_; exact xs_v hx hb hr hlocks hX hS d_VE_load_50

abbrev rm_VE_isEmpty : Room := { frames := 1, cells := 0, slots := 0, locals := 21 }
def L_VE_isEmpty : Nat → XS → Nat → Int32 → Int32 → Int32
  | 0, _, _, _, _ => default
  | n + 1, σ, i, cup, x2 => (if (30 : Int32) ≤ x2 then (1 : Int32) else (if (σ.1 12 i (S_LC_cellOf σ cup x2).toNatClampNeg) ≤ 0 then (L_VE_isEmpty n σ i cup (x2 + 1)) else (0 : Int32)))
def S_VE_isEmpty (σ : XS) (i : Nat) (cup : Int32) : Int32 := (L_VE_isEmpty 31 σ i cup (0 : Int32))
set_option maxHeartbeats 4000000 in
set_option maxRecDepth 100000 in
theorem l_VE_isEmpty {l : Launch} {s0 : State} {A0 : Array Value} {D : va_G} {dA : Nat → ClassId} (h0 : XS0 l s0 A0 D dA) {p : Program} {e : Env} {s : State} {m : MethodId} {args : Array Value} {below : List Frame} {meth : Method} {c : Code} (hx : p.tables.exec = Jvm.exec) (hb : c.code = b_VE_isEmpty) (hr : meth.sig.returnType = (some .boolean)) (hml : c.maxLocals = 3) (hown : s.vm.findClass "LoadChecks$Vehicle" = some m.cls) (hlocks : meth.locks = false) (hnt : c.exceptionTable.isEmpty = true) (hO : XO s0 s s.heap) :
    ∀ (n : Nat) (σ : XS) (i : Nat) (cup : Int32) (x2 : Int32) (k : Nat), x2 = nI k → k + n = 31 → k < 31 → i < 16 → vp_in cup 8 → XWs D dA s0 σ s.heap → ∀ (ls : Array Slot), lv_has ls 3 [(0, .ref (xB s0 + XA 9 i)), (1, .int cup), (2, .int x2)] → ∀ res, L_VE_isEmpty n σ i cup x2 = res →
    W p l e rm_VE_isEmpty s m args below meth c s.heap [] 0 0 (XMQ below (XQp xv_i (.inl res)) args s 0 0 (fun _ => False)) (F0 m 2 ls []) := by
  have hW0 := hO.1
  have hts := xs_w (args := args) h0 hW0
  have hK := xs_K h0 hW0
  intro n
  induction n with
  | zero =>
    intro σ i cup x2 k e1 h2 h3
    exact absurd h2 (by omega)
  | succ n ih =>
    intro σ i cup x2 k e_x2 hkn hkF hi_i hc hX ls hl res hR
    rw [L_VE_isEmpty] at hR
    refine lv_iload_n hx hb d_VE_isEmpty_2 rfl (lv_at hl 2 rfl) ?_
    refine lv_bipush (v := 30) hx hb d_VE_isEmpty_3 (by decide) ?_
    refine lv_icmp_ge (tgt := 29) hx hb d_VE_isEmpty_5 (by decide) (fun c5 => ?_) (fun c5 => ?_)
    · rw [if_pos c5] at hR
      refine lv_iconst (v := 1) hx hb d_VE_isEmpty_29 (by decide) ?_
      subst hR
      refine W.widen (k := 0) (n := 0) (by decide) (by decide) ?_; exact xr_z hx hb hr hlocks (by rfl) d_VE_isEmpty_30
    · rw [if_neg c5] at hR
      have hk : k < 30 := x_klt (b := 30) rfl (by decide) (by omega) e_x2 c5
      refine lv_aload_n hx hb d_VE_isEmpty_8 rfl (lv_at hl 0 rfl) ?_
      refine xw_get (C := R_VE) (T := F_VE) (N := 13) (r := 9) (i := i) hx hb hts hi_VE hown hK hX hi_i rfl rfl 2 (by decide) (hts _ w_86) rfl rfl d_VE_isEmpty_9 ?_
      refine lv_iload_n hx hb d_VE_isEmpty_12 rfl (lv_at hl 1 rfl) ?_
      refine lv_iload_n hx hb d_VE_isEmpty_13 rfl (lv_at hl 2 rfl) ?_
      refine xc_f (rest := [.ref (xB s0 + XA 12 i)]) (x_invSN (argsL := [.int cup, .int x2]) hx hb hown (xs_M h0 hW0 m_311) (hts _ w_312) (hts _ w_34) (x_code (hts _ w_313)) ⟨by decide, by decide⟩ rfl rfl rfl d_VE_isEmpty_14) (c_LC_cellOf h0 σ cup x2) (xs_cw h0 hW0 m_313) (hts _ w_34) ⟨rfl, rfl, Nat.le_of_ble_eq_true rfl, Nat.le_of_ble_eq_true rfl⟩ (hl.1.trans hml.symm) (by rw [hb]; exact d_VE_isEmpty_14) (Nat.le_of_ble_eq_true rfl) ⟨Nat.le_of_ble_eq_true rfl, Nat.le_of_ble_eq_true rfl⟩ hX hO ?_
      refine xw_iald (r := 12) (i := i) hx hb hK hX hi_i 0 rfl rfl (j := (S_LC_cellOf σ cup x2)) (o_cell hc (o_nI e_x2 hk (by decide))) d_VE_isEmpty_17 ?_
      refine lv_if_le (tgt := 23) hx hb d_VE_isEmpty_18 (by decide) (fun c18 => ?_) (fun c18 => ?_)
      · rw [if_pos c18] at hR
        refine lv_iinc (v := (x2 + 1)) (lv' := [(2, .int (x2 + 1)), (0, .ref (xB s0 + XA 9 i)), (1, .int cup)]) hx hb d_VE_isEmpty_23 hl (k := 2) rfl rfl (by decide) rfl (fun ls hl => ?_)
        refine lv_goto (tgt := 2) hx hb d_VE_isEmpty_26 (by decide) ?_
        exact ih σ i cup (x2 + 1) (k + 1) (by rw [e_x2]; exact nI_1 k) (by omega) (by omega) hi_i hc hX ls (lv_sub hl [1, 2, 0] rfl) res hR
      · rw [if_neg c18] at hR
        refine lv_iconst (v := 0) hx hb d_VE_isEmpty_21 (by decide) ?_
        subst hR
        refine W.widen (k := 0) (n := 0) (by decide) (by decide) ?_; exact xr_z hx hb hr hlocks (by rfl) d_VE_isEmpty_22
set_option maxHeartbeats 4000000 in
set_option maxRecDepth 100000 in
theorem c_VE_isEmpty {l : Launch} {s0 : State} {A0 : Array Value} {D : va_G} {dA : Nat → ClassId} (h0 : XS0 l s0 A0 D dA) (σ : XS) (i : Nat) (cup : Int32) (hi_i : i < 16) (hc : vp_in cup 8) : XMet l y_VE_isEmpty [cw_VE_isEmpty] rm_VE_isEmpty (XP D dA s0 σ [.ref (xB s0 + XA 9 i), .int cup]) (XQp xv_i (.inl (S_VE_isEmpty σ i cup))) 0 0 (fun _ => False) := by
  refine XMet.ofW (cc := b_VE_isEmpty) (maxL := 3) (ret := (some .boolean)) (by decide) rfl ?_
  intro p e s m args below meth c s₁ Bd hml hv
  obtain ⟨rfl, hX, hO⟩ := hv
  have hx := Bd.exec
  have hb := Bd.bytes
  have hr := Bd.returns
  have hown : s.vm.findClass "LoadChecks$Vehicle" = some m.cls := findClass_of_methodNamed Bd.named
  have hlocks := Bd.notSynchronized
  have hnt : c.exceptionTable.isEmpty = true := Bd.noHandlers (atoms_spec (ws := [cw_VE_isEmpty]) Bd.pre _ List.mem_cons_self)
  have hW0 := hO.1
  have hts := xs_w (args := ([.ref (xB s0 + XA 9 i), .int cup] : List Value).toArray) h0 hW0
  have hK := xs_K h0 hW0
  have hl := lv_entry ([.ref (xB s0 + XA 9 i), .int cup]) (n := 3) (Nat.le_of_ble_eq_true rfl)
  rw [lg_entry_eq]
  generalize (lg_sl ([.ref (xB s0 + XA 9 i), .int cup]) ++ List.replicate (3 - (lg_sl ([.ref (xB s0 + XA 9 i), .int cup])).length) Slot.unset).toArray = ls at hl ⊢
  have hl : lv_has ls 3 [(0, .ref (xB s0 + XA 9 i)), (1, .int cup)] := hl
  generalize hR : S_VE_isEmpty σ i cup = res
  unfold S_VE_isEmpty at hR
  refine lv_iconst (v := 0) hx hb d_VE_isEmpty_0 (by decide) ?_
  refine lv_istore_n (lv' := [(2, .int (0 : Int32)), (0, .ref (xB s0 + XA 9 i)), (1, .int cup)]) hx hb d_VE_isEmpty_1 rfl hl (by decide) rfl (fun ls hl => ?_)
  exact l_VE_isEmpty h0 hx hb hr hml hown hlocks hnt hO 31 σ i cup (0 : Int32) 0 nI_0.symm rfl (by decide) hi_i hc hX ls (lv_sub hl [1, 2, 0] rfl) res hR

abbrev rm_VE_carries : Room := { frames := 1, cells := 0, slots := 0, locals := 21 }
def L_VE_carries : Nat → XS → Nat → Int32 → Int32 → Int32
  | 0, _, _, _, _ => default
  | n + 1, σ, i, it, x2 => (if (8 : Int32) ≤ x2 then (0 : Int32) else (if (σ.1 12 i (S_LC_cellOf σ x2 it).toNatClampNeg) ≤ 0 then (L_VE_carries n σ i it (x2 + 1)) else (1 : Int32)))
def S_VE_carries (σ : XS) (i : Nat) (it : Int32) : Int32 := (L_VE_carries 9 σ i it (0 : Int32))
set_option maxHeartbeats 4000000 in
set_option maxRecDepth 100000 in
theorem l_VE_carries {l : Launch} {s0 : State} {A0 : Array Value} {D : va_G} {dA : Nat → ClassId} (h0 : XS0 l s0 A0 D dA) {p : Program} {e : Env} {s : State} {m : MethodId} {args : Array Value} {below : List Frame} {meth : Method} {c : Code} (hx : p.tables.exec = Jvm.exec) (hb : c.code = b_VE_carries) (hr : meth.sig.returnType = (some .boolean)) (hml : c.maxLocals = 3) (hown : s.vm.findClass "LoadChecks$Vehicle" = some m.cls) (hlocks : meth.locks = false) (hnt : c.exceptionTable.isEmpty = true) (hO : XO s0 s s.heap) :
    ∀ (n : Nat) (σ : XS) (i : Nat) (it : Int32) (x2 : Int32) (k : Nat), x2 = nI k → k + n = 9 → k < 9 → i < 16 → vp_in it 30 → XWs D dA s0 σ s.heap → ∀ (ls : Array Slot), lv_has ls 3 [(0, .ref (xB s0 + XA 9 i)), (1, .int it), (2, .int x2)] → ∀ res, L_VE_carries n σ i it x2 = res →
    W p l e rm_VE_carries s m args below meth c s.heap [] 0 0 (XMQ below (XQp xv_i (.inl res)) args s 0 0 (fun _ => False)) (F0 m 2 ls []) := by
  have hW0 := hO.1
  have hts := xs_w (args := args) h0 hW0
  have hK := xs_K h0 hW0
  intro n
  induction n with
  | zero =>
    intro σ i it x2 k e1 h2 h3
    exact absurd h2 (by omega)
  | succ n ih =>
    intro σ i it x2 k e_x2 hkn hkF hi_i hc hX ls hl res hR
    rw [L_VE_carries] at hR
    refine lv_iload_n hx hb d_VE_carries_2 rfl (lv_at hl 2 rfl) ?_
    refine lv_bipush (v := 8) hx hb d_VE_carries_3 (by decide) ?_
    refine lv_icmp_ge (tgt := 29) hx hb d_VE_carries_5 (by decide) (fun c5 => ?_) (fun c5 => ?_)
    · rw [if_pos c5] at hR
      refine lv_iconst (v := 0) hx hb d_VE_carries_29 (by decide) ?_
      subst hR
      refine W.widen (k := 0) (n := 0) (by decide) (by decide) ?_; exact xr_z hx hb hr hlocks (by rfl) d_VE_carries_30
    · rw [if_neg c5] at hR
      have hk : k < 8 := x_klt (b := 8) rfl (by decide) (by omega) e_x2 c5
      refine lv_aload_n hx hb d_VE_carries_8 rfl (lv_at hl 0 rfl) ?_
      refine xw_get (C := R_VE) (T := F_VE) (N := 13) (r := 9) (i := i) hx hb hts hi_VE hown hK hX hi_i rfl rfl 2 (by decide) (hts _ w_86) rfl rfl d_VE_carries_9 ?_
      refine lv_iload_n hx hb d_VE_carries_12 rfl (lv_at hl 2 rfl) ?_
      refine lv_iload_n hx hb d_VE_carries_13 rfl (lv_at hl 1 rfl) ?_
      refine xc_f (rest := [.ref (xB s0 + XA 12 i)]) (x_invSN (argsL := [.int x2, .int it]) hx hb hown (xs_M h0 hW0 m_311) (hts _ w_312) (hts _ w_34) (x_code (hts _ w_313)) ⟨by decide, by decide⟩ rfl rfl rfl d_VE_carries_14) (c_LC_cellOf h0 σ x2 it) (xs_cw h0 hW0 m_313) (hts _ w_34) ⟨rfl, rfl, Nat.le_of_ble_eq_true rfl, Nat.le_of_ble_eq_true rfl⟩ (hl.1.trans hml.symm) (by rw [hb]; exact d_VE_carries_14) (Nat.le_of_ble_eq_true rfl) ⟨Nat.le_of_ble_eq_true rfl, Nat.le_of_ble_eq_true rfl⟩ hX hO ?_
      refine xw_iald (r := 12) (i := i) hx hb hK hX hi_i 0 rfl rfl (j := (S_LC_cellOf σ x2 it)) (o_cell (o_nI e_x2 hk (by decide)) hc) d_VE_carries_17 ?_
      refine lv_if_le (tgt := 23) hx hb d_VE_carries_18 (by decide) (fun c18 => ?_) (fun c18 => ?_)
      · rw [if_pos c18] at hR
        refine lv_iinc (v := (x2 + 1)) (lv' := [(2, .int (x2 + 1)), (0, .ref (xB s0 + XA 9 i)), (1, .int it)]) hx hb d_VE_carries_23 hl (k := 2) rfl rfl (by decide) rfl (fun ls hl => ?_)
        refine lv_goto (tgt := 2) hx hb d_VE_carries_26 (by decide) ?_
        exact ih σ i it (x2 + 1) (k + 1) (by rw [e_x2]; exact nI_1 k) (by omega) (by omega) hi_i hc hX ls (lv_sub hl [1, 2, 0] rfl) res hR
      · rw [if_neg c18] at hR
        refine lv_iconst (v := 1) hx hb d_VE_carries_21 (by decide) ?_
        subst hR
        refine W.widen (k := 0) (n := 0) (by decide) (by decide) ?_; exact xr_z hx hb hr hlocks (by rfl) d_VE_carries_22
set_option maxHeartbeats 4000000 in
set_option maxRecDepth 100000 in
theorem c_VE_carries {l : Launch} {s0 : State} {A0 : Array Value} {D : va_G} {dA : Nat → ClassId} (h0 : XS0 l s0 A0 D dA) (σ : XS) (i : Nat) (it : Int32) (hi_i : i < 16) (hc : vp_in it 30) : XMet l y_VE_carries [cw_VE_carries] rm_VE_carries (XP D dA s0 σ [.ref (xB s0 + XA 9 i), .int it]) (XQp xv_i (.inl (S_VE_carries σ i it))) 0 0 (fun _ => False) := by
  refine XMet.ofW (cc := b_VE_carries) (maxL := 3) (ret := (some .boolean)) (by decide) rfl ?_
  intro p e s m args below meth c s₁ Bd hml hv
  obtain ⟨rfl, hX, hO⟩ := hv
  have hx := Bd.exec
  have hb := Bd.bytes
  have hr := Bd.returns
  have hown : s.vm.findClass "LoadChecks$Vehicle" = some m.cls := findClass_of_methodNamed Bd.named
  have hlocks := Bd.notSynchronized
  have hnt : c.exceptionTable.isEmpty = true := Bd.noHandlers (atoms_spec (ws := [cw_VE_carries]) Bd.pre _ List.mem_cons_self)
  have hW0 := hO.1
  have hts := xs_w (args := ([.ref (xB s0 + XA 9 i), .int it] : List Value).toArray) h0 hW0
  have hK := xs_K h0 hW0
  have hl := lv_entry ([.ref (xB s0 + XA 9 i), .int it]) (n := 3) (Nat.le_of_ble_eq_true rfl)
  rw [lg_entry_eq]
  generalize (lg_sl ([.ref (xB s0 + XA 9 i), .int it]) ++ List.replicate (3 - (lg_sl ([.ref (xB s0 + XA 9 i), .int it])).length) Slot.unset).toArray = ls at hl ⊢
  have hl : lv_has ls 3 [(0, .ref (xB s0 + XA 9 i)), (1, .int it)] := hl
  generalize hR : S_VE_carries σ i it = res
  unfold S_VE_carries at hR
  refine lv_iconst (v := 0) hx hb d_VE_carries_0 (by decide) ?_
  refine lv_istore_n (lv' := [(2, .int (0 : Int32)), (0, .ref (xB s0 + XA 9 i)), (1, .int it)]) hx hb d_VE_carries_1 rfl hl (by decide) rfl (fun ls hl => ?_)
  exact l_VE_carries h0 hx hb hr hml hown hlocks hnt hO 9 σ i it (0 : Int32) 0 nI_0.symm rfl (by decide) hi_i hc hX ls (lv_sub hl [1, 2, 0] rfl) res hR

abbrev rm_VE_lackOf : Room := { frames := 1, cells := 0, slots := 0, locals := 23 }
def S_VE_lackOf (σ : XS) (i : Nat) (cell : Int32) (need : Int32) : Int32 := (if (need - (σ.1 12 i cell.toNatClampNeg)) < (0 : Int32) then (0 : Int32) else (need - (σ.1 12 i cell.toNatClampNeg)))
set_option maxHeartbeats 4000000 in
set_option maxRecDepth 100000 in
theorem c_VE_lackOf {l : Launch} {s0 : State} {A0 : Array Value} {D : va_G} {dA : Nat → ClassId} (h0 : XS0 l s0 A0 D dA) (σ : XS) (i : Nat) (cell : Int32) (need : Int32) (hi_i : i < 16) (hc : vp_in cell 240) : XMet l y_VE_lackOf [cw_VE_lackOf] rm_VE_lackOf (XP D dA s0 σ [.ref (xB s0 + XA 9 i), .int cell, .int need]) (XQp xv_i (.inl (S_VE_lackOf σ i cell need))) 0 0 (fun _ => False) := by
  refine XMet.ofW (cc := b_VE_lackOf) (maxL := 3) (ret := (some .int)) (by decide) rfl ?_
  intro p e s m args below meth c s₁ Bd hml hv
  obtain ⟨rfl, hX, hO⟩ := hv
  have hx := Bd.exec
  have hb := Bd.bytes
  have hr := Bd.returns
  have hown : s.vm.findClass "LoadChecks$Vehicle" = some m.cls := findClass_of_methodNamed Bd.named
  have hlocks := Bd.notSynchronized
  have hnt : c.exceptionTable.isEmpty = true := Bd.noHandlers (atoms_spec (ws := [cw_VE_lackOf]) Bd.pre _ List.mem_cons_self)
  have hW0 := hO.1
  have hts := xs_w (args := ([.ref (xB s0 + XA 9 i), .int cell, .int need] : List Value).toArray) h0 hW0
  have hK := xs_K h0 hW0
  have hl := lv_entry ([.ref (xB s0 + XA 9 i), .int cell, .int need]) (n := 3) (Nat.le_of_ble_eq_true rfl)
  rw [lg_entry_eq]
  generalize (lg_sl ([.ref (xB s0 + XA 9 i), .int cell, .int need]) ++ List.replicate (3 - (lg_sl ([.ref (xB s0 + XA 9 i), .int cell, .int need])).length) Slot.unset).toArray = ls at hl ⊢
  have hl : lv_has ls 3 [(0, .ref (xB s0 + XA 9 i)), (1, .int cell), (2, .int need)] := hl
  generalize hR : S_VE_lackOf σ i cell need = res
  unfold S_VE_lackOf at hR
  refine lv_iload_n hx hb d_VE_lackOf_0 rfl (lv_at hl 2 rfl) ?_
  refine lv_aload_n hx hb d_VE_lackOf_1 rfl (lv_at hl 0 rfl) ?_
  refine xw_get (C := R_VE) (T := F_VE) (N := 13) (r := 9) (i := i) hx hb hts hi_VE hown hK hX hi_i rfl rfl 2 (by decide) (hts _ w_86) rfl rfl d_VE_lackOf_2 ?_
  refine lv_iload_n hx hb d_VE_lackOf_5 rfl (lv_at hl 1 rfl) ?_
  refine xw_iald (r := 12) (i := i) hx hb hK hX hi_i 0 rfl rfl (j := cell) hc d_VE_lackOf_6 ?_
  refine lv_isub hx hb d_VE_lackOf_7 ?_
  refine lv_iconst (v := 0) hx hb d_VE_lackOf_8 (by decide) ?_
  refine va_mmax hx hb (hml.trans hl.1.symm) hown (hts _ w_425) (hts _ w_426) (hts _ w_46) (hts _ w_427) (Nat.le_of_ble_eq_true rfl) (Nat.le_of_ble_eq_true rfl) (Nat.le_of_ble_eq_true rfl) (Nat.le_of_ble_eq_true rfl) d_VE_lackOf_9 ?_
  subst hR
  refine W.widen (k := 0) (n := 0) (by decide) (by decide) ?_; exact xr_i hx hb hr hlocks d_VE_lackOf_12

abbrev rm_VE_missingCell : Room := { frames := 2, cells := 0, slots := 0, locals := 45 }
def L_VE_missingCell : Nat → XS → Nat → Nat → Int32 → Int32 → Int32 → Int32
  | 0, _, _, _, _, _, _ => default
  | n + 1, σ, i, kk, q, x3, x4 => (if (240 : Int32) ≤ x4 then (-1 : Int32) else (if (S_VE_lackOf σ i x4 (σ.1 5 kk x4.toNatClampNeg)) ≤ 0 then (L_VE_missingCell n σ i kk q x3 (x4 + 1)) else (if x3 = q then x4 else (L_VE_missingCell n σ i kk q (x3 + 1) (x4 + 1)))))
def S_VE_missingCell (σ : XS) (i : Nat) (kk : Nat) (q : Int32) : Int32 := (L_VE_missingCell 241 σ i kk q (0 : Int32) (0 : Int32))
set_option maxHeartbeats 4000000 in
set_option maxRecDepth 100000 in
theorem l_VE_missingCell {l : Launch} {s0 : State} {A0 : Array Value} {D : va_G} {dA : Nat → ClassId} (h0 : XS0 l s0 A0 D dA) {p : Program} {e : Env} {s : State} {m : MethodId} {args : Array Value} {below : List Frame} {meth : Method} {c : Code} (hx : p.tables.exec = Jvm.exec) (hb : c.code = b_VE_missingCell) (hr : meth.sig.returnType = (some .int)) (hml : c.maxLocals = 5) (hown : s.vm.findClass "LoadChecks$Vehicle" = some m.cls) (hlocks : meth.locks = false) (hnt : c.exceptionTable.isEmpty = true) (hO : XO s0 s s.heap) :
    ∀ (n : Nat) (σ : XS) (i : Nat) (kk : Nat) (q : Int32) (x3 : Int32) (x4 : Int32) (k : Nat), x4 = nI k → k + n = 241 → k < 241 → i < 16 → kk < 6 → XWs D dA s0 σ s.heap → ∀ (ls : Array Slot), lv_has ls 5 [(0, .ref (xB s0 + XA 9 i)), (1, .ref (xB s0 + XA 5 kk)), (2, .int q), (3, .int x3), (4, .int x4)] → ∀ res, L_VE_missingCell n σ i kk q x3 x4 = res →
    W p l e rm_VE_missingCell s m args below meth c s.heap [] 0 0 (XMQ below (XQp xv_i (.inl res)) args s 0 0 (fun _ => False)) (F0 m 5 ls []) := by
  have hW0 := hO.1
  have hts := xs_w (args := args) h0 hW0
  have hK := xs_K h0 hW0
  intro n
  induction n with
  | zero =>
    intro σ i kk q x3 x4 k e1 h2 h3
    exact absurd h2 (by omega)
  | succ n ih =>
    intro σ i kk q x3 x4 k e_x4 hkn hkF hi_i hi_kk hX ls hl res hR
    rw [L_VE_missingCell] at hR
    refine lv_iload hx hb d_VE_missingCell_5 (lv_at hl 4 rfl) ?_
    refine lv_sipush (v := 240) hx hb d_VE_missingCell_7 (by decide) ?_
    refine lv_icmp_ge (tgt := 43) hx hb d_VE_missingCell_10 (by decide) (fun c10 => ?_) (fun c10 => ?_)
    · rw [if_pos c10] at hR
      refine lv_iconst (v := -1) hx hb d_VE_missingCell_43 (by decide) ?_
      subst hR
      refine W.widen (k := 0) (n := 0) (by decide) (by decide) ?_; exact xr_i hx hb hr hlocks d_VE_missingCell_44
    · rw [if_neg c10] at hR
      have hk : k < 240 := x_klt (b := 240) rfl (by decide) (by omega) e_x4 c10
      have hcx : vp_in x4 240 := o_nI e_x4 hk (by decide)
      refine lv_aload_n hx hb d_VE_missingCell_13 rfl (lv_at hl 0 rfl) ?_
      refine lv_iload hx hb d_VE_missingCell_14 (lv_at hl 4 rfl) ?_
      refine lv_aload_n hx hb d_VE_missingCell_16 rfl (lv_at hl 1 rfl) ?_
      refine lv_iload hx hb d_VE_missingCell_17 (lv_at hl 4 rfl) ?_
      refine xw_iald (r := 5) (i := kk) hx hb hK hX hi_kk 0 rfl rfl (j := x4) hcx d_VE_missingCell_19 ?_
      obtain ⟨cB20, hcB20, hoB20, hkB20⟩ := xw_recv (r := 9) (i := i) hK hX hi_i rfl rfl
      refine xc_f (rest := []) (x_invV (argsL := [.int x4, .int (σ.1 5 kk x4.toNatClampNeg)]) hx hb hown (hts _ w_491) (hts _ w_423) (hts _ w_11) (x_code (hts _ w_424)) ⟨by decide, by decide⟩ hcB20 hoB20 hkB20 rfl rfl rfl d_VE_missingCell_20) (c_VE_lackOf h0 σ i x4 (σ.1 5 kk x4.toNatClampNeg) hi_i hcx) (xs_cw h0 hW0 m_424) (hts _ w_36) ⟨rfl, rfl, Nat.le_of_ble_eq_true rfl, Nat.le_of_ble_eq_true rfl⟩ (hl.1.trans hml.symm) (by rw [hb]; exact d_VE_missingCell_20) (Nat.le_of_ble_eq_true rfl) ⟨Nat.le_of_ble_eq_true rfl, Nat.le_of_ble_eq_true rfl⟩ hX hO ?_
      refine lv_if_le (tgt := 37) hx hb d_VE_missingCell_23 (by decide) (fun c23 => ?_) (fun c23 => ?_)
      · rw [if_pos c23] at hR
        refine lv_iinc (v := (x4 + 1)) (lv' := [(4, .int (x4 + 1)), (0, .ref (xB s0 + XA 9 i)), (1, .ref (xB s0 + XA 5 kk)), (2, .int q), (3, .int x3)]) hx hb d_VE_missingCell_37 hl (k := 4) rfl rfl (by decide) rfl (fun ls hl => ?_)
        refine lv_goto (tgt := 5) hx hb d_VE_missingCell_40 (by decide) ?_
        exact ih σ i kk q x3 (x4 + 1) (k + 1) (by rw [e_x4]; exact nI_1 k) (by omega) (by omega) hi_i hi_kk  hX ls (lv_sub hl [1, 2, 3, 4, 0] rfl) res hR
      · rw [if_neg c23] at hR
        refine lv_iload_n hx hb d_VE_missingCell_26 rfl (lv_at hl 3 rfl) ?_
        refine lv_iload_n hx hb d_VE_missingCell_27 rfl (lv_at hl 2 rfl) ?_
        refine lv_icmp_ne (tgt := 34) hx hb d_VE_missingCell_28 (by decide) (fun c28 => ?_) (fun c28 => ?_)
        · rw [if_neg c28] at hR
          refine lv_iinc (v := (x3 + 1)) (lv' := [(3, .int (x3 + 1)), (0, .ref (xB s0 + XA 9 i)), (1, .ref (xB s0 + XA 5 kk)), (2, .int q), (4, .int x4)]) hx hb d_VE_missingCell_34 hl (k := 3) rfl rfl (by decide) rfl (fun ls hl => ?_)
          refine lv_iinc (v := (x4 + 1)) (lv' := [(4, .int (x4 + 1)), (3, .int (x3 + 1)), (0, .ref (xB s0 + XA 9 i)), (1, .ref (xB s0 + XA 5 kk)), (2, .int q)]) hx hb d_VE_missingCell_37 hl (k := 4) rfl rfl (by decide) rfl (fun ls hl => ?_)
          refine lv_goto (tgt := 5) hx hb d_VE_missingCell_40 (by decide) ?_
          exact ih σ i kk q (x3 + 1) (x4 + 1) (k + 1) (by rw [e_x4]; exact nI_1 k) (by omega) (by omega) hi_i hi_kk  hX ls (lv_sub hl [2, 3, 4, 1, 0] rfl) res hR
        · rw [if_pos c28] at hR
          refine lv_iload hx hb d_VE_missingCell_31 (lv_at hl 4 rfl) ?_
          subst hR
          refine W.widen (k := 0) (n := 0) (by decide) (by decide) ?_; exact xr_i hx hb hr hlocks d_VE_missingCell_33
set_option maxHeartbeats 4000000 in
set_option maxRecDepth 100000 in
theorem c_VE_missingCell {l : Launch} {s0 : State} {A0 : Array Value} {D : va_G} {dA : Nat → ClassId} (h0 : XS0 l s0 A0 D dA) (σ : XS) (i : Nat) (kk : Nat) (q : Int32) (hi_i : i < 16) (hi_kk : kk < 6) : XMet l y_VE_missingCell [cw_VE_missingCell] rm_VE_missingCell (XP D dA s0 σ [.ref (xB s0 + XA 9 i), .ref (xB s0 + XA 5 kk), .int q]) (XQp xv_i (.inl (S_VE_missingCell σ i kk q))) 0 0 (fun _ => False) := by
  refine XMet.ofW (cc := b_VE_missingCell) (maxL := 5) (ret := (some .int)) (by decide) rfl ?_
  intro p e s m args below meth c s₁ Bd hml hv
  obtain ⟨rfl, hX, hO⟩ := hv
  have hx := Bd.exec
  have hb := Bd.bytes
  have hr := Bd.returns
  have hown : s.vm.findClass "LoadChecks$Vehicle" = some m.cls := findClass_of_methodNamed Bd.named
  have hlocks := Bd.notSynchronized
  have hnt : c.exceptionTable.isEmpty = true := Bd.noHandlers (atoms_spec (ws := [cw_VE_missingCell]) Bd.pre _ List.mem_cons_self)
  have hW0 := hO.1
  have hts := xs_w (args := ([.ref (xB s0 + XA 9 i), .ref (xB s0 + XA 5 kk), .int q] : List Value).toArray) h0 hW0
  have hK := xs_K h0 hW0
  have hl := lv_entry ([.ref (xB s0 + XA 9 i), .ref (xB s0 + XA 5 kk), .int q]) (n := 5) (Nat.le_of_ble_eq_true rfl)
  rw [lg_entry_eq]
  generalize (lg_sl ([.ref (xB s0 + XA 9 i), .ref (xB s0 + XA 5 kk), .int q]) ++ List.replicate (5 - (lg_sl ([.ref (xB s0 + XA 9 i), .ref (xB s0 + XA 5 kk), .int q])).length) Slot.unset).toArray = ls at hl ⊢
  have hl : lv_has ls 5 [(0, .ref (xB s0 + XA 9 i)), (1, .ref (xB s0 + XA 5 kk)), (2, .int q)] := hl
  generalize hR : S_VE_missingCell σ i kk q = res
  unfold S_VE_missingCell at hR
  refine lv_iconst (v := 0) hx hb d_VE_missingCell_0 (by decide) ?_
  refine lv_istore_n (lv' := [(3, .int (0 : Int32)), (0, .ref (xB s0 + XA 9 i)), (1, .ref (xB s0 + XA 5 kk)), (2, .int q)]) hx hb d_VE_missingCell_1 rfl hl (by decide) rfl (fun ls hl => ?_)
  refine lv_iconst (v := 0) hx hb d_VE_missingCell_2 (by decide) ?_
  refine lv_istore (lv' := [(4, .int (0 : Int32)), (3, .int (0 : Int32)), (0, .ref (xB s0 + XA 9 i)), (1, .ref (xB s0 + XA 5 kk)), (2, .int q)]) hx hb d_VE_missingCell_3 hl (by decide) rfl (fun ls hl => ?_)
  exact l_VE_missingCell h0 hx hb hr hml hown hlocks hnt hO 241 σ i kk q (0 : Int32) (0 : Int32) 0 nI_0.symm rfl (by decide) hi_i hi_kk  hX ls (lv_sub hl [2, 3, 4, 1, 0] rfl) res hR

abbrev rm_VE_hasBrokenSeal : Room := { frames := 0, cells := 0, slots := 0, locals := 0 }
def L_VE_hasBrokenSeal : Nat → XS → Nat → Int32 → Int32
  | 0, _, _, _ => default
  | n + 1, σ, i, x1 => (if (8 : Int32) ≤ x1 then (0 : Int32) else (if (σ.1 11 i x1.toNatClampNeg) = 0 then (L_VE_hasBrokenSeal n σ i (x1 + 1)) else (1 : Int32)))
def S_VE_hasBrokenSeal (σ : XS) (i : Nat) : Int32 := (L_VE_hasBrokenSeal 9 σ i (0 : Int32))
set_option maxHeartbeats 4000000 in
set_option maxRecDepth 100000 in
theorem l_VE_hasBrokenSeal {l : Launch} {s0 : State} {A0 : Array Value} {D : va_G} {dA : Nat → ClassId} (h0 : XS0 l s0 A0 D dA) {p : Program} {e : Env} {s : State} {m : MethodId} {args : Array Value} {below : List Frame} {meth : Method} {c : Code} (hx : p.tables.exec = Jvm.exec) (hb : c.code = b_VE_hasBrokenSeal) (hr : meth.sig.returnType = (some .boolean)) (hml : c.maxLocals = 2) (hown : s.vm.findClass "LoadChecks$Vehicle" = some m.cls) (hlocks : meth.locks = false) (hnt : c.exceptionTable.isEmpty = true) (hO : XO s0 s s.heap) :
    ∀ (n : Nat) (σ : XS) (i : Nat) (x1 : Int32) (k : Nat), x1 = nI k → k + n = 9 → k < 9 → i < 16 → XWs D dA s0 σ s.heap → ∀ (ls : Array Slot), lv_has ls 2 [(0, .ref (xB s0 + XA 9 i)), (1, .int x1)] → ∀ res, L_VE_hasBrokenSeal n σ i x1 = res →
    W p l e rm_VE_hasBrokenSeal s m args below meth c s.heap [] 0 0 (XMQ below (XQp xv_i (.inl res)) args s 0 0 (fun _ => False)) (F0 m 2 ls []) := by
  have hW0 := hO.1
  have hts := xs_w (args := args) h0 hW0
  have hK := xs_K h0 hW0
  intro n
  induction n with
  | zero =>
    intro σ i x1 k e1 h2 h3
    exact absurd h2 (by omega)
  | succ n ih =>
    intro σ i x1 k e_x1 hkn hkF hi_i hX ls hl res hR
    rw [L_VE_hasBrokenSeal] at hR
    refine lv_iload_n hx hb d_VE_hasBrokenSeal_2 rfl (lv_at hl 1 rfl) ?_
    refine lv_bipush (v := 8) hx hb d_VE_hasBrokenSeal_3 (by decide) ?_
    refine lv_icmp_ge (tgt := 25) hx hb d_VE_hasBrokenSeal_5 (by decide) (fun c5 => ?_) (fun c5 => ?_)
    · rw [if_pos c5] at hR
      refine lv_iconst (v := 0) hx hb d_VE_hasBrokenSeal_25 (by decide) ?_
      subst hR
      refine W.widen (k := 0) (n := 0) (by decide) (by decide) ?_; exact xr_z hx hb hr hlocks (by rfl) d_VE_hasBrokenSeal_26
    · rw [if_neg c5] at hR
      have hk : k < 8 := x_klt (b := 8) rfl (by decide) (by omega) e_x1 c5
      refine lv_aload_n hx hb d_VE_hasBrokenSeal_8 rfl (lv_at hl 0 rfl) ?_
      refine xw_get (C := R_VE) (T := F_VE) (N := 13) (r := 9) (i := i) hx hb hts hi_VE hown hK hX hi_i rfl rfl 1 (by decide) (hts _ w_84) rfl rfl d_VE_hasBrokenSeal_9 ?_
      refine lv_iload_n hx hb d_VE_hasBrokenSeal_12 rfl (lv_at hl 1 rfl) ?_
      refine xw_zald (r := 11) (i := i) hx hb hK hX hi_i 1 rfl rfl (j := x1) (o_nI e_x1 hk (by decide)) d_VE_hasBrokenSeal_13 ?_
      refine lv_if_eq (tgt := 19) hx hb d_VE_hasBrokenSeal_14 (by decide) (fun c14 => ?_) (fun c14 => ?_)
      · rw [if_pos c14] at hR
        refine lv_iinc (v := (x1 + 1)) (lv' := [(1, .int (x1 + 1)), (0, .ref (xB s0 + XA 9 i))]) hx hb d_VE_hasBrokenSeal_19 hl (k := 1) rfl rfl (by decide) rfl (fun ls hl => ?_)
        refine lv_goto (tgt := 2) hx hb d_VE_hasBrokenSeal_22 (by decide) ?_
        exact ih σ i (x1 + 1) (k + 1) (by rw [e_x1]; exact nI_1 k) (by omega) (by omega) hi_i  hX ls (lv_sub hl [1, 0] rfl) res hR
      · rw [if_neg c14] at hR
        refine lv_iconst (v := 1) hx hb d_VE_hasBrokenSeal_17 (by decide) ?_
        subst hR
        refine W.widen (k := 0) (n := 0) (by decide) (by decide) ?_; exact xr_z hx hb hr hlocks (by rfl) d_VE_hasBrokenSeal_18
set_option maxHeartbeats 4000000 in
set_option maxRecDepth 100000 in
theorem c_VE_hasBrokenSeal {l : Launch} {s0 : State} {A0 : Array Value} {D : va_G} {dA : Nat → ClassId} (h0 : XS0 l s0 A0 D dA) (σ : XS) (i : Nat) (hi_i : i < 16) : XMet l y_VE_hasBrokenSeal [cw_VE_hasBrokenSeal] rm_VE_hasBrokenSeal (XP D dA s0 σ [.ref (xB s0 + XA 9 i)]) (XQp xv_i (.inl (S_VE_hasBrokenSeal σ i))) 0 0 (fun _ => False) := by
  refine XMet.ofW (cc := b_VE_hasBrokenSeal) (maxL := 2) (ret := (some .boolean)) (by decide) rfl ?_
  intro p e s m args below meth c s₁ Bd hml hv
  obtain ⟨rfl, hX, hO⟩ := hv
  have hx := Bd.exec
  have hb := Bd.bytes
  have hr := Bd.returns
  have hown : s.vm.findClass "LoadChecks$Vehicle" = some m.cls := findClass_of_methodNamed Bd.named
  have hlocks := Bd.notSynchronized
  have hnt : c.exceptionTable.isEmpty = true := Bd.noHandlers (atoms_spec (ws := [cw_VE_hasBrokenSeal]) Bd.pre _ List.mem_cons_self)
  have hW0 := hO.1
  have hts := xs_w (args := ([.ref (xB s0 + XA 9 i)] : List Value).toArray) h0 hW0
  have hK := xs_K h0 hW0
  have hl := lv_entry ([.ref (xB s0 + XA 9 i)]) (n := 2) (Nat.le_of_ble_eq_true rfl)
  rw [lg_entry_eq]
  generalize (lg_sl ([.ref (xB s0 + XA 9 i)]) ++ List.replicate (2 - (lg_sl ([.ref (xB s0 + XA 9 i)])).length) Slot.unset).toArray = ls at hl ⊢
  have hl : lv_has ls 2 [(0, .ref (xB s0 + XA 9 i))] := hl
  generalize hR : S_VE_hasBrokenSeal σ i = res
  unfold S_VE_hasBrokenSeal at hR
  refine lv_iconst (v := 0) hx hb d_VE_hasBrokenSeal_0 (by decide) ?_
  refine lv_istore_n (lv' := [(1, .int (0 : Int32)), (0, .ref (xB s0 + XA 9 i))]) hx hb d_VE_hasBrokenSeal_1 rfl hl (by decide) rfl (fun ls hl => ?_)
  exact l_VE_hasBrokenSeal h0 hx hb hr hml hown hlocks hnt hO 9 σ i (0 : Int32) 0 nI_0.symm rfl (by decide) hi_i  hX ls (lv_sub hl [1, 0] rfl) res hR

abbrev rm_VE_needsPastItem : Room := { frames := 0, cells := 0, slots := 0, locals := 0 }
def L_VE_needsPastItem : Nat → XS → Nat → Nat → Int32 → Int32 → Int32
  | 0, _, _, _, _, _ => default
  | n + 1, σ, i, kk, day, x3 => (if (240 : Int32) ≤ x3 then (0 : Int32) else (if (σ.1 5 kk x3.toNatClampNeg) ≤ 0 then (L_VE_needsPastItem n σ i kk day (x3 + 1)) else (if (σ.1 13 i (x3 - x3 / (30 : Int32) * (30 : Int32)).toNatClampNeg) = (-1 : Int32) then (L_VE_needsPastItem n σ i kk day (x3 + 1)) else (if day < (σ.1 13 i (x3 - x3 / (30 : Int32) * (30 : Int32)).toNatClampNeg) then (L_VE_needsPastItem n σ i kk day (x3 + 1)) else (1 : Int32)))))
def S_VE_needsPastItem (σ : XS) (i : Nat) (kk : Nat) (day : Int32) : Int32 := (L_VE_needsPastItem 241 σ i kk day (0 : Int32))
set_option maxHeartbeats 4000000 in
set_option maxRecDepth 100000 in
theorem l_VE_needsPastItem {l : Launch} {s0 : State} {A0 : Array Value} {D : va_G} {dA : Nat → ClassId} (h0 : XS0 l s0 A0 D dA) {p : Program} {e : Env} {s : State} {m : MethodId} {args : Array Value} {below : List Frame} {meth : Method} {c : Code} (hx : p.tables.exec = Jvm.exec) (hb : c.code = b_VE_needsPastItem) (hr : meth.sig.returnType = (some .boolean)) (hml : c.maxLocals = 5) (hown : s.vm.findClass "LoadChecks$Vehicle" = some m.cls) (hlocks : meth.locks = false) (hnt : c.exceptionTable.isEmpty = true) (hO : XO s0 s s.heap) :
    ∀ (n : Nat) (σ : XS) (i : Nat) (kk : Nat) (day : Int32) (x3 : Int32) (k : Nat), x3 = nI k → k + n = 241 → k < 241 → i < 16 → kk < 6 → XWs D dA s0 σ s.heap → ∀ (ls : Array Slot), lv_has ls 5 [(0, .ref (xB s0 + XA 9 i)), (1, .ref (xB s0 + XA 5 kk)), (2, .int day), (3, .int x3)] → ∀ res, L_VE_needsPastItem n σ i kk day x3 = res →
    W p l e rm_VE_needsPastItem s m args below meth c s.heap [] 0 0 (XMQ below (XQp xv_i (.inl res)) args s 0 0 (fun _ => False)) (F0 m 2 ls []) := by
  have hW0 := hO.1
  have hts := xs_w (args := args) h0 hW0
  have hK := xs_K h0 hW0
  intro n
  induction n with
  | zero =>
    intro σ i kk day x3 k e1 h2 h3
    exact absurd h2 (by omega)
  | succ n ih =>
    intro σ i kk day x3 k e_x3 hkn hkF hi_i hi_kk hX ls hl res hR
    rw [L_VE_needsPastItem] at hR
    refine lv_iload_n hx hb d_VE_needsPastItem_2 rfl (lv_at hl 3 rfl) ?_
    refine lv_sipush (v := 240) hx hb d_VE_needsPastItem_3 (by decide) ?_
    refine lv_icmp_ge (tgt := 46) hx hb d_VE_needsPastItem_6 (by decide) (fun c6 => ?_) (fun c6 => ?_)
    · rw [if_pos c6] at hR
      refine lv_iconst (v := 0) hx hb d_VE_needsPastItem_46 (by decide) ?_
      subst hR
      refine W.widen (k := 0) (n := 0) (by decide) (by decide) ?_; exact xr_z hx hb hr hlocks (by rfl) d_VE_needsPastItem_47
    · rw [if_neg c6] at hR
      have hk : k < 240 := x_klt (b := 240) rfl (by decide) (by omega) e_x3 c6
      have hcx : vp_in x3 240 := o_nI e_x3 hk (by decide)
      refine lv_aload_n hx hb d_VE_needsPastItem_9 rfl (lv_at hl 0 rfl) ?_
      refine xw_get (C := R_VE) (T := F_VE) (N := 13) (r := 9) (i := i) hx hb hts hi_VE hown hK hX hi_i rfl rfl 3 (by decide) (hts _ w_88) rfl rfl d_VE_needsPastItem_10 ?_
      refine lv_iload_n hx hb d_VE_needsPastItem_13 rfl (lv_at hl 3 rfl) ?_
      refine lv_bipush (v := 30) hx hb d_VE_needsPastItem_14 (by decide) ?_
      refine lv_irem hx hb d_VE_needsPastItem_16 (by decide) ?_
      refine xw_iald (r := 13) (i := i) hx hb hK hX hi_i 0 rfl rfl (j := (x3 - x3 / (30 : Int32) * (30 : Int32))) (o_rem hcx) d_VE_needsPastItem_17 ?_
      refine lv_istore (lv' := [(4, .int (σ.1 13 i (x3 - x3 / (30 : Int32) * (30 : Int32)).toNatClampNeg)), (0, .ref (xB s0 + XA 9 i)), (1, .ref (xB s0 + XA 5 kk)), (2, .int day), (3, .int x3)]) hx hb d_VE_needsPastItem_18 hl (by decide) rfl (fun ls hl => ?_)
      refine lv_aload_n hx hb d_VE_needsPastItem_20 rfl (lv_at hl 2 rfl) ?_
      refine lv_iload_n hx hb d_VE_needsPastItem_21 rfl (lv_at hl 4 rfl) ?_
      refine xw_iald (r := 5) (i := kk) hx hb hK hX hi_kk 0 rfl rfl (j := x3) hcx d_VE_needsPastItem_22 ?_
      refine lv_if_le (tgt := 40) hx hb d_VE_needsPastItem_23 (by decide) (fun c23 => ?_) (fun c23 => ?_)
      · rw [if_pos c23] at hR
        refine lv_iinc (v := (x3 + 1)) (lv' := [(3, .int (x3 + 1)), (4, .int (σ.1 13 i (x3 - x3 / (30 : Int32) * (30 : Int32)).toNatClampNeg)), (0, .ref (xB s0 + XA 9 i)), (1, .ref (xB s0 + XA 5 kk)), (2, .int day)]) hx hb d_VE_needsPastItem_40 hl (k := 4) rfl rfl (by decide) rfl (fun ls hl => ?_)
        refine lv_goto (tgt := 2) hx hb d_VE_needsPastItem_43 (by decide) ?_
        exact ih σ i kk day (x3 + 1) (k + 1) (by rw [e_x3]; exact nI_1 k) (by omega) (by omega) hi_i hi_kk  hX ls (lv_sub hl [2, 3, 4, 0] rfl) res hR
      · rw [if_neg c23] at hR
        refine lv_iload hx hb d_VE_needsPastItem_26 (lv_at hl 0 rfl) ?_
        refine lv_iconst (v := -1) hx hb d_VE_needsPastItem_28 (by decide) ?_
        refine lv_icmp_eq (tgt := 40) hx hb d_VE_needsPastItem_29 (by decide) (fun c29 => ?_) (fun c29 => ?_)
        · rw [if_pos c29] at hR
          refine lv_iinc (v := (x3 + 1)) (lv' := [(3, .int (x3 + 1)), (4, .int (σ.1 13 i (x3 - x3 / (30 : Int32) * (30 : Int32)).toNatClampNeg)), (0, .ref (xB s0 + XA 9 i)), (1, .ref (xB s0 + XA 5 kk)), (2, .int day)]) hx hb d_VE_needsPastItem_40 hl (k := 4) rfl rfl (by decide) rfl (fun ls hl => ?_)
          refine lv_goto (tgt := 2) hx hb d_VE_needsPastItem_43 (by decide) ?_
          exact ih σ i kk day (x3 + 1) (k + 1) (by rw [e_x3]; exact nI_1 k) (by omega) (by omega) hi_i hi_kk  hX ls (lv_sub hl [2, 3, 4, 0] rfl) res hR
        · rw [if_neg c29] at hR
          refine lv_iload_n hx hb d_VE_needsPastItem_32 rfl (lv_at hl 3 rfl) ?_
          refine lv_iload hx hb d_VE_needsPastItem_33 (lv_at hl 0 rfl) ?_
          refine lv_icmp_lt (tgt := 40) hx hb d_VE_needsPastItem_35 (by decide) (fun c35 => ?_) (fun c35 => ?_)
          · rw [if_pos c35] at hR
            refine lv_iinc (v := (x3 + 1)) (lv' := [(3, .int (x3 + 1)), (4, .int (σ.1 13 i (x3 - x3 / (30 : Int32) * (30 : Int32)).toNatClampNeg)), (0, .ref (xB s0 + XA 9 i)), (1, .ref (xB s0 + XA 5 kk)), (2, .int day)]) hx hb d_VE_needsPastItem_40 hl (k := 4) rfl rfl (by decide) rfl (fun ls hl => ?_)
            refine lv_goto (tgt := 2) hx hb d_VE_needsPastItem_43 (by decide) ?_
            exact ih σ i kk day (x3 + 1) (k + 1) (by rw [e_x3]; exact nI_1 k) (by omega) (by omega) hi_i hi_kk  hX ls (lv_sub hl [2, 3, 4, 0] rfl) res hR
          · rw [if_neg c35] at hR
            refine lv_iconst (v := 1) hx hb d_VE_needsPastItem_38 (by decide) ?_
            subst hR
            refine W.widen (k := 0) (n := 0) (by decide) (by decide) ?_; exact xr_z hx hb hr hlocks (by rfl) d_VE_needsPastItem_39
set_option maxHeartbeats 4000000 in
set_option maxRecDepth 100000 in
theorem c_VE_needsPastItem {l : Launch} {s0 : State} {A0 : Array Value} {D : va_G} {dA : Nat → ClassId} (h0 : XS0 l s0 A0 D dA) (σ : XS) (i : Nat) (kk : Nat) (day : Int32) (hi_i : i < 16) (hi_kk : kk < 6) : XMet l y_VE_needsPastItem [cw_VE_needsPastItem] rm_VE_needsPastItem (XP D dA s0 σ [.ref (xB s0 + XA 9 i), .ref (xB s0 + XA 5 kk), .int day]) (XQp xv_i (.inl (S_VE_needsPastItem σ i kk day))) 0 0 (fun _ => False) := by
  refine XMet.ofW (cc := b_VE_needsPastItem) (maxL := 5) (ret := (some .boolean)) (by decide) rfl ?_
  intro p e s m args below meth c s₁ Bd hml hv
  obtain ⟨rfl, hX, hO⟩ := hv
  have hx := Bd.exec
  have hb := Bd.bytes
  have hr := Bd.returns
  have hown : s.vm.findClass "LoadChecks$Vehicle" = some m.cls := findClass_of_methodNamed Bd.named
  have hlocks := Bd.notSynchronized
  have hnt : c.exceptionTable.isEmpty = true := Bd.noHandlers (atoms_spec (ws := [cw_VE_needsPastItem]) Bd.pre _ List.mem_cons_self)
  have hW0 := hO.1
  have hts := xs_w (args := ([.ref (xB s0 + XA 9 i), .ref (xB s0 + XA 5 kk), .int day] : List Value).toArray) h0 hW0
  have hK := xs_K h0 hW0
  have hl := lv_entry ([.ref (xB s0 + XA 9 i), .ref (xB s0 + XA 5 kk), .int day]) (n := 5) (Nat.le_of_ble_eq_true rfl)
  rw [lg_entry_eq]
  generalize (lg_sl ([.ref (xB s0 + XA 9 i), .ref (xB s0 + XA 5 kk), .int day]) ++ List.replicate (5 - (lg_sl ([.ref (xB s0 + XA 9 i), .ref (xB s0 + XA 5 kk), .int day])).length) Slot.unset).toArray = ls at hl ⊢
  have hl : lv_has ls 5 [(0, .ref (xB s0 + XA 9 i)), (1, .ref (xB s0 + XA 5 kk)), (2, .int day)] := hl
  generalize hR : S_VE_needsPastItem σ i kk day = res
  unfold S_VE_needsPastItem at hR
  refine lv_iconst (v := 0) hx hb d_VE_needsPastItem_0 (by decide) ?_
  refine lv_istore_n (lv' := [(3, .int (0 : Int32)), (0, .ref (xB s0 + XA 9 i)), (1, .ref (xB s0 + XA 5 kk)), (2, .int day)]) hx hb d_VE_needsPastItem_1 rfl hl (by decide) rfl (fun ls hl => ?_)
  exact l_VE_needsPastItem h0 hx hb hr hml hown hlocks hnt hO 241 σ i kk day (0 : Int32) 0 nI_0.symm rfl (by decide) hi_i hi_kk  hX ls (lv_sub hl [1, 2, 3, 0] rfl) res hR

abbrev rm_VE_needsWeakItem : Room := { frames := 0, cells := 0, slots := 0, locals := 0 }
def L_VE_needsWeakItem : Nat → XS → Nat → Nat → Int32 → Int32
  | 0, _, _, _, _ => default
  | n + 1, σ, i, kk, x3 => (if (240 : Int32) ≤ x3 then (0 : Int32) else (if (σ.1 5 kk x3.toNatClampNeg) ≤ 0 then (L_VE_needsWeakItem n σ i kk (x3 + 1)) else (if (σ.1 2 0 (x3 - x3 / (30 : Int32) * (30 : Int32)).toNatClampNeg) ≤ (σ.1 14 i (x3 - x3 / (30 : Int32) * (30 : Int32)).toNatClampNeg) then (L_VE_needsWeakItem n σ i kk (x3 + 1)) else (1 : Int32))))
def S_VE_needsWeakItem (σ : XS) (i : Nat) (kk : Nat) : Int32 := (L_VE_needsWeakItem 241 σ i kk (0 : Int32))
set_option maxHeartbeats 4000000 in
set_option maxRecDepth 100000 in
theorem l_VE_needsWeakItem {l : Launch} {s0 : State} {A0 : Array Value} {D : va_G} {dA : Nat → ClassId} (h0 : XS0 l s0 A0 D dA) {p : Program} {e : Env} {s : State} {m : MethodId} {args : Array Value} {below : List Frame} {meth : Method} {c : Code} (hx : p.tables.exec = Jvm.exec) (hb : c.code = b_VE_needsWeakItem) (hr : meth.sig.returnType = (some .boolean)) (hml : c.maxLocals = 5) (hown : s.vm.findClass "LoadChecks$Vehicle" = some m.cls) (hlocks : meth.locks = false) (hnt : c.exceptionTable.isEmpty = true) (hO : XO s0 s s.heap) :
    ∀ (n : Nat) (σ : XS) (i : Nat) (kk : Nat) (x3 : Int32) (k : Nat), x3 = nI k → k + n = 241 → k < 241 → i < 16 → kk < 6 → XWs D dA s0 σ s.heap → ∀ (ls : Array Slot), lv_has ls 5 [(0, .ref (xB s0 + XA 9 i)), (1, .ref (xB s0 + XA 5 kk)), (2, .ref (xB s0 + XA 2 0)), (3, .int x3)] → ∀ res, L_VE_needsWeakItem n σ i kk x3 = res →
    W p l e rm_VE_needsWeakItem s m args below meth c s.heap [] 0 0 (XMQ below (XQp xv_i (.inl res)) args s 0 0 (fun _ => False)) (F0 m 2 ls []) := by
  have hW0 := hO.1
  have hts := xs_w (args := args) h0 hW0
  have hK := xs_K h0 hW0
  intro n
  induction n with
  | zero =>
    intro σ i kk x3 k e1 h2 h3
    exact absurd h2 (by omega)
  | succ n ih =>
    intro σ i kk x3 k e_x3 hkn hkF hi_i hi_kk hX ls hl res hR
    rw [L_VE_needsWeakItem] at hR
    refine lv_iload_n hx hb d_VE_needsWeakItem_2 rfl (lv_at hl 3 rfl) ?_
    refine lv_sipush (v := 240) hx hb d_VE_needsWeakItem_3 (by decide) ?_
    refine lv_icmp_ge (tgt := 43) hx hb d_VE_needsWeakItem_6 (by decide) (fun c6 => ?_) (fun c6 => ?_)
    · rw [if_pos c6] at hR
      refine lv_iconst (v := 0) hx hb d_VE_needsWeakItem_43 (by decide) ?_
      subst hR
      refine W.widen (k := 0) (n := 0) (by decide) (by decide) ?_; exact xr_z hx hb hr hlocks (by rfl) d_VE_needsWeakItem_44
    · rw [if_neg c6] at hR
      have hk : k < 240 := x_klt (b := 240) rfl (by decide) (by omega) e_x3 c6
      have hcx : vp_in x3 240 := o_nI e_x3 hk (by decide)
      refine lv_iload_n hx hb d_VE_needsWeakItem_9 rfl (lv_at hl 3 rfl) ?_
      refine lv_bipush (v := 30) hx hb d_VE_needsWeakItem_10 (by decide) ?_
      refine lv_irem hx hb d_VE_needsWeakItem_12 (by decide) ?_
      refine lv_istore (lv' := [(4, .int (x3 - x3 / (30 : Int32) * (30 : Int32))), (0, .ref (xB s0 + XA 9 i)), (1, .ref (xB s0 + XA 5 kk)), (2, .ref (xB s0 + XA 2 0)), (3, .int x3)]) hx hb d_VE_needsWeakItem_13 hl (by decide) rfl (fun ls hl => ?_)
      refine lv_aload_n hx hb d_VE_needsWeakItem_15 rfl (lv_at hl 2 rfl) ?_
      refine lv_iload_n hx hb d_VE_needsWeakItem_16 rfl (lv_at hl 4 rfl) ?_
      refine xw_iald (r := 5) (i := kk) hx hb hK hX hi_kk 0 rfl rfl (j := x3) hcx d_VE_needsWeakItem_17 ?_
      refine lv_if_le (tgt := 37) hx hb d_VE_needsWeakItem_18 (by decide) (fun c18 => ?_) (fun c18 => ?_)
      · rw [if_pos c18] at hR
        refine lv_iinc (v := (x3 + 1)) (lv' := [(3, .int (x3 + 1)), (4, .int (x3 - x3 / (30 : Int32) * (30 : Int32))), (0, .ref (xB s0 + XA 9 i)), (1, .ref (xB s0 + XA 5 kk)), (2, .ref (xB s0 + XA 2 0))]) hx hb d_VE_needsWeakItem_37 hl (k := 4) rfl rfl (by decide) rfl (fun ls hl => ?_)
        refine lv_goto (tgt := 2) hx hb d_VE_needsWeakItem_40 (by decide) ?_
        exact ih σ i kk (x3 + 1) (k + 1) (by rw [e_x3]; exact nI_1 k) (by omega) (by omega) hi_i hi_kk  hX ls (lv_sub hl [2, 3, 4, 0] rfl) res hR
      · rw [if_neg c18] at hR
        refine lv_aload_n hx hb d_VE_needsWeakItem_21 rfl (lv_at hl 1 rfl) ?_
        refine xw_get (C := R_VE) (T := F_VE) (N := 13) (r := 9) (i := i) hx hb hts hi_VE hown hK hX hi_i rfl rfl 4 (by decide) (hts _ w_90) rfl rfl d_VE_needsWeakItem_22 ?_
        refine lv_iload hx hb d_VE_needsWeakItem_25 (lv_at hl 0 rfl) ?_
        refine xw_iald (r := 14) (i := i) hx hb hK hX hi_i 0 rfl rfl (j := (x3 - x3 / (30 : Int32) * (30 : Int32))) (o_rem hcx) d_VE_needsWeakItem_27 ?_
        refine lv_aload_n hx hb d_VE_needsWeakItem_28 rfl (lv_at hl 3 rfl) ?_
        refine lv_iload hx hb d_VE_needsWeakItem_29 (lv_at hl 0 rfl) ?_
        refine xw_iald (r := 2) (i := 0) hx hb hK hX (by decide) 0 rfl rfl (j := (x3 - x3 / (30 : Int32) * (30 : Int32))) (o_rem hcx) d_VE_needsWeakItem_31 ?_
        refine lv_icmp_ge (tgt := 37) hx hb d_VE_needsWeakItem_32 (by decide) (fun c32 => ?_) (fun c32 => ?_)
        · rw [if_pos c32] at hR
          refine lv_iinc (v := (x3 + 1)) (lv' := [(3, .int (x3 + 1)), (4, .int (x3 - x3 / (30 : Int32) * (30 : Int32))), (0, .ref (xB s0 + XA 9 i)), (1, .ref (xB s0 + XA 5 kk)), (2, .ref (xB s0 + XA 2 0))]) hx hb d_VE_needsWeakItem_37 hl (k := 4) rfl rfl (by decide) rfl (fun ls hl => ?_)
          refine lv_goto (tgt := 2) hx hb d_VE_needsWeakItem_40 (by decide) ?_
          exact ih σ i kk (x3 + 1) (k + 1) (by rw [e_x3]; exact nI_1 k) (by omega) (by omega) hi_i hi_kk  hX ls (lv_sub hl [2, 3, 4, 0] rfl) res hR
        · rw [if_neg c32] at hR
          refine lv_iconst (v := 1) hx hb d_VE_needsWeakItem_35 (by decide) ?_
          subst hR
          refine W.widen (k := 0) (n := 0) (by decide) (by decide) ?_; exact xr_z hx hb hr hlocks (by rfl) d_VE_needsWeakItem_36
set_option maxHeartbeats 4000000 in
set_option maxRecDepth 100000 in
theorem c_VE_needsWeakItem {l : Launch} {s0 : State} {A0 : Array Value} {D : va_G} {dA : Nat → ClassId} (h0 : XS0 l s0 A0 D dA) (σ : XS) (i : Nat) (kk : Nat) (hi_i : i < 16) (hi_kk : kk < 6) : XMet l y_VE_needsWeakItem [cw_VE_needsWeakItem] rm_VE_needsWeakItem (XP D dA s0 σ [.ref (xB s0 + XA 9 i), .ref (xB s0 + XA 5 kk), .ref (xB s0 + XA 2 0)]) (XQp xv_i (.inl (S_VE_needsWeakItem σ i kk))) 0 0 (fun _ => False) := by
  refine XMet.ofW (cc := b_VE_needsWeakItem) (maxL := 5) (ret := (some .boolean)) (by decide) rfl ?_
  intro p e s m args below meth c s₁ Bd hml hv
  obtain ⟨rfl, hX, hO⟩ := hv
  have hx := Bd.exec
  have hb := Bd.bytes
  have hr := Bd.returns
  have hown : s.vm.findClass "LoadChecks$Vehicle" = some m.cls := findClass_of_methodNamed Bd.named
  have hlocks := Bd.notSynchronized
  have hnt : c.exceptionTable.isEmpty = true := Bd.noHandlers (atoms_spec (ws := [cw_VE_needsWeakItem]) Bd.pre _ List.mem_cons_self)
  have hW0 := hO.1
  have hts := xs_w (args := ([.ref (xB s0 + XA 9 i), .ref (xB s0 + XA 5 kk), .ref (xB s0 + XA 2 0)] : List Value).toArray) h0 hW0
  have hK := xs_K h0 hW0
  have hl := lv_entry ([.ref (xB s0 + XA 9 i), .ref (xB s0 + XA 5 kk), .ref (xB s0 + XA 2 0)]) (n := 5) (Nat.le_of_ble_eq_true rfl)
  rw [lg_entry_eq]
  generalize (lg_sl ([.ref (xB s0 + XA 9 i), .ref (xB s0 + XA 5 kk), .ref (xB s0 + XA 2 0)]) ++ List.replicate (5 - (lg_sl ([.ref (xB s0 + XA 9 i), .ref (xB s0 + XA 5 kk), .ref (xB s0 + XA 2 0)])).length) Slot.unset).toArray = ls at hl ⊢
  have hl : lv_has ls 5 [(0, .ref (xB s0 + XA 9 i)), (1, .ref (xB s0 + XA 5 kk)), (2, .ref (xB s0 + XA 2 0))] := hl
  generalize hR : S_VE_needsWeakItem σ i kk = res
  unfold S_VE_needsWeakItem at hR
  refine lv_iconst (v := 0) hx hb d_VE_needsWeakItem_0 (by decide) ?_
  refine lv_istore_n (lv' := [(3, .int (0 : Int32)), (0, .ref (xB s0 + XA 9 i)), (1, .ref (xB s0 + XA 5 kk)), (2, .ref (xB s0 + XA 2 0))]) hx hb d_VE_needsWeakItem_1 rfl hl (by decide) rfl (fun ls hl => ?_)
  exact l_VE_needsWeakItem h0 hx hb hr hml hown hlocks hnt hO 241 σ i kk (0 : Int32) 0 nI_0.symm rfl (by decide) hi_i hi_kk  hX ls (lv_sub hl [1, 2, 3, 0] rfl) res hR
end
section
abbrev rm_RW_add : Room := { frames := 0, cells := 0, slots := 0, locals := 0 }
def S_RW_add (σ : XS) (a : Int32) (b : Int32) (n : Int32) : Unit × XS := ((), (xuL (xuI (xuI (xuI σ 8 0 (((σ.2 7 0 1) - (σ.2 7 0 1) / (100 : Int64) * (100 : Int64)).toInt32 * (3 : Int32)).toNatClampNeg a) 8 0 ((((σ.2 7 0 1) - (σ.2 7 0 1) / (100 : Int64) * (100 : Int64)).toInt32 * (3 : Int32)) + (1 : Int32)).toNatClampNeg b) 8 0 ((((σ.2 7 0 1) - (σ.2 7 0 1) / (100 : Int64) * (100 : Int64)).toInt32 * (3 : Int32)) + (2 : Int32)).toNatClampNeg n) 7 0 1 (((xuI (xuI (xuI σ 8 0 (((σ.2 7 0 1) - (σ.2 7 0 1) / (100 : Int64) * (100 : Int64)).toInt32 * (3 : Int32)).toNatClampNeg a) 8 0 ((((σ.2 7 0 1) - (σ.2 7 0 1) / (100 : Int64) * (100 : Int64)).toInt32 * (3 : Int32)) + (1 : Int32)).toNatClampNeg b) 8 0 ((((σ.2 7 0 1) - (σ.2 7 0 1) / (100 : Int64) * (100 : Int64)).toInt32 * (3 : Int32)) + (2 : Int32)).toNatClampNeg n).2 7 0 1) + (1 : Int64))))
set_option maxHeartbeats 4000000 in
set_option maxRecDepth 100000 in
theorem c_RW_add {l : Launch} {s0 : State} {A0 : Array Value} {D : va_G} {dA : Nat → ClassId} (h0 : XS0 l s0 A0 D dA) (σ : XS) (a : Int32) (b : Int32) (n : Int32) (hm : 0 ≤ (σ.2 7 0 1).toInt) : XMet l y_RW_add [cw_RW_add] rm_RW_add (XP D dA s0 σ [.ref (xB s0 + XA 7 0), .int a, .int b, .int n]) (XQs D dA s0 xv_v (.inl (S_RW_add σ a b n))) 0 0 (xAm s0) := by
  refine XMet.ofW (cc := b_RW_add) (maxL := 5) (ret := none) (by decide) rfl ?_
  intro p e s m args below meth c s₁ Bd hml hv
  obtain ⟨rfl, hX, hO⟩ := hv
  have hx := Bd.exec
  have hb := Bd.bytes
  have hr := Bd.returns
  have hown : s.vm.findClass "LoadChecks$Rows" = some m.cls := findClass_of_methodNamed Bd.named
  have hlocks := Bd.notSynchronized
  have hnt : c.exceptionTable.isEmpty = true := Bd.noHandlers (atoms_spec (ws := [cw_RW_add]) Bd.pre _ List.mem_cons_self)
  have hW0 := hO.1
  have hts := xs_w (args := ([.ref (xB s0 + XA 7 0), .int a, .int b, .int n] : List Value).toArray) h0 hW0
  have hK := xs_K h0 hW0
  have hS := xo_S0 hO
  have hl := lv_entry ([.ref (xB s0 + XA 7 0), .int a, .int b, .int n]) (n := 5) (Nat.le_of_ble_eq_true rfl)
  rw [lg_entry_eq]
  generalize (lg_sl ([.ref (xB s0 + XA 7 0), .int a, .int b, .int n]) ++ List.replicate (5 - (lg_sl ([.ref (xB s0 + XA 7 0), .int a, .int b, .int n])).length) Slot.unset).toArray = ls at hl ⊢
  have hl : lv_has ls 5 [(0, .ref (xB s0 + XA 7 0)), (1, .int a), (2, .int b), (3, .int n)] := hl
  generalize hR : S_RW_add σ a b n = res
  unfold S_RW_add at hR
  refine lv_aload_n hx hb d_RW_add_0 rfl (lv_at hl 0 rfl) ?_
  refine xw_get (C := R_RW) (T := F_RW) (N := 2) (r := 7) (i := 0) hx hb hts hi_RW hown hK hX (by decide) rfl rfl 1 (by decide) (hts _ w_67) rfl rfl d_RW_add_1 ?_
  refine lv_ldc2 (v := 100) hx hb hown (hts _ w_443) d_RW_add_4 ?_
  refine lv_lrem hx hb d_RW_add_7 (by decide) ?_
  refine lv_l2i hx hb d_RW_add_8 rfl ?_
  refine lv_iconst (v := 3) hx hb d_RW_add_9 (by decide) ?_
  refine lv_imul hx hb d_RW_add_10 ?_
  refine lv_istore (lv' := [(4, .int (((σ.2 7 0 1) - (σ.2 7 0 1) / (100 : Int64) * (100 : Int64)).toInt32 * (3 : Int32))), (0, .ref (xB s0 + XA 7 0)), (1, .int a), (2, .int b), (3, .int n)]) hx hb d_RW_add_11 hl (by decide) rfl (fun ls hl => ?_)
  refine lv_aload_n hx hb d_RW_add_13 rfl (lv_at hl 1 rfl) ?_
  refine xw_get (C := R_RW) (T := F_RW) (N := 2) (r := 7) (i := 0) hx hb hts hi_RW hown hK hX (by decide) rfl rfl 0 (by decide) (hts _ w_66) rfl rfl d_RW_add_14 ?_
  refine lv_iload hx hb d_RW_add_17 (lv_at hl 0 rfl) ?_
  refine lv_iload_n hx hb d_RW_add_19 rfl (lv_at hl 2 rfl) ?_
  refine xw_iast (r := 8) (i := 0) (ent' := XE dA (xB s0) (xuI σ 8 0 (((σ.2 7 0 1) - (σ.2 7 0 1) / (100 : Int64) * (100 : Int64)).toInt32 * (3 : Int32)).toNatClampNeg a)) hx hb hK xInj hX hS (xA_in _ _ _) (by decide) 0 rfl rfl (j := (((σ.2 7 0 1) - (σ.2 7 0 1) / (100 : Int64) * (100 : Int64)).toInt32 * (3 : Int32))) (o_row0 hm) ((xe_uI dA (xB s0) σ 8 0 (((σ.2 7 0 1) - (σ.2 7 0 1) / (100 : Int64) * (100 : Int64)).toInt32 * (3 : Int32)).toNatClampNeg a).trans rfl) (xe_oI dA (xB s0) σ 8 0 (((σ.2 7 0 1) - (σ.2 7 0 1) / (100 : Int64) * (100 : Int64)).toInt32 * (3 : Int32)).toNatClampNeg a) d_RW_add_20 (fun H locs hX hS => ?_)
  refine lv_aload_n hx hb d_RW_add_21 rfl (lv_at hl 1 rfl) ?_
  refine xw_get (C := R_RW) (T := F_RW) (N := 2) (r := 7) (i := 0) hx hb hts hi_RW hown hK hX (by decide) rfl rfl 0 (by decide) (hts _ w_66) rfl rfl d_RW_add_22 ?_
  refine lv_iload hx hb d_RW_add_25 (lv_at hl 0 rfl) ?_
  refine lv_iconst (v := 1) hx hb d_RW_add_27 (by decide) ?_
  refine lv_iadd hx hb d_RW_add_28 ?_
  refine lv_iload_n hx hb d_RW_add_29 rfl (lv_at hl 3 rfl) ?_
  refine xw_iast (r := 8) (i := 0) (ent' := XE dA (xB s0) (xuI (xuI σ 8 0 (((σ.2 7 0 1) - (σ.2 7 0 1) / (100 : Int64) * (100 : Int64)).toInt32 * (3 : Int32)).toNatClampNeg a) 8 0 ((((σ.2 7 0 1) - (σ.2 7 0 1) / (100 : Int64) * (100 : Int64)).toInt32 * (3 : Int32)) + (1 : Int32)).toNatClampNeg b)) hx hb hK xInj hX hS (xA_in _ _ _) (by decide) 0 rfl rfl (j := ((((σ.2 7 0 1) - (σ.2 7 0 1) / (100 : Int64) * (100 : Int64)).toInt32 * (3 : Int32)) + (1 : Int32))) (o_row1 hm) ((xe_uI dA (xB s0) (xuI σ 8 0 (((σ.2 7 0 1) - (σ.2 7 0 1) / (100 : Int64) * (100 : Int64)).toInt32 * (3 : Int32)).toNatClampNeg a) 8 0 ((((σ.2 7 0 1) - (σ.2 7 0 1) / (100 : Int64) * (100 : Int64)).toInt32 * (3 : Int32)) + (1 : Int32)).toNatClampNeg b).trans rfl) (xe_oI dA (xB s0) (xuI σ 8 0 (((σ.2 7 0 1) - (σ.2 7 0 1) / (100 : Int64) * (100 : Int64)).toInt32 * (3 : Int32)).toNatClampNeg a) 8 0 ((((σ.2 7 0 1) - (σ.2 7 0 1) / (100 : Int64) * (100 : Int64)).toInt32 * (3 : Int32)) + (1 : Int32)).toNatClampNeg b) d_RW_add_30 (fun H locs hX hS => ?_)
  refine lv_aload_n hx hb d_RW_add_31 rfl (lv_at hl 1 rfl) ?_
  refine xw_get (C := R_RW) (T := F_RW) (N := 2) (r := 7) (i := 0) hx hb hts hi_RW hown hK hX (by decide) rfl rfl 0 (by decide) (hts _ w_66) rfl rfl d_RW_add_32 ?_
  refine lv_iload hx hb d_RW_add_35 (lv_at hl 0 rfl) ?_
  refine lv_iconst (v := 2) hx hb d_RW_add_37 (by decide) ?_
  refine lv_iadd hx hb d_RW_add_38 ?_
  refine lv_iload_n hx hb d_RW_add_39 rfl (lv_at hl 4 rfl) ?_
  refine xw_iast (r := 8) (i := 0) (ent' := XE dA (xB s0) (xuI (xuI (xuI σ 8 0 (((σ.2 7 0 1) - (σ.2 7 0 1) / (100 : Int64) * (100 : Int64)).toInt32 * (3 : Int32)).toNatClampNeg a) 8 0 ((((σ.2 7 0 1) - (σ.2 7 0 1) / (100 : Int64) * (100 : Int64)).toInt32 * (3 : Int32)) + (1 : Int32)).toNatClampNeg b) 8 0 ((((σ.2 7 0 1) - (σ.2 7 0 1) / (100 : Int64) * (100 : Int64)).toInt32 * (3 : Int32)) + (2 : Int32)).toNatClampNeg n)) hx hb hK xInj hX hS (xA_in _ _ _) (by decide) 0 rfl rfl (j := ((((σ.2 7 0 1) - (σ.2 7 0 1) / (100 : Int64) * (100 : Int64)).toInt32 * (3 : Int32)) + (2 : Int32))) (o_row2 hm) ((xe_uI dA (xB s0) (xuI (xuI σ 8 0 (((σ.2 7 0 1) - (σ.2 7 0 1) / (100 : Int64) * (100 : Int64)).toInt32 * (3 : Int32)).toNatClampNeg a) 8 0 ((((σ.2 7 0 1) - (σ.2 7 0 1) / (100 : Int64) * (100 : Int64)).toInt32 * (3 : Int32)) + (1 : Int32)).toNatClampNeg b) 8 0 ((((σ.2 7 0 1) - (σ.2 7 0 1) / (100 : Int64) * (100 : Int64)).toInt32 * (3 : Int32)) + (2 : Int32)).toNatClampNeg n).trans rfl) (xe_oI dA (xB s0) (xuI (xuI σ 8 0 (((σ.2 7 0 1) - (σ.2 7 0 1) / (100 : Int64) * (100 : Int64)).toInt32 * (3 : Int32)).toNatClampNeg a) 8 0 ((((σ.2 7 0 1) - (σ.2 7 0 1) / (100 : Int64) * (100 : Int64)).toInt32 * (3 : Int32)) + (1 : Int32)).toNatClampNeg b) 8 0 ((((σ.2 7 0 1) - (σ.2 7 0 1) / (100 : Int64) * (100 : Int64)).toInt32 * (3 : Int32)) + (2 : Int32)).toNatClampNeg n) d_RW_add_40 (fun H locs hX hS => ?_)
  refine lv_aload_n hx hb d_RW_add_41 rfl (lv_at hl 1 rfl) ?_
  refine lv_dup hx hb d_RW_add_42 rfl ?_
  refine xw_get (C := R_RW) (T := F_RW) (N := 2) (r := 7) (i := 0) hx hb hts hi_RW hown hK hX (by decide) rfl rfl 1 (by decide) (hts _ w_67) rfl rfl d_RW_add_43 ?_
  refine lv_lconst (v := 1) hx hb d_RW_add_46 (by decide) ?_
  refine lv_ladd hx hb d_RW_add_47 ?_
  refine xw_put (C := R_RW) (T := F_RW) (N := 2) (r := 7) (i := 0) (ent' := XE dA (xB s0) (xuL (xuI (xuI (xuI σ 8 0 (((σ.2 7 0 1) - (σ.2 7 0 1) / (100 : Int64) * (100 : Int64)).toInt32 * (3 : Int32)).toNatClampNeg a) 8 0 ((((σ.2 7 0 1) - (σ.2 7 0 1) / (100 : Int64) * (100 : Int64)).toInt32 * (3 : Int32)) + (1 : Int32)).toNatClampNeg b) 8 0 ((((σ.2 7 0 1) - (σ.2 7 0 1) / (100 : Int64) * (100 : Int64)).toInt32 * (3 : Int32)) + (2 : Int32)).toNatClampNeg n) 7 0 1 (((xuI (xuI (xuI σ 8 0 (((σ.2 7 0 1) - (σ.2 7 0 1) / (100 : Int64) * (100 : Int64)).toInt32 * (3 : Int32)).toNatClampNeg a) 8 0 ((((σ.2 7 0 1) - (σ.2 7 0 1) / (100 : Int64) * (100 : Int64)).toInt32 * (3 : Int32)) + (1 : Int32)).toNatClampNeg b) 8 0 ((((σ.2 7 0 1) - (σ.2 7 0 1) / (100 : Int64) * (100 : Int64)).toInt32 * (3 : Int32)) + (2 : Int32)).toNatClampNeg n).2 7 0 1) + (1 : Int64)))) hx hb hts hi_RW t_RW t_RW_ok n_RW hown hK xInj hX hS (xA_in _ _ _) (by decide) rfl rfl 1 (by decide) (hts _ w_67) rfl rfl rfl rfl (Nat.le_of_ble_eq_true rfl) ((xe_uL dA (xB s0) (xuI (xuI (xuI σ 8 0 (((σ.2 7 0 1) - (σ.2 7 0 1) / (100 : Int64) * (100 : Int64)).toInt32 * (3 : Int32)).toNatClampNeg a) 8 0 ((((σ.2 7 0 1) - (σ.2 7 0 1) / (100 : Int64) * (100 : Int64)).toInt32 * (3 : Int32)) + (1 : Int32)).toNatClampNeg b) 8 0 ((((σ.2 7 0 1) - (σ.2 7 0 1) / (100 : Int64) * (100 : Int64)).toInt32 * (3 : Int32)) + (2 : Int32)).toNatClampNeg n) 7 0 1 (((xuI (xuI (xuI σ 8 0 (((σ.2 7 0 1) - (σ.2 7 0 1) / (100 : Int64) * (100 : Int64)).toInt32 * (3 : Int32)).toNatClampNeg a) 8 0 ((((σ.2 7 0 1) - (σ.2 7 0 1) / (100 : Int64) * (100 : Int64)).toInt32 * (3 : Int32)) + (1 : Int32)).toNatClampNeg b) 8 0 ((((σ.2 7 0 1) - (σ.2 7 0 1) / (100 : Int64) * (100 : Int64)).toInt32 * (3 : Int32)) + (2 : Int32)).toNatClampNeg n).2 7 0 1) + (1 : Int64))).trans rfl) (xe_oL dA (xB s0) (xuI (xuI (xuI σ 8 0 (((σ.2 7 0 1) - (σ.2 7 0 1) / (100 : Int64) * (100 : Int64)).toInt32 * (3 : Int32)).toNatClampNeg a) 8 0 ((((σ.2 7 0 1) - (σ.2 7 0 1) / (100 : Int64) * (100 : Int64)).toInt32 * (3 : Int32)) + (1 : Int32)).toNatClampNeg b) 8 0 ((((σ.2 7 0 1) - (σ.2 7 0 1) / (100 : Int64) * (100 : Int64)).toInt32 * (3 : Int32)) + (2 : Int32)).toNatClampNeg n) 7 0 1 (((xuI (xuI (xuI σ 8 0 (((σ.2 7 0 1) - (σ.2 7 0 1) / (100 : Int64) * (100 : Int64)).toInt32 * (3 : Int32)).toNatClampNeg a) 8 0 ((((σ.2 7 0 1) - (σ.2 7 0 1) / (100 : Int64) * (100 : Int64)).toInt32 * (3 : Int32)) + (1 : Int32)).toNatClampNeg b) 8 0 ((((σ.2 7 0 1) - (σ.2 7 0 1) / (100 : Int64) * (100 : Int64)).toInt32 * (3 : Int32)) + (2 : Int32)).toNatClampNeg n).2 7 0 1) + (1 : Int64))) d_RW_add_48 (fun H locs hX hS => ?_)
  subst hR
  refine W.widen (k := 0) (n := 0) (by decide) (by decide) ?_; exact xs_v hx hb hr hlocks hX hS d_RW_add_51

abbrev rm_RW_keeps : Room := { frames := 0, cells := 0, slots := 0, locals := 0 }
def S_RW_keeps (σ : XS) (a : Int32) : Int32 := (if a < 0 then (0 : Int32) else (if 0 ≤ (lg_cmp a.toInt64 (σ.2 7 0 1)) then (0 : Int32) else (if (lg_cmp a.toInt64 ((σ.2 7 0 1) - (100 : Int64))) < 0 then (0 : Int32) else (1 : Int32))))
set_option maxHeartbeats 4000000 in
set_option maxRecDepth 100000 in
theorem c_RW_keeps {l : Launch} {s0 : State} {A0 : Array Value} {D : va_G} {dA : Nat → ClassId} (h0 : XS0 l s0 A0 D dA) (σ : XS) (a : Int32)  : XMet l y_RW_keeps [cw_RW_keeps] rm_RW_keeps (XP D dA s0 σ [.ref (xB s0 + XA 7 0), .int a]) (XQp xv_i (.inl (S_RW_keeps σ a))) 0 0 (fun _ => False) := by
  refine XMet.ofW (cc := b_RW_keeps) (maxL := 2) (ret := (some .boolean)) (by decide) rfl ?_
  intro p e s m args below meth c s₁ Bd hml hv
  obtain ⟨rfl, hX, hO⟩ := hv
  have hx := Bd.exec
  have hb := Bd.bytes
  have hr := Bd.returns
  have hown : s.vm.findClass "LoadChecks$Rows" = some m.cls := findClass_of_methodNamed Bd.named
  have hlocks := Bd.notSynchronized
  have hnt : c.exceptionTable.isEmpty = true := Bd.noHandlers (atoms_spec (ws := [cw_RW_keeps]) Bd.pre _ List.mem_cons_self)
  have hW0 := hO.1
  have hts := xs_w (args := ([.ref (xB s0 + XA 7 0), .int a] : List Value).toArray) h0 hW0
  have hK := xs_K h0 hW0
  have hl := lv_entry ([.ref (xB s0 + XA 7 0), .int a]) (n := 2) (Nat.le_of_ble_eq_true rfl)
  rw [lg_entry_eq]
  generalize (lg_sl ([.ref (xB s0 + XA 7 0), .int a]) ++ List.replicate (2 - (lg_sl ([.ref (xB s0 + XA 7 0), .int a])).length) Slot.unset).toArray = ls at hl ⊢
  have hl : lv_has ls 2 [(0, .ref (xB s0 + XA 7 0)), (1, .int a)] := hl
  generalize hR : S_RW_keeps σ a = res
  unfold S_RW_keeps at hR
  refine lv_iload_n hx hb d_RW_keeps_0 rfl (lv_at hl 1 rfl) ?_
  refine lv_if_lt (tgt := 32) hx hb d_RW_keeps_1 (by decide) (fun c1 => ?_) (fun c1 => ?_)
  · rw [if_pos c1] at hR
    refine lv_iconst (v := 0) hx hb d_RW_keeps_32 (by decide) ?_
    subst hR
    refine W.widen (k := 0) (n := 0) (by decide) (by decide) ?_; exact xr_z hx hb hr hlocks (by rfl) d_RW_keeps_33
  · rw [if_neg c1] at hR
    refine lv_iload_n hx hb d_RW_keeps_4 rfl (lv_at hl 1 rfl) ?_
    refine lv_i2l hx hb d_RW_keeps_5 rfl ?_
    refine lv_aload_n hx hb d_RW_keeps_6 rfl (lv_at hl 0 rfl) ?_
    refine xw_get (C := R_RW) (T := F_RW) (N := 2) (r := 7) (i := 0) hx hb hts hi_RW hown hK hX (by decide) rfl rfl 1 (by decide) (hts _ w_67) rfl rfl d_RW_keeps_7 ?_
    refine W.lcmp hx hb d_RW_keeps_10 ?_
    refine lv_if_ge (tgt := 32) hx hb d_RW_keeps_11 (by decide) (fun c11 => ?_) (fun c11 => ?_)
    · rw [if_pos c11] at hR
      refine lv_iconst (v := 0) hx hb d_RW_keeps_32 (by decide) ?_
      subst hR
      refine W.widen (k := 0) (n := 0) (by decide) (by decide) ?_; exact xr_z hx hb hr hlocks (by rfl) d_RW_keeps_33
    · rw [if_neg c11] at hR
      refine lv_iload_n hx hb d_RW_keeps_14 rfl (lv_at hl 1 rfl) ?_
      refine lv_i2l hx hb d_RW_keeps_15 rfl ?_
      refine lv_aload_n hx hb d_RW_keeps_16 rfl (lv_at hl 0 rfl) ?_
      refine xw_get (C := R_RW) (T := F_RW) (N := 2) (r := 7) (i := 0) hx hb hts hi_RW hown hK hX (by decide) rfl rfl 1 (by decide) (hts _ w_67) rfl rfl d_RW_keeps_17 ?_
      refine lv_ldc2 (v := 100) hx hb hown (hts _ w_443) d_RW_keeps_20 ?_
      refine lv_lsub hx hb d_RW_keeps_23 ?_
      refine W.lcmp hx hb d_RW_keeps_24 ?_
      refine lv_if_lt (tgt := 32) hx hb d_RW_keeps_25 (by decide) (fun c25 => ?_) (fun c25 => ?_)
      · rw [if_pos c25] at hR
        refine lv_iconst (v := 0) hx hb d_RW_keeps_32 (by decide) ?_
        subst hR
        refine W.widen (k := 0) (n := 0) (by decide) (by decide) ?_; exact xr_z hx hb hr hlocks (by rfl) d_RW_keeps_33
      · rw [if_neg c25] at hR
        refine lv_iconst (v := 1) hx hb d_RW_keeps_28 (by decide) ?_
        refine lv_goto (tgt := 33) hx hb d_RW_keeps_29 (by decide) ?_
        subst hR
        refine W.widen (k := 0) (n := 0) (by decide) (by decide) ?_; exact xr_z hx hb hr hlocks (by rfl) d_RW_keeps_33

abbrev rm_RW_number : Room := { frames := 0, cells := 0, slots := 0, locals := 0 }
def S_RW_number (σ : XS) (a : Int32) (b : Int32) : Int32 := (σ.1 8 0 (((a - a / (100 : Int32) * (100 : Int32)) * (3 : Int32)) + b).toNatClampNeg)
set_option maxHeartbeats 4000000 in
set_option maxRecDepth 100000 in
theorem c_RW_number {l : Launch} {s0 : State} {A0 : Array Value} {D : va_G} {dA : Nat → ClassId} (h0 : XS0 l s0 A0 D dA) (σ : XS) (a : Int32) (b : Int32) (hn : vp_in ((a - a / (100 : Int32) * (100 : Int32)) * (3 : Int32) + b) 300) : XMet l y_RW_number [cw_RW_number] rm_RW_number (XP D dA s0 σ [.ref (xB s0 + XA 7 0), .int a, .int b]) (XQp xv_i (.inl (S_RW_number σ a b))) 0 0 (fun _ => False) := by
  refine XMet.ofW (cc := b_RW_number) (maxL := 3) (ret := (some .int)) (by decide) rfl ?_
  intro p e s m args below meth c s₁ Bd hml hv
  obtain ⟨rfl, hX, hO⟩ := hv
  have hx := Bd.exec
  have hb := Bd.bytes
  have hr := Bd.returns
  have hown : s.vm.findClass "LoadChecks$Rows" = some m.cls := findClass_of_methodNamed Bd.named
  have hlocks := Bd.notSynchronized
  have hnt : c.exceptionTable.isEmpty = true := Bd.noHandlers (atoms_spec (ws := [cw_RW_number]) Bd.pre _ List.mem_cons_self)
  have hW0 := hO.1
  have hts := xs_w (args := ([.ref (xB s0 + XA 7 0), .int a, .int b] : List Value).toArray) h0 hW0
  have hK := xs_K h0 hW0
  have hl := lv_entry ([.ref (xB s0 + XA 7 0), .int a, .int b]) (n := 3) (Nat.le_of_ble_eq_true rfl)
  rw [lg_entry_eq]
  generalize (lg_sl ([.ref (xB s0 + XA 7 0), .int a, .int b]) ++ List.replicate (3 - (lg_sl ([.ref (xB s0 + XA 7 0), .int a, .int b])).length) Slot.unset).toArray = ls at hl ⊢
  have hl : lv_has ls 3 [(0, .ref (xB s0 + XA 7 0)), (1, .int a), (2, .int b)] := hl
  generalize hR : S_RW_number σ a b = res
  unfold S_RW_number at hR
  refine lv_aload_n hx hb d_RW_number_0 rfl (lv_at hl 0 rfl) ?_
  refine xw_get (C := R_RW) (T := F_RW) (N := 2) (r := 7) (i := 0) hx hb hts hi_RW hown hK hX (by decide) rfl rfl 0 (by decide) (hts _ w_66) rfl rfl d_RW_number_1 ?_
  refine lv_iload_n hx hb d_RW_number_4 rfl (lv_at hl 1 rfl) ?_
  refine lv_bipush (v := 100) hx hb d_RW_number_5 (by decide) ?_
  refine lv_irem hx hb d_RW_number_7 (by decide) ?_
  refine lv_iconst (v := 3) hx hb d_RW_number_8 (by decide) ?_
  refine lv_imul hx hb d_RW_number_9 ?_
  refine lv_iload_n hx hb d_RW_number_10 rfl (lv_at hl 2 rfl) ?_
  refine lv_iadd hx hb d_RW_number_11 ?_
  refine xw_iald (r := 8) (i := 0) hx hb hK hX (by decide) 0 rfl rfl (j := (((a - a / (100 : Int32) * (100 : Int32)) * (3 : Int32)) + b)) hn d_RW_number_12 ?_
  subst hR
  refine W.widen (k := 0) (n := 0) (by decide) (by decide) ?_; exact xr_i hx hb hr hlocks d_RW_number_13

abbrev rm_LC_requireSoMany : Room := { frames := 6, cells := 1, slots := 6, locals := 82 }
def S_LC_requireSoMany (σ : XS) (i : Nat) (cell : Int32) (n : Int32) : Unit ⊕ String := (if n ≤ (σ.1 12 i cell.toNatClampNeg) then .inl () else .inr "java/lang/IllegalStateException")
set_option maxHeartbeats 4000000 in
set_option maxRecDepth 100000 in
theorem c_LC_requireSoMany {l : Launch} {s0 : State} {A0 : Array Value} {D : va_G} {dA : Nat → ClassId} (h0 : XS0 l s0 A0 D dA) (σ : XS) (i : Nat) (cell : Int32) (n : Int32) (hi_i : i < 16) (hc : vp_in cell 240) : XMet l y_LC_requireSoMany [cw_LC_requireSoMany] rm_LC_requireSoMany (XP D dA s0 σ [.ref (xB s0 + XA 9 i), .int cell, .int n]) (XQp xv_v (S_LC_requireSoMany σ i cell n)) 1 6 (fun _ => False) := by
  refine XMet.ofW (cc := b_LC_requireSoMany) (maxL := 3) (ret := none) (by decide) rfl ?_
  intro p e s m args below meth c s₁ Bd hml hv
  obtain ⟨rfl, hX, hO⟩ := hv
  have hx := Bd.exec
  have hb := Bd.bytes
  have hr := Bd.returns
  have hown : s.vm.findClass "LoadChecks" = some m.cls := findClass_of_methodNamed Bd.named
  have hlocks := Bd.notSynchronized
  have hnt : c.exceptionTable.isEmpty = true := Bd.noHandlers (atoms_spec (ws := [cw_LC_requireSoMany]) Bd.pre _ List.mem_cons_self)
  have hW0 := hO.1
  have hts := xs_w (args := ([.ref (xB s0 + XA 9 i), .int cell, .int n] : List Value).toArray) h0 hW0
  have hK := xs_K h0 hW0
  have hl := lv_entry ([.ref (xB s0 + XA 9 i), .int cell, .int n]) (n := 3) (Nat.le_of_ble_eq_true rfl)
  rw [lg_entry_eq]
  generalize (lg_sl ([.ref (xB s0 + XA 9 i), .int cell, .int n]) ++ List.replicate (3 - (lg_sl ([.ref (xB s0 + XA 9 i), .int cell, .int n])).length) Slot.unset).toArray = ls at hl ⊢
  have hl : lv_has ls 3 [(0, .ref (xB s0 + XA 9 i)), (1, .int cell), (2, .int n)] := hl
  generalize hR : S_LC_requireSoMany σ i cell n = res
  unfold S_LC_requireSoMany at hR
  refine lv_aload_n hx hb d_LC_requireSoMany_0 rfl (lv_at hl 0 rfl) ?_
  refine xw_getN (C := R_VE) (T := F_VE) (N := 13) (r := 9) (i := i) hx hb hts hi_VE hown hK hX hi_i rfl rfl 2 (by decide) (xs_N h0 hW0 m_87) rfl rfl d_LC_requireSoMany_1 ?_
  refine lv_iload_n hx hb d_LC_requireSoMany_4 rfl (lv_at hl 1 rfl) ?_
  refine xw_iald (r := 12) (i := i) hx hb hK hX hi_i 0 rfl rfl (j := cell) hc d_LC_requireSoMany_5 ?_
  refine lv_iload_n hx hb d_LC_requireSoMany_6 rfl (lv_at hl 2 rfl) ?_
  refine lv_icmp_ge (tgt := 20) hx hb d_LC_requireSoMany_7 (by decide) (fun c7 => ?_) (fun c7 => ?_)
  · rw [if_pos c7] at hR
    subst hR
    refine W.widen (k := 1) (n := 6) (by decide) (by decide) ?_; exact xr_v hx hb hr hlocks d_LC_requireSoMany_20
  · rw [if_neg c7] at hR
    obtain ⟨qs, hqs⟩ := xs_str h0 hW0 (own := "LoadChecks") (k := 228) (tx := "there are not so many") (by decide +kernel); subst hR; refine W.widen (k := 0) (n := 0) (by decide) (by decide) ?_; exact x_throw hx hb h0.1 hown hlocks hnt (hl.1.trans hml.symm) (hts _ w_314) (hts _ w_45) hqs (x_own hO rfl (oa_ISE h0)) (by decide +kernel) (by decide +kernel) d_LC_requireSoMany_10 d_LC_requireSoMany_13 d_LC_requireSoMany_14 d_LC_requireSoMany_16 d_LC_requireSoMany_19 (Nat.le_of_ble_eq_true rfl) (Nat.le_of_ble_eq_true rfl) (Nat.le_of_ble_eq_true rfl) (Nat.le_of_ble_eq_true rfl) (fun x t h1 h2 => Or.inr ⟨_, x, rfl, rfl, h1, h2⟩)

abbrev rm_LC_requireBearable : Room := { frames := 6, cells := 1, slots := 6, locals := 82 }
def S_LC_requireBearable (σ : XS) (i : Nat) (cell : Int32) (n : Int32) : Unit ⊕ String := (if (S_VE_bears σ i cell n (σ.1 1 0 (cell - cell / (30 : Int32) * (30 : Int32)).toNatClampNeg)) = 0 then .inr "java/lang/IllegalStateException" else .inl ())
set_option maxHeartbeats 4000000 in
set_option maxRecDepth 100000 in
theorem c_LC_requireBearable {l : Launch} {s0 : State} {A0 : Array Value} {D : va_G} {dA : Nat → ClassId} (h0 : XS0 l s0 A0 D dA) (σ : XS) (i : Nat) (cell : Int32) (n : Int32) (hi_i : i < 16) (hc : vp_in cell 240) : XMet l y_LC_requireBearable [cw_LC_requireBearable] rm_LC_requireBearable (XP D dA s0 σ [.ref (xB s0 + XA 0 0), .ref (xB s0 + XA 9 i), .int cell, .int n]) (XQp xv_v (S_LC_requireBearable σ i cell n)) 1 6 (fun _ => False) := by
  refine XMet.ofW (cc := b_LC_requireBearable) (maxL := 4) (ret := none) (by decide) rfl ?_
  intro p e s m args below meth c s₁ Bd hml hv
  obtain ⟨rfl, hX, hO⟩ := hv
  have hx := Bd.exec
  have hb := Bd.bytes
  have hr := Bd.returns
  have hown : s.vm.findClass "LoadChecks" = some m.cls := findClass_of_methodNamed Bd.named
  have hlocks := Bd.notSynchronized
  have hnt : c.exceptionTable.isEmpty = true := Bd.noHandlers (atoms_spec (ws := [cw_LC_requireBearable]) Bd.pre _ List.mem_cons_self)
  have hW0 := hO.1
  have hts := xs_w (args := ([.ref (xB s0 + XA 0 0), .ref (xB s0 + XA 9 i), .int cell, .int n] : List Value).toArray) h0 hW0
  have hK := xs_K h0 hW0
  have hl := lv_entry ([.ref (xB s0 + XA 0 0), .ref (xB s0 + XA 9 i), .int cell, .int n]) (n := 4) (Nat.le_of_ble_eq_true rfl)
  rw [lg_entry_eq]
  generalize (lg_sl ([.ref (xB s0 + XA 0 0), .ref (xB s0 + XA 9 i), .int cell, .int n]) ++ List.replicate (4 - (lg_sl ([.ref (xB s0 + XA 0 0), .ref (xB s0 + XA 9 i), .int cell, .int n])).length) Slot.unset).toArray = ls at hl ⊢
  have hl : lv_has ls 4 [(0, .ref (xB s0 + XA 0 0)), (1, .ref (xB s0 + XA 9 i)), (2, .int cell), (3, .int n)] := hl
  generalize hR : S_LC_requireBearable σ i cell n = res
  unfold S_LC_requireBearable at hR
  refine lv_aload_n hx hb d_LC_requireBearable_0 rfl (lv_at hl 1 rfl) ?_
  refine lv_iload_n hx hb d_LC_requireBearable_1 rfl (lv_at hl 2 rfl) ?_
  refine lv_iload_n hx hb d_LC_requireBearable_2 rfl (lv_at hl 3 rfl) ?_
  refine lv_aload_n hx hb d_LC_requireBearable_3 rfl (lv_at hl 0 rfl) ?_
  refine xw_get (C := R_LC) (T := F_LC) (N := 9) (r := 0) (i := 0) hx hb hts hi_LC hown hK hX (by decide) rfl rfl 0 (by decide) (hts _ w_133) rfl rfl d_LC_requireBearable_4 ?_
  refine lv_iload_n hx hb d_LC_requireBearable_7 rfl (lv_at hl 2 rfl) ?_
  refine lv_bipush (v := 30) hx hb d_LC_requireBearable_8 (by decide) ?_
  refine lv_irem hx hb d_LC_requireBearable_10 (by decide) ?_
  refine xw_iald (r := 1) (i := 0) hx hb hK hX (by decide) 0 rfl rfl (j := (cell - cell / (30 : Int32) * (30 : Int32))) (o_rem hc) d_LC_requireBearable_11 ?_
  obtain ⟨cB12, hcB12, hoB12, hkB12⟩ := xw_recv (r := 9) (i := i) hK hX hi_i rfl rfl
  refine xc_f (rest := []) (x_invVN (argsL := [.int cell, .int n, .int (σ.1 1 0 (cell - cell / (30 : Int32) * (30 : Int32)).toNatClampNeg)]) hx hb hown (xs_M h0 hW0 m_378) (hts _ w_380) (hts _ w_6) (x_code (hts _ w_381)) ⟨by decide, by decide⟩ hcB12 hoB12 hkB12 rfl rfl rfl d_LC_requireBearable_12) (c_VE_bears h0 σ i cell n (σ.1 1 0 (cell - cell / (30 : Int32) * (30 : Int32)).toNatClampNeg) hi_i hc) (xs_cw h0 hW0 m_381) (hts _ w_36) ⟨rfl, rfl, Nat.le_of_ble_eq_true rfl, Nat.le_of_ble_eq_true rfl⟩ (hl.1.trans hml.symm) (by rw [hb]; exact d_LC_requireBearable_12) (Nat.le_of_ble_eq_true rfl) ⟨Nat.le_of_ble_eq_true rfl, Nat.le_of_ble_eq_true rfl⟩ hX hO ?_
  refine lv_if_ne (tgt := 28) hx hb d_LC_requireBearable_15 (by decide) (fun c15 => ?_) (fun c15 => ?_)
  · rw [if_neg c15] at hR
    subst hR
    refine W.widen (k := 1) (n := 6) (by decide) (by decide) ?_; exact xr_v hx hb hr hlocks d_LC_requireBearable_28
  · rw [if_pos c15] at hR
    obtain ⟨qs, hqs⟩ := xs_str h0 hW0 (own := "LoadChecks") (k := 230) (tx := "an axle would be beyond its limit") (by decide +kernel); subst hR; refine W.widen (k := 0) (n := 0) (by decide) (by decide) ?_; exact x_throw hx hb h0.1 hown hlocks hnt (hl.1.trans hml.symm) (hts _ w_314) (hts _ w_45) hqs (x_own hO rfl (oa_ISE h0)) (by decide +kernel) (by decide +kernel) d_LC_requireBearable_18 d_LC_requireBearable_21 d_LC_requireBearable_22 d_LC_requireBearable_24 d_LC_requireBearable_27 (Nat.le_of_ble_eq_true rfl) (Nat.le_of_ble_eq_true rfl) (Nat.le_of_ble_eq_true rfl) (Nat.le_of_ble_eq_true rfl) (fun x t h1 h2 => Or.inr ⟨_, x, rfl, rfl, h1, h2⟩)

abbrev rm_LC_requireRoom : Room := { frames := 6, cells := 1, slots := 6, locals := 82 }
def S_LC_requireRoom (σ : XS) (i : Nat) (cell : Int32) (n : Int32) : Unit ⊕ String := (if ((σ.1 12 i cell.toNatClampNeg) + n) ≤ (99 : Int32) then .inl () else .inr "java/lang/UnsupportedOperationException")
set_option maxHeartbeats 4000000 in
set_option maxRecDepth 100000 in
theorem c_LC_requireRoom {l : Launch} {s0 : State} {A0 : Array Value} {D : va_G} {dA : Nat → ClassId} (h0 : XS0 l s0 A0 D dA) (σ : XS) (i : Nat) (cell : Int32) (n : Int32) (hi_i : i < 16) (hc : vp_in cell 240) : XMet l y_LC_requireRoom [cw_LC_requireRoom] rm_LC_requireRoom (XP D dA s0 σ [.ref (xB s0 + XA 9 i), .int cell, .int n]) (XQp xv_v (S_LC_requireRoom σ i cell n)) 1 6 (fun _ => False) := by
  refine XMet.ofW (cc := b_LC_requireRoom) (maxL := 3) (ret := none) (by decide) rfl ?_
  intro p e s m args below meth c s₁ Bd hml hv
  obtain ⟨rfl, hX, hO⟩ := hv
  have hx := Bd.exec
  have hb := Bd.bytes
  have hr := Bd.returns
  have hown : s.vm.findClass "LoadChecks" = some m.cls := findClass_of_methodNamed Bd.named
  have hlocks := Bd.notSynchronized
  have hnt : c.exceptionTable.isEmpty = true := Bd.noHandlers (atoms_spec (ws := [cw_LC_requireRoom]) Bd.pre _ List.mem_cons_self)
  have hW0 := hO.1
  have hts := xs_w (args := ([.ref (xB s0 + XA 9 i), .int cell, .int n] : List Value).toArray) h0 hW0
  have hK := xs_K h0 hW0
  have hl := lv_entry ([.ref (xB s0 + XA 9 i), .int cell, .int n]) (n := 3) (Nat.le_of_ble_eq_true rfl)
  rw [lg_entry_eq]
  generalize (lg_sl ([.ref (xB s0 + XA 9 i), .int cell, .int n]) ++ List.replicate (3 - (lg_sl ([.ref (xB s0 + XA 9 i), .int cell, .int n])).length) Slot.unset).toArray = ls at hl ⊢
  have hl : lv_has ls 3 [(0, .ref (xB s0 + XA 9 i)), (1, .int cell), (2, .int n)] := hl
  generalize hR : S_LC_requireRoom σ i cell n = res
  unfold S_LC_requireRoom at hR
  refine lv_aload_n hx hb d_LC_requireRoom_0 rfl (lv_at hl 0 rfl) ?_
  refine xw_getN (C := R_VE) (T := F_VE) (N := 13) (r := 9) (i := i) hx hb hts hi_VE hown hK hX hi_i rfl rfl 2 (by decide) (xs_N h0 hW0 m_87) rfl rfl d_LC_requireRoom_1 ?_
  refine lv_iload_n hx hb d_LC_requireRoom_4 rfl (lv_at hl 1 rfl) ?_
  refine xw_iald (r := 12) (i := i) hx hb hK hX hi_i 0 rfl rfl (j := cell) hc d_LC_requireRoom_5 ?_
  refine lv_iload_n hx hb d_LC_requireRoom_6 rfl (lv_at hl 2 rfl) ?_
  refine lv_iadd hx hb d_LC_requireRoom_7 ?_
  refine lv_bipush (v := 99) hx hb d_LC_requireRoom_8 (by decide) ?_
  refine lv_icmp_le (tgt := 23) hx hb d_LC_requireRoom_10 (by decide) (fun c10 => ?_) (fun c10 => ?_)
  · rw [if_pos c10] at hR
    subst hR
    refine W.widen (k := 1) (n := 6) (by decide) (by decide) ?_; exact xr_v hx hb hr hlocks d_LC_requireRoom_23
  · rw [if_neg c10] at hR
    obtain ⟨qs, hqs⟩ := xs_str h0 hW0 (own := "LoadChecks") (k := 232) (tx := "no room in the cupboard") (by decide +kernel); subst hR; refine W.widen (k := 0) (n := 0) (by decide) (by decide) ?_; exact x_throw hx hb h0.1 hown hlocks hnt (hl.1.trans hml.symm) (hts _ w_267) (hts _ w_44) hqs (x_own hO rfl (oa_UOE h0)) (by decide +kernel) (by decide +kernel) d_LC_requireRoom_13 d_LC_requireRoom_16 d_LC_requireRoom_17 d_LC_requireRoom_19 d_LC_requireRoom_22 (Nat.le_of_ble_eq_true rfl) (Nat.le_of_ble_eq_true rfl) (Nat.le_of_ble_eq_true rfl) (Nat.le_of_ble_eq_true rfl) (fun x t h1 h2 => Or.inr ⟨_, x, rfl, rfl, h1, h2⟩)

abbrev rm_LC_isAnywhere : Room := { frames := 2, cells := 0, slots := 0, locals := 43 }
def L_LC_isAnywhere : Nat → XS → Int32 → Int32 → Int32
  | 0, _, _, _ => default
  | n + 1, σ, it, x2 => (if (σ.1 0 0 6) ≤ x2 then (0 : Int32) else (if (S_VE_carries σ x2.toNatClampNeg it) = 0 then (L_LC_isAnywhere n σ it (x2 + 1)) else (1 : Int32)))
def S_LC_isAnywhere (σ : XS) (it : Int32) : Int32 := (if (σ.1 3 0 it.toNatClampNeg) ≤ 0 then (L_LC_isAnywhere 17 σ it (0 : Int32)) else (1 : Int32))
set_option maxHeartbeats 4000000 in
set_option maxRecDepth 100000 in
theorem l_LC_isAnywhere {l : Launch} {s0 : State} {A0 : Array Value} {D : va_G} {dA : Nat → ClassId} (h0 : XS0 l s0 A0 D dA) {p : Program} {e : Env} {s : State} {m : MethodId} {args : Array Value} {below : List Frame} {meth : Method} {c : Code} (hx : p.tables.exec = Jvm.exec) (hb : c.code = b_LC_isAnywhere) (hr : meth.sig.returnType = (some .boolean)) (hml : c.maxLocals = 3) (hown : s.vm.findClass "LoadChecks" = some m.cls) (hlocks : meth.locks = false) (hnt : c.exceptionTable.isEmpty = true) (hO : XO s0 s s.heap) :
    ∀ (n : Nat) (σ : XS) (it : Int32) (x2 : Int32) (k : Nat), x2 = nI k → k + n = 17 → k < 17 → XOk σ → vp_in it 30 → XWs D dA s0 σ s.heap → ∀ (ls : Array Slot), lv_has ls 3 [(0, .ref (xB s0 + XA 0 0)), (1, .int it), (2, .int x2)] → ∀ res, L_LC_isAnywhere n σ it x2 = res →
    W p l e rm_LC_isAnywhere s m args below meth c s.heap [] 0 0 (XMQ below (XQp xv_i (.inl res)) args s 0 0 (fun _ => False)) (F0 m 13 ls []) := by
  have hW0 := hO.1
  have hts := xs_w (args := args) h0 hW0
  have hK := xs_K h0 hW0
  intro n
  induction n with
  | zero =>
    intro σ it x2 k e1 h2 h3
    exact absurd h2 (by omega)
  | succ n ih =>
    intro σ it x2 k e_x2 hkn hkF hok hc hX ls hl res hR
    rw [L_LC_isAnywhere] at hR
    refine lv_iload_n hx hb d_LC_isAnywhere_13 rfl (lv_at hl 2 rfl) ?_
    refine lv_aload_n hx hb d_LC_isAnywhere_14 rfl (lv_at hl 0 rfl) ?_
    refine xw_get (C := R_LC) (T := F_LC) (N := 9) (r := 0) (i := 0) hx hb hts hi_LC hown hK hX (by decide) rfl rfl 6 (by decide) (hts _ w_139) rfl rfl d_LC_isAnywhere_15 ?_
    refine lv_icmp_ge (tgt := 42) hx hb d_LC_isAnywhere_18 (by decide) (fun c18 => ?_) (fun c18 => ?_)
    · rw [if_pos c18] at hR
      refine lv_iconst (v := 0) hx hb d_LC_isAnywhere_42 (by decide) ?_
      subst hR
      refine W.widen (k := 0) (n := 0) (by decide) (by decide) ?_; exact xr_z hx hb hr hlocks (by rfl) d_LC_isAnywhere_43
    · rw [if_neg c18] at hR
      have hk : k < 16 := o_vc hok e_x2 (by omega) c18
      refine lv_aload_n hx hb d_LC_isAnywhere_21 rfl (lv_at hl 0 rfl) ?_
      refine xw_get (C := R_LC) (T := F_LC) (N := 9) (r := 0) (i := 0) hx hb hts hi_LC hown hK hX (by decide) rfl rfl 4 (by decide) (hts _ w_137) rfl rfl d_LC_isAnywhere_22 ?_
      refine lv_iload_n hx hb d_LC_isAnywhere_25 rfl (lv_at hl 2 rfl) ?_
      refine xw_aald (r := 6) (i := 0) hx hb hK hX (by decide) 4 rfl rfl rfl (j := x2) (o_nI e_x2 hk (by decide)) rfl d_LC_isAnywhere_26 ?_
      refine lv_iload_n hx hb d_LC_isAnywhere_27 rfl (lv_at hl 1 rfl) ?_
      obtain ⟨cB28, hcB28, hoB28, hkB28⟩ := xw_recv (r := 9) (i := x2.toNatClampNeg) hK hX (vp_lt (o_nI e_x2 hk (by decide))) rfl rfl
      refine xc_f (rest := []) (x_invVN (argsL := [.int it]) hx hb hown (xs_M h0 hW0 m_346) (hts _ w_348) (hts _ w_4) (x_code (hts _ w_349)) ⟨by decide, by decide⟩ hcB28 hoB28 hkB28 rfl rfl rfl d_LC_isAnywhere_28) (c_VE_carries h0 σ x2.toNatClampNeg it (vp_lt (o_nI e_x2 hk (by decide))) hc) (xs_cw h0 hW0 m_349) (hts _ w_36) ⟨rfl, rfl, Nat.le_of_ble_eq_true rfl, Nat.le_of_ble_eq_true rfl⟩ (hl.1.trans hml.symm) (by rw [hb]; exact d_LC_isAnywhere_28) (Nat.le_of_ble_eq_true rfl) ⟨Nat.le_of_ble_eq_true rfl, Nat.le_of_ble_eq_true rfl⟩ hX hO ?_
      refine lv_if_eq (tgt := 36) hx hb d_LC_isAnywhere_31 (by decide) (fun c31 => ?_) (fun c31 => ?_)
      · rw [if_pos c31] at hR
        refine lv_iinc (v := (x2 + 1)) (lv' := [(2, .int (x2 + 1)), (0, .ref (xB s0 + XA 0 0)), (1, .int it)]) hx hb d_LC_isAnywhere_36 hl (k := 2) rfl rfl (by decide) rfl (fun ls hl => ?_)
        refine lv_goto (tgt := 13) hx hb d_LC_isAnywhere_39 (by decide) ?_
        exact ih σ it (x2 + 1) (k + 1) (by rw [e_x2]; exact nI_1 k) (by omega) (by omega)  hok hc hX ls (lv_sub hl [1, 2, 0] rfl) res hR
      · rw [if_neg c31] at hR
        refine lv_iconst (v := 1) hx hb d_LC_isAnywhere_34 (by decide) ?_
        subst hR
        refine W.widen (k := 0) (n := 0) (by decide) (by decide) ?_; exact xr_z hx hb hr hlocks (by rfl) d_LC_isAnywhere_35
set_option maxHeartbeats 4000000 in
set_option maxRecDepth 100000 in
theorem c_LC_isAnywhere {l : Launch} {s0 : State} {A0 : Array Value} {D : va_G} {dA : Nat → ClassId} (h0 : XS0 l s0 A0 D dA) (σ : XS) (it : Int32) (hok : XOk σ) (hc : vp_in it 30) : XMet l y_LC_isAnywhere [cw_LC_isAnywhere] rm_LC_isAnywhere (XP D dA s0 σ [.ref (xB s0 + XA 0 0), .int it]) (XQp xv_i (.inl (S_LC_isAnywhere σ it))) 0 0 (fun _ => False) := by
  refine XMet.ofW (cc := b_LC_isAnywhere) (maxL := 3) (ret := (some .boolean)) (by decide) rfl ?_
  intro p e s m args below meth c s₁ Bd hml hv
  obtain ⟨rfl, hX, hO⟩ := hv
  have hx := Bd.exec
  have hb := Bd.bytes
  have hr := Bd.returns
  have hown : s.vm.findClass "LoadChecks" = some m.cls := findClass_of_methodNamed Bd.named
  have hlocks := Bd.notSynchronized
  have hnt : c.exceptionTable.isEmpty = true := Bd.noHandlers (atoms_spec (ws := [cw_LC_isAnywhere]) Bd.pre _ List.mem_cons_self)
  have hW0 := hO.1
  have hts := xs_w (args := ([.ref (xB s0 + XA 0 0), .int it] : List Value).toArray) h0 hW0
  have hK := xs_K h0 hW0
  have hl := lv_entry ([.ref (xB s0 + XA 0 0), .int it]) (n := 3) (Nat.le_of_ble_eq_true rfl)
  rw [lg_entry_eq]
  generalize (lg_sl ([.ref (xB s0 + XA 0 0), .int it]) ++ List.replicate (3 - (lg_sl ([.ref (xB s0 + XA 0 0), .int it])).length) Slot.unset).toArray = ls at hl ⊢
  have hl : lv_has ls 3 [(0, .ref (xB s0 + XA 0 0)), (1, .int it)] := hl
  generalize hR : S_LC_isAnywhere σ it = res
  unfold S_LC_isAnywhere at hR
  refine lv_aload_n hx hb d_LC_isAnywhere_0 rfl (lv_at hl 0 rfl) ?_
  refine xw_get (C := R_LC) (T := F_LC) (N := 9) (r := 0) (i := 0) hx hb hts hi_LC hown hK hX (by decide) rfl rfl 2 (by decide) (hts _ w_135) rfl rfl d_LC_isAnywhere_1 ?_
  refine lv_iload_n hx hb d_LC_isAnywhere_4 rfl (lv_at hl 1 rfl) ?_
  refine xw_iald (r := 3) (i := 0) hx hb hK hX (by decide) 0 rfl rfl (j := it) hc d_LC_isAnywhere_5 ?_
  refine lv_if_le (tgt := 11) hx hb d_LC_isAnywhere_6 (by decide) (fun c6 => ?_) (fun c6 => ?_)
  · rw [if_pos c6] at hR
    refine lv_iconst (v := 0) hx hb d_LC_isAnywhere_11 (by decide) ?_
    refine lv_istore_n (lv' := [(2, .int (0 : Int32)), (0, .ref (xB s0 + XA 0 0)), (1, .int it)]) hx hb d_LC_isAnywhere_12 rfl hl (by decide) rfl (fun ls hl => ?_)
    exact l_LC_isAnywhere h0 hx hb hr hml hown hlocks hnt hO 17 σ it (0 : Int32) 0 nI_0.symm rfl (by decide)  hok hc hX ls (lv_sub hl [1, 2, 0] rfl) res hR
  · rw [if_neg c6] at hR
    refine lv_iconst (v := 1) hx hb d_LC_isAnywhere_9 (by decide) ?_
    subst hR
    refine W.widen (k := 0) (n := 0) (by decide) (by decide) ?_; exact xr_z hx hb hr hlocks (by rfl) d_LC_isAnywhere_10

abbrev rm_LC_commonDivisor : Room := { frames := 1, cells := 0, slots := 0, locals := 23 }
def L_LC_commonDivisor : Nat → XS → Int64 → Int64 → Int32 → Int64
  | 0, _, _, _, _ => default
  | n + 1, σ, a, b, x8 => (if (200 : Int32) ≤ x8 then (if (1 : Int64) < a then a else (1 : Int64)) else (if (lg_cmp b (0 : Int64)) = 0 then (if (1 : Int64) < a then a else (1 : Int64)) else (L_LC_commonDivisor n σ b (a - a / b * b) (x8 + 1))))
def S_LC_commonDivisor (σ : XS) (up : Int64) (lo : Int64) : Int64 := (L_LC_commonDivisor 201 σ (if 0 < up then up else -up) lo (0 : Int32))
set_option maxHeartbeats 4000000 in
set_option maxRecDepth 100000 in
theorem l_LC_commonDivisor {l : Launch} {s0 : State} {A0 : Array Value} {D : va_G} {dA : Nat → ClassId} (h0 : XS0 l s0 A0 D dA) {p : Program} {e : Env} {s : State} {m : MethodId} {args : Array Value} {below : List Frame} {meth : Method} {c : Code} (hx : p.tables.exec = Jvm.exec) (hb : c.code = b_LC_commonDivisor) (hr : meth.sig.returnType = (some .long)) (hml : c.maxLocals = 11) (hown : s.vm.findClass "LoadChecks" = some m.cls) (hlocks : meth.locks = false) (hnt : c.exceptionTable.isEmpty = true) (hO : XO s0 s s.heap) :
    ∀ (n : Nat) (σ : XS) (a : Int64) (b : Int64) (x8 : Int32) (k : Nat), x8 = nI k → k + n = 201 → k < 201 → XWs D dA s0 σ s.heap → ∀ (ls : Array Slot), lv_has ls 11 [(4, .long a), (6, .long b), (8, .int x8)] → ∀ res, L_LC_commonDivisor n σ a b x8 = res →
    W p l e rm_LC_commonDivisor s m args below meth c s.heap [] 0 0 (XMQ below (XQp xv_l (.inl res)) args s 0 0 (fun _ => False)) (F0 m 12 ls []) := by
  have hW0 := hO.1
  have hts := xs_w (args := args) h0 hW0
  have hK := xs_K h0 hW0
  intro n
  induction n with
  | zero =>
    intro σ a b x8 k e1 h2 h3
    exact absurd h2 (by omega)
  | succ n ih =>
    intro σ a b x8 k e_x8 hkn hkF  hX ls hl res hR
    rw [L_LC_commonDivisor] at hR
    refine lv_iload hx hb d_LC_commonDivisor_12 (lv_at hl 2 rfl) ?_
    refine lv_sipush (v := 200) hx hb d_LC_commonDivisor_14 (by decide) ?_
    refine lv_icmp_ge (tgt := 48) hx hb d_LC_commonDivisor_17 (by decide) (fun c17 => ?_) (fun c17 => ?_)
    · rw [if_pos c17] at hR
      refine lv_lload hx hb d_LC_commonDivisor_48 (lv_at hl 0 rfl) ?_
      refine lv_lconst (v := 1) hx hb d_LC_commonDivisor_50 (by decide) ?_
      refine va_mmax_long hx hb (hml.trans hl.1.symm) hown (hts _ w_556) (hts _ w_557) (hts _ w_46) (hts _ w_558) (Nat.le_of_ble_eq_true rfl) (Nat.le_of_ble_eq_true rfl) (Nat.le_of_ble_eq_true rfl) (Nat.le_of_ble_eq_true rfl) d_LC_commonDivisor_51 ?_
      subst hR
      refine W.widen (k := 0) (n := 0) (by decide) (by decide) ?_; exact xr_l hx hb hr hlocks d_LC_commonDivisor_54
    · rw [if_neg c17] at hR
      have hk : k < 200 := x_klt (b := 200) rfl (by decide) (by omega) e_x8 c17
      refine lv_lload hx hb d_LC_commonDivisor_20 (lv_at hl 1 rfl) ?_
      refine lv_lconst (v := 0) hx hb d_LC_commonDivisor_22 (by decide) ?_
      refine W.lcmp hx hb d_LC_commonDivisor_23 ?_
      refine lv_if_eq (tgt := 48) hx hb d_LC_commonDivisor_24 (by decide) (fun c24 => ?_) (fun c24 => ?_)
      · rw [if_pos c24] at hR
        refine lv_lload hx hb d_LC_commonDivisor_48 (lv_at hl 0 rfl) ?_
        refine lv_lconst (v := 1) hx hb d_LC_commonDivisor_50 (by decide) ?_
        refine va_mmax_long hx hb (hml.trans hl.1.symm) hown (hts _ w_556) (hts _ w_557) (hts _ w_46) (hts _ w_558) (Nat.le_of_ble_eq_true rfl) (Nat.le_of_ble_eq_true rfl) (Nat.le_of_ble_eq_true rfl) (Nat.le_of_ble_eq_true rfl) d_LC_commonDivisor_51 ?_
        subst hR
        refine W.widen (k := 0) (n := 0) (by decide) (by decide) ?_; exact xr_l hx hb hr hlocks d_LC_commonDivisor_54
      · rw [if_neg c24] at hR
        refine lv_lload hx hb d_LC_commonDivisor_27 (lv_at hl 0 rfl) ?_
        refine lv_lload hx hb d_LC_commonDivisor_29 (lv_at hl 1 rfl) ?_
        refine lv_lrem hx hb d_LC_commonDivisor_31 (o_l0 c24) ?_
        refine lv_lstore (lv' := [(9, .long (a - a / b * b)), (4, .long a), (6, .long b), (8, .int x8)]) hx hb d_LC_commonDivisor_32 hl (by decide) rfl (fun ls hl => ?_)
        refine lv_lload hx hb d_LC_commonDivisor_34 (lv_at hl 2 rfl) ?_
        refine lv_lstore (lv' := [(4, .long b), (9, .long (a - a / b * b)), (6, .long b), (8, .int x8)]) hx hb d_LC_commonDivisor_36 hl (by decide) rfl (fun ls hl => ?_)
        refine lv_lload hx hb d_LC_commonDivisor_38 (lv_at hl 1 rfl) ?_
        refine lv_lstore (lv' := [(6, .long (a - a / b * b)), (4, .long b), (9, .long (a - a / b * b)), (8, .int x8)]) hx hb d_LC_commonDivisor_40 hl (by decide) rfl (fun ls hl => ?_)
        refine lv_iinc (v := (x8 + 1)) (lv' := [(8, .int (x8 + 1)), (6, .long (a - a / b * b)), (4, .long b), (9, .long (a - a / b * b))]) hx hb d_LC_commonDivisor_42 hl (k := 3) rfl rfl (by decide) rfl (fun ls hl => ?_)
        refine lv_goto (tgt := 12) hx hb d_LC_commonDivisor_45 (by decide) ?_
        exact ih σ b (a - a / b * b) (x8 + 1) (k + 1) (by rw [e_x8]; exact nI_1 k) (by omega) (by omega)   hX ls (lv_sub hl [2, 1, 0] rfl) res hR
set_option maxHeartbeats 4000000 in
set_option maxRecDepth 100000 in
theorem c_LC_commonDivisor {l : Launch} {s0 : State} {A0 : Array Value} {D : va_G} {dA : Nat → ClassId} (h0 : XS0 l s0 A0 D dA) (σ : XS) (up : Int64) (lo : Int64)  : XMet l y_LC_commonDivisor [cw_LC_commonDivisor] rm_LC_commonDivisor (XP D dA s0 σ [.long up, .long lo]) (XQp xv_l (.inl (S_LC_commonDivisor σ up lo))) 0 0 (fun _ => False) := by
  refine XMet.ofW (cc := b_LC_commonDivisor) (maxL := 11) (ret := (some .long)) (by decide) rfl ?_
  intro p e s m args below meth c s₁ Bd hml hv
  obtain ⟨rfl, hX, hO⟩ := hv
  have hx := Bd.exec
  have hb := Bd.bytes
  have hr := Bd.returns
  have hown : s.vm.findClass "LoadChecks" = some m.cls := findClass_of_methodNamed Bd.named
  have hlocks := Bd.notSynchronized
  have hnt : c.exceptionTable.isEmpty = true := Bd.noHandlers (atoms_spec (ws := [cw_LC_commonDivisor]) Bd.pre _ List.mem_cons_self)
  have hW0 := hO.1
  have hts := xs_w (args := ([.long up, .long lo] : List Value).toArray) h0 hW0
  have hK := xs_K h0 hW0
  have hl := lv_entry ([.long up, .long lo]) (n := 11) (Nat.le_of_ble_eq_true rfl)
  rw [lg_entry_eq]
  generalize (lg_sl ([.long up, .long lo]) ++ List.replicate (11 - (lg_sl ([.long up, .long lo])).length) Slot.unset).toArray = ls at hl ⊢
  have hl : lv_has ls 11 [(0, .long up), (2, .long lo)] := hl
  generalize hR : S_LC_commonDivisor σ up lo = res
  unfold S_LC_commonDivisor at hR
  refine lv_lload_n hx hb d_LC_commonDivisor_0 rfl (lv_at hl 0 rfl) ?_
  refine va_mabs_long hx hb (hml.trans hl.1.symm) hown (hts _ w_553) (hts _ w_554) (hts _ w_46) (hts _ w_555) (Nat.le_of_ble_eq_true rfl) (Nat.le_of_ble_eq_true rfl) (Nat.le_of_ble_eq_true rfl) (Nat.le_of_ble_eq_true rfl) d_LC_commonDivisor_1 ?_
  refine lv_lstore (lv' := [(4, .long (if 0 < up then up else -up)), (0, .long up), (2, .long lo)]) hx hb d_LC_commonDivisor_4 hl (by decide) rfl (fun ls hl => ?_)
  refine lv_lload_n hx hb d_LC_commonDivisor_6 rfl (lv_at hl 2 rfl) ?_
  refine lv_lstore (lv' := [(6, .long lo), (4, .long (if 0 < up then up else -up)), (0, .long up), (2, .long lo)]) hx hb d_LC_commonDivisor_7 hl (by decide) rfl (fun ls hl => ?_)
  refine lv_iconst (v := 0) hx hb d_LC_commonDivisor_9 (by decide) ?_
  refine lv_istore (lv' := [(8, .int (0 : Int32)), (6, .long lo), (4, .long (if 0 < up then up else -up)), (0, .long up), (2, .long lo)]) hx hb d_LC_commonDivisor_10 hl (by decide) rfl (fun ls hl => ?_)
  exact l_LC_commonDivisor h0 hx hb hr hml hown hlocks hnt hO 201 σ (if 0 < up then up else -up) lo (0 : Int32) 0 nI_0.symm rfl (by decide)   hX ls (lv_sub hl [2, 1, 0] rfl) res hR
end
section
/-! what a call that did not throw tells -/
theorem f_kind {σ : XS} {x : Int32} {u : Unit} (h : S_LC_requireKind σ x = .inl u) : vp_in x 6 := by
  unfold S_LC_requireKind at h
  split at h
  · cases h
  · split at h
    · rename_i c1 c2
      rw [vp_in_iff]
      rw [Int32.lt_iff_toInt_lt] at c1 c2
      have h0 : (0 : Int32).toInt = 0 := rfl
      have h6 : (6 : Int32).toInt = 6 := rfl
      omega
    · cases h
theorem f_cup {σ : XS} {x : Int32} {u : Unit} (h : S_LC_requireCupboard σ x = .inl u) : vp_in x 8 := by
  unfold S_LC_requireCupboard at h
  split at h
  · cases h
  · split at h
    · rename_i c1 c2
      rw [vp_in_iff]
      rw [Int32.lt_iff_toInt_lt] at c1 c2
      have h0 : (0 : Int32).toInt = 0 := rfl
      have h6 : (8 : Int32).toInt = 8 := rfl
      omega
    · cases h
theorem f_item {σ : XS} {x : Int32} {u : Unit} (h : S_LC_requireItem σ x = .inl u) : vp_in x 30 := by
  unfold S_LC_requireItem at h
  split at h
  · cases h
  · split at h
    · rename_i c1 c2
      rw [vp_in_iff]
      rw [Int32.lt_iff_toInt_lt] at c1 c2
      have h0 : (0 : Int32).toInt = 0 := rfl
      have h6 : (30 : Int32).toInt = 30 := rfl
      omega
    · cases h
theorem f_known {σ : XS} (hok : XOk σ) {v : Int32} {i : Nat} (h : S_LC_knownVehicle σ v = .inl i) : i < 16 := by
  unfold S_LC_knownVehicle at h
  split at h
  · cases h
  · split at h
    · rename_i c1 c2
      cases h
      exact vp_lt (o_known hok c1 c2)
    · cases h
theorem o_vcin {σ : XS} (hok : XOk σ) (c : σ.1 0 0 6 < 16) : vp_in (σ.1 0 0 6) 16 := by
  rw [vp_in_iff]
  rw [Int32.lt_iff_toInt_lt] at c
  have h6 : (16 : Int32).toInt = 16 := rfl
  have := hok.1
  omega
theorem o_msc {x : Int32} (c1 : ¬ x < 0) (c2 : x < 240) : vp_in x 240 := by
  rw [vp_in_iff]
  rw [Int32.lt_iff_toInt_lt] at c1 c2
  have h0 : (0 : Int32).toInt = 0 := rfl
  have h6 : (240 : Int32).toInt = 240 := rfl
  omega
theorem o_sw1 {σ : XS} (hok : XOk σ) {i j : Nat} {a b n k w x : Int32} : 0 ≤ ((S_VE_load (S_VE_load σ i a n w).2 j b k x).2.2 7 0 1).toInt := by
  show 0 ≤ (σ.2 7 0 1).toInt
  exact hok.2.2.1
theorem o_sw2 {σ : XS} (hok : XOk σ) {i j : Nat} {a b n k w x y z q : Int32} : 0 ≤ ((S_RW_add (S_VE_load (S_VE_load σ i a n w).2 j b k x).2 y z q).2.2 7 0 1).toInt := by
  show 0 ≤ ((σ.2 7 0 1) + 1).toInt
  have h1 := hok.2.2
  rw [Jvm.Kit.i64_add (by have h0 : (1 : Int64).toInt = 1 := rfl; omega) (by have h0 : (1 : Int64).toInt = 1 := rfl; omega)]
  have h0 : (1 : Int64).toInt = 1 := rfl
  omega
theorem o_gcdL (σ : XS) : ∀ (n : Nat) (a b : Int64) (x8 : Int32) (k : Nat), x8 = nI k → k + n = 201 → k < 201 → ¬ L_LC_commonDivisor n σ a b x8 = 0 := by
  have key : ∀ a : Int64, ¬ (if 1 < a then a else 1) = 0 := by
    intro a
    split
    · rename_i c
      intro q
      rw [q] at c
      exact absurd c (by decide)
    · decide
  intro n
  induction n with
  | zero => intro a b x8 k _ h1 h2; omega
  | succ n ih =>
    intro a b x8 k e h1 h2
    rw [L_LC_commonDivisor]
    split
    · exact key a
    · rename_i c
      have hk : k < 200 := x_klt (b := 200) rfl (by decide) (by omega) e c
      split
      · exact key a
      · exact ih _ _ _ (k + 1) (by rw [e]; exact nI_1 k) (by omega) (by omega)
theorem o_gcd {σ : XS} {a b : Int64} : ¬ S_LC_commonDivisor σ a b = 0 := by
  unfold S_LC_commonDivisor
  exact o_gcdL σ 201 _ _ _ 0 nI_0.symm rfl (by decide)
theorem o_num {σ : XS} {a b : Int32} (c8 : ¬ S_RW_keeps σ a = 0) (c12 : ¬ b < 0) (c17 : b < 3) : vp_in ((a - a / (100 : Int32) * (100 : Int32)) * (3 : Int32) + b) 300 := by
  have ha : ¬ a < 0 := by
    intro q
    apply c8
    unfold S_RW_keeps
    rw [if_pos q]
  obtain ⟨i, hi, rfl⟩ := nI_of ha
  have hb : vp_in b 3 := by
    rw [vp_in_iff]
    rw [Int32.lt_iff_toInt_lt] at c12 c17
    have h0 : (0 : Int32).toInt = 0 := rfl
    have h6 : (3 : Int32).toInt = 3 := rfl
    omega
  obtain ⟨j, hj, rfl⟩ := vp_in_of hb (by decide)
  show vp_in ((nI i - nI i / nI 100 * nI 100) * nI 3 + nI j) 300
  rw [pk_rem hi (by decide) (by decide), pk_mul, nI_add]
  have := Nat.mod_lt i (show 0 < 100 by decide)
  exact vp_in_nI (by omega) (by decide)
end
section
abbrev rm_LC_vehicle : Room := { frames := 8, cells := 5, slots := 30, locals := 125 }
def S_LC_vehicle (σ : XS) (k : Int32) (wb : Int32) (fr : Int32) (re : Int32) : (Int32 × XS) ⊕ String := (xbp (S_LC_requireKind σ k) fun _ => (xbp (S_LC_requireRange σ wb (1000 : Int32) (8000 : Int32)) fun _ => (xbp (S_LC_requireLimits σ fr re) fun _ => (if (σ.1 0 0 6) < (16 : Int32) then .inl ((((xuI (xuI (xuI (xuI (xuI σ 9 ((σ.1 0 0 6).toNatClampNeg) 5 k) 9 ((σ.1 0 0 6).toNatClampNeg) 6 wb) 9 ((σ.1 0 0 6).toNatClampNeg) 7 fr) 9 ((σ.1 0 0 6).toNatClampNeg) 8 re) 0 0 6 (((xuI (xuI (xuI (xuI σ 9 ((σ.1 0 0 6).toNatClampNeg) 5 k) 9 ((σ.1 0 0 6).toNatClampNeg) 6 wb) 9 ((σ.1 0 0 6).toNatClampNeg) 7 fr) 9 ((σ.1 0 0 6).toNatClampNeg) 8 re).1 0 0 6) + (1 : Int32))).1 0 0 6) - (1 : Int32)), (xuI (xuI (xuI (xuI (xuI σ 9 ((σ.1 0 0 6).toNatClampNeg) 5 k) 9 ((σ.1 0 0 6).toNatClampNeg) 6 wb) 9 ((σ.1 0 0 6).toNatClampNeg) 7 fr) 9 ((σ.1 0 0 6).toNatClampNeg) 8 re) 0 0 6 (((xuI (xuI (xuI (xuI σ 9 ((σ.1 0 0 6).toNatClampNeg) 5 k) 9 ((σ.1 0 0 6).toNatClampNeg) 6 wb) 9 ((σ.1 0 0 6).toNatClampNeg) 7 fr) 9 ((σ.1 0 0 6).toNatClampNeg) 8 re).1 0 0 6) + (1 : Int32)))) else .inr "java/lang/UnsupportedOperationException"))))
set_option maxHeartbeats 4000000 in
set_option maxRecDepth 100000 in
theorem c_LC_vehicle {l : Launch} {s0 : State} {A0 : Array Value} {D : va_G} {dA : Nat → ClassId} (h0 : XS0 l s0 A0 D dA) (σ : XS) (k : Int32) (wb : Int32) (fr : Int32) (re : Int32) (hok : XOk σ) : XMet l y_LC_vehicle [cw_LC_vehicle] rm_LC_vehicle (XP D dA s0 σ [.ref (xB s0 + XA 0 0), .int k, .int wb, .int fr, .int re]) (XQs D dA s0 xv_i (S_LC_vehicle σ k wb fr re)) 5 30 (xAm s0) := by
  refine XMet.ofW (cc := b_LC_vehicle) (maxL := 6) (ret := (some .int)) (by decide) rfl ?_
  intro p e s m args below meth c s₁ Bd hml hv
  obtain ⟨rfl, hX, hO⟩ := hv
  have hx := Bd.exec
  have hb := Bd.bytes
  have hr := Bd.returns
  have hown : s.vm.findClass "LoadChecks" = some m.cls := findClass_of_methodNamed Bd.named
  have hlocks := Bd.notSynchronized
  have hnt : c.exceptionTable.isEmpty = true := Bd.noHandlers (atoms_spec (ws := [cw_LC_vehicle]) Bd.pre _ List.mem_cons_self)
  have hW0 := hO.1
  have hts := xs_w (args := ([.ref (xB s0 + XA 0 0), .int k, .int wb, .int fr, .int re] : List Value).toArray) h0 hW0
  have hK := xs_K h0 hW0
  have hS := xo_S0 hO
  have hl := lv_entry ([.ref (xB s0 + XA 0 0), .int k, .int wb, .int fr, .int re]) (n := 6) (Nat.le_of_ble_eq_true rfl)
  rw [lg_entry_eq]
  generalize (lg_sl ([.ref (xB s0 + XA 0 0), .int k, .int wb, .int fr, .int re]) ++ List.replicate (6 - (lg_sl ([.ref (xB s0 + XA 0 0), .int k, .int wb, .int fr, .int re])).length) Slot.unset).toArray = ls at hl ⊢
  have hl : lv_has ls 6 [(0, .ref (xB s0 + XA 0 0)), (1, .int k), (2, .int wb), (3, .int fr), (4, .int re)] := hl
  generalize hR : S_LC_vehicle σ k wb fr re = res
  unfold S_LC_vehicle at hR
  refine lv_iload_n hx hb d_LC_vehicle_0 rfl (lv_at hl 1 rfl) ?_
  refine xc_p (rest := []) (x_invS (argsL := [.int k]) hx hb hown (hts _ w_171) (hts _ w_172) (hts _ w_34) (x_code (hts _ w_173)) ⟨by decide, by decide⟩ rfl rfl rfl d_LC_vehicle_1) (c_LC_requireKind h0 σ k) (xs_cw h0 hW0 m_173) (hts _ w_34) ⟨rfl, rfl, Nat.le_of_ble_eq_true rfl, Nat.le_of_ble_eq_true rfl⟩ (hl.1.trans hml.symm) (by rw [hb]; exact d_LC_vehicle_1) (Nat.le_of_ble_eq_true rfl) ⟨Nat.le_of_ble_eq_true rfl, Nat.le_of_ble_eq_true rfl⟩ hX ⟨hW0, xo_S hS⟩ (fun v1 hM1 => ?_) (fun E1 x1 H1 hM1 hE1 he1 => ?_)
  · rw [hM1] at hR
    dsimp only [xbp] at hR
    have f1 := f_kind hM1
    refine lv_iload_n hx hb d_LC_vehicle_4 rfl (lv_at hl 2 rfl) ?_
    refine lv_sipush (v := 1000) hx hb d_LC_vehicle_5 (by decide) ?_
    refine lv_sipush (v := 8000) hx hb d_LC_vehicle_8 (by decide) ?_
    refine xc_p (rest := []) (x_invS (argsL := [.int wb, .int (1000 : Int32), .int (8000 : Int32)]) hx hb hown (hts _ w_244) (hts _ w_245) (hts _ w_34) (x_code (hts _ w_246)) ⟨by decide, by decide⟩ rfl rfl rfl d_LC_vehicle_11) (c_LC_requireRange h0 σ wb (1000 : Int32) (8000 : Int32)) (xs_cw h0 hW0 m_246) (hts _ w_34) ⟨rfl, rfl, Nat.le_of_ble_eq_true rfl, Nat.le_of_ble_eq_true rfl⟩ (hl.1.trans hml.symm) (by rw [hb]; exact d_LC_vehicle_11) (Nat.le_of_ble_eq_true rfl) ⟨Nat.le_of_ble_eq_true rfl, Nat.le_of_ble_eq_true rfl⟩ hX ⟨hW0, xo_S hS⟩ (fun v11 hM11 => ?_) (fun E11 x11 H11 hM11 hE11 he11 => ?_)
    · rw [hM11] at hR
      dsimp only [xbp] at hR
      refine lv_iload_n hx hb d_LC_vehicle_14 rfl (lv_at hl 3 rfl) ?_
      refine lv_iload hx hb d_LC_vehicle_15 (lv_at hl 4 rfl) ?_
      refine xc_p (rest := []) (x_invS (argsL := [.int fr, .int re]) hx hb hown (hts _ w_263) (hts _ w_264) (hts _ w_34) (x_code (hts _ w_265)) ⟨by decide, by decide⟩ rfl rfl rfl d_LC_vehicle_17) (c_LC_requireLimits h0 σ fr re) (xs_cw h0 hW0 m_265) (hts _ w_34) ⟨rfl, rfl, Nat.le_of_ble_eq_true rfl, Nat.le_of_ble_eq_true rfl⟩ (hl.1.trans hml.symm) (by rw [hb]; exact d_LC_vehicle_17) (Nat.le_of_ble_eq_true rfl) ⟨Nat.le_of_ble_eq_true rfl, Nat.le_of_ble_eq_true rfl⟩ hX ⟨hW0, xo_S hS⟩ (fun v17 hM17 => ?_) (fun E17 x17 H17 hM17 hE17 he17 => ?_)
      · rw [hM17] at hR
        dsimp only [xbp] at hR
        refine lv_aload_n hx hb d_LC_vehicle_20 rfl (lv_at hl 0 rfl) ?_
        refine xw_get (C := R_LC) (T := F_LC) (N := 9) (r := 0) (i := 0) hx hb hts hi_LC hown hK hX (by decide) rfl rfl 6 (by decide) (hts _ w_139) rfl rfl d_LC_vehicle_21 ?_
        refine lv_bipush (v := 16) hx hb d_LC_vehicle_24 (by decide) ?_
        refine lv_icmp_lt (tgt := 39) hx hb d_LC_vehicle_26 (by decide) (fun c26 => ?_) (fun c26 => ?_)
        · rw [if_pos c26] at hR
          refine lv_aload_n hx hb d_LC_vehicle_39 rfl (lv_at hl 0 rfl) ?_
          refine xw_get (C := R_LC) (T := F_LC) (N := 9) (r := 0) (i := 0) hx hb hts hi_LC hown hK hX (by decide) rfl rfl 4 (by decide) (hts _ w_137) rfl rfl d_LC_vehicle_40 ?_
          refine lv_aload_n hx hb d_LC_vehicle_43 rfl (lv_at hl 0 rfl) ?_
          refine xw_get (C := R_LC) (T := F_LC) (N := 9) (r := 0) (i := 0) hx hb hts hi_LC hown hK hX (by decide) rfl rfl 6 (by decide) (hts _ w_139) rfl rfl d_LC_vehicle_44 ?_
          refine xw_aald (r := 6) (i := 0) hx hb hK hX (by decide) 4 rfl rfl rfl (j := (σ.1 0 0 6)) (o_vcin hok c26) rfl d_LC_vehicle_47 ?_
          refine lv_astore (lv' := [(5, .ref (xB s0 + XA 9 ((σ.1 0 0 6).toNatClampNeg))), (0, .ref (xB s0 + XA 0 0)), (1, .int k), (2, .int wb), (3, .int fr), (4, .int re)]) hx hb d_LC_vehicle_48 hl (by decide) rfl (fun ls hl => ?_)
          refine lv_aload hx hb d_LC_vehicle_50 (lv_at hl 0 rfl) ?_
          refine lv_iload_n hx hb d_LC_vehicle_52 rfl (lv_at hl 2 rfl) ?_
          refine xw_putN (C := R_VE) (T := F_VE) (N := 13) (r := 9) (i := (σ.1 0 0 6).toNatClampNeg) (ent' := XE dA (xB s0) (xuI σ 9 ((σ.1 0 0 6).toNatClampNeg) 5 k)) hx hb hts hi_VE t_VE t_VE_ok n_VE hown hK xInj hX hS (xA_in _ _ _) (vp_lt (o_vcin hok c26)) rfl rfl 5 (by decide) (xs_N h0 hW0 m_92) rfl rfl rfl rfl (Nat.le_of_ble_eq_true rfl) ((xe_uI dA (xB s0) σ 9 ((σ.1 0 0 6).toNatClampNeg) 5 k).trans rfl) (xe_oI dA (xB s0) σ 9 ((σ.1 0 0 6).toNatClampNeg) 5 k) d_LC_vehicle_53 (fun H locs hX hS => ?_)
          refine lv_aload hx hb d_LC_vehicle_56 (lv_at hl 0 rfl) ?_
          refine lv_iload_n hx hb d_LC_vehicle_58 rfl (lv_at hl 3 rfl) ?_
          refine xw_putN (C := R_VE) (T := F_VE) (N := 13) (r := 9) (i := (σ.1 0 0 6).toNatClampNeg) (ent' := XE dA (xB s0) (xuI (xuI σ 9 ((σ.1 0 0 6).toNatClampNeg) 5 k) 9 ((σ.1 0 0 6).toNatClampNeg) 6 wb)) hx hb hts hi_VE t_VE t_VE_ok n_VE hown hK xInj hX hS (xA_in _ _ _) (vp_lt (o_vcin hok c26)) rfl rfl 6 (by decide) (xs_N h0 hW0 m_94) rfl rfl rfl rfl (Nat.le_of_ble_eq_true rfl) ((xe_uI dA (xB s0) (xuI σ 9 ((σ.1 0 0 6).toNatClampNeg) 5 k) 9 ((σ.1 0 0 6).toNatClampNeg) 6 wb).trans rfl) (xe_oI dA (xB s0) (xuI σ 9 ((σ.1 0 0 6).toNatClampNeg) 5 k) 9 ((σ.1 0 0 6).toNatClampNeg) 6 wb) d_LC_vehicle_59 (fun H locs hX hS => ?_)
          refine lv_aload hx hb d_LC_vehicle_62 (lv_at hl 0 rfl) ?_
          refine lv_iload_n hx hb d_LC_vehicle_64 rfl (lv_at hl 4 rfl) ?_
          refine xw_putN (C := R_VE) (T := F_VE) (N := 13) (r := 9) (i := (σ.1 0 0 6).toNatClampNeg) (ent' := XE dA (xB s0) (xuI (xuI (xuI σ 9 ((σ.1 0 0 6).toNatClampNeg) 5 k) 9 ((σ.1 0 0 6).toNatClampNeg) 6 wb) 9 ((σ.1 0 0 6).toNatClampNeg) 7 fr)) hx hb hts hi_VE t_VE t_VE_ok n_VE hown hK xInj hX hS (xA_in _ _ _) (vp_lt (o_vcin hok c26)) rfl rfl 7 (by decide) (xs_N h0 hW0 m_95) rfl rfl rfl rfl (Nat.le_of_ble_eq_true rfl) ((xe_uI dA (xB s0) (xuI (xuI σ 9 ((σ.1 0 0 6).toNatClampNeg) 5 k) 9 ((σ.1 0 0 6).toNatClampNeg) 6 wb) 9 ((σ.1 0 0 6).toNatClampNeg) 7 fr).trans rfl) (xe_oI dA (xB s0) (xuI (xuI σ 9 ((σ.1 0 0 6).toNatClampNeg) 5 k) 9 ((σ.1 0 0 6).toNatClampNeg) 6 wb) 9 ((σ.1 0 0 6).toNatClampNeg) 7 fr) d_LC_vehicle_65 (fun H locs hX hS => ?_)
          refine lv_aload hx hb d_LC_vehicle_68 (lv_at hl 0 rfl) ?_
          refine lv_iload hx hb d_LC_vehicle_70 (lv_at hl 5 rfl) ?_
          refine xw_putN (C := R_VE) (T := F_VE) (N := 13) (r := 9) (i := (σ.1 0 0 6).toNatClampNeg) (ent' := XE dA (xB s0) (xuI (xuI (xuI (xuI σ 9 ((σ.1 0 0 6).toNatClampNeg) 5 k) 9 ((σ.1 0 0 6).toNatClampNeg) 6 wb) 9 ((σ.1 0 0 6).toNatClampNeg) 7 fr) 9 ((σ.1 0 0 6).toNatClampNeg) 8 re)) hx hb hts hi_VE t_VE t_VE_ok n_VE hown hK xInj hX hS (xA_in _ _ _) (vp_lt (o_vcin hok c26)) rfl rfl 8 (by decide) (xs_N h0 hW0 m_97) rfl rfl rfl rfl (Nat.le_of_ble_eq_true rfl) ((xe_uI dA (xB s0) (xuI (xuI (xuI σ 9 ((σ.1 0 0 6).toNatClampNeg) 5 k) 9 ((σ.1 0 0 6).toNatClampNeg) 6 wb) 9 ((σ.1 0 0 6).toNatClampNeg) 7 fr) 9 ((σ.1 0 0 6).toNatClampNeg) 8 re).trans rfl) (xe_oI dA (xB s0) (xuI (xuI (xuI σ 9 ((σ.1 0 0 6).toNatClampNeg) 5 k) 9 ((σ.1 0 0 6).toNatClampNeg) 6 wb) 9 ((σ.1 0 0 6).toNatClampNeg) 7 fr) 9 ((σ.1 0 0 6).toNatClampNeg) 8 re) d_LC_vehicle_72 (fun H locs hX hS => ?_)
          refine lv_aload_n hx hb d_LC_vehicle_75 rfl (lv_at hl 1 rfl) ?_
          refine lv_dup hx hb d_LC_vehicle_76 rfl ?_
          refine xw_get (C := R_LC) (T := F_LC) (N := 9) (r := 0) (i := 0) hx hb hts hi_LC hown hK hX (by decide) rfl rfl 6 (by decide) (hts _ w_139) rfl rfl d_LC_vehicle_77 ?_
          refine lv_iconst (v := 1) hx hb d_LC_vehicle_80 (by decide) ?_
          refine lv_iadd hx hb d_LC_vehicle_81 ?_
          refine xw_put (C := R_LC) (T := F_LC) (N := 9) (r := 0) (i := 0) (ent' := XE dA (xB s0) (xuI (xuI (xuI (xuI (xuI σ 9 ((σ.1 0 0 6).toNatClampNeg) 5 k) 9 ((σ.1 0 0 6).toNatClampNeg) 6 wb) 9 ((σ.1 0 0 6).toNatClampNeg) 7 fr) 9 ((σ.1 0 0 6).toNatClampNeg) 8 re) 0 0 6 (((xuI (xuI (xuI (xuI σ 9 ((σ.1 0 0 6).toNatClampNeg) 5 k) 9 ((σ.1 0 0 6).toNatClampNeg) 6 wb) 9 ((σ.1 0 0 6).toNatClampNeg) 7 fr) 9 ((σ.1 0 0 6).toNatClampNeg) 8 re).1 0 0 6) + (1 : Int32)))) hx hb hts hi_LC t_LC t_LC_ok n_LC hown hK xInj hX hS (xA_in _ _ _) (by decide) rfl rfl 6 (by decide) (hts _ w_139) rfl rfl rfl rfl (Nat.le_of_ble_eq_true rfl) ((xe_uI dA (xB s0) (xuI (xuI (xuI (xuI σ 9 ((σ.1 0 0 6).toNatClampNeg) 5 k) 9 ((σ.1 0 0 6).toNatClampNeg) 6 wb) 9 ((σ.1 0 0 6).toNatClampNeg) 7 fr) 9 ((σ.1 0 0 6).toNatClampNeg) 8 re) 0 0 6 (((xuI (xuI (xuI (xuI σ 9 ((σ.1 0 0 6).toNatClampNeg) 5 k) 9 ((σ.1 0 0 6).toNatClampNeg) 6 wb) 9 ((σ.1 0 0 6).toNatClampNeg) 7 fr) 9 ((σ.1 0 0 6).toNatClampNeg) 8 re).1 0 0 6) + (1 : Int32))).trans rfl) (xe_oI dA (xB s0) (xuI (xuI (xuI (xuI σ 9 ((σ.1 0 0 6).toNatClampNeg) 5 k) 9 ((σ.1 0 0 6).toNatClampNeg) 6 wb) 9 ((σ.1 0 0 6).toNatClampNeg) 7 fr) 9 ((σ.1 0 0 6).toNatClampNeg) 8 re) 0 0 6 (((xuI (xuI (xuI (xuI σ 9 ((σ.1 0 0 6).toNatClampNeg) 5 k) 9 ((σ.1 0 0 6).toNatClampNeg) 6 wb) 9 ((σ.1 0 0 6).toNatClampNeg) 7 fr) 9 ((σ.1 0 0 6).toNatClampNeg) 8 re).1 0 0 6) + (1 : Int32))) d_LC_vehicle_82 (fun H locs hX hS => ?_)
          refine lv_aload_n hx hb d_LC_vehicle_85 rfl (lv_at hl 1 rfl) ?_
          refine xw_get (C := R_LC) (T := F_LC) (N := 9) (r := 0) (i := 0) hx hb hts hi_LC hown hK hX (by decide) rfl rfl 6 (by decide) (hts _ w_139) rfl rfl d_LC_vehicle_86 ?_
          refine lv_iconst (v := 1) hx hb d_LC_vehicle_89 (by decide) ?_
          refine lv_isub hx hb d_LC_vehicle_90 ?_
          subst hR
          refine W.widen (k := 5) (n := 30) (by decide) (by decide) ?_; exact xs_i hx hb hr hlocks hX hS d_LC_vehicle_91
        · rw [if_neg c26] at hR
          obtain ⟨qs, hqs⟩ := xs_str h0 hW0 (own := "LoadChecks") (k := 56) (tx := "no room for one more vehicle") (by decide +kernel); subst hR; refine W.widen (k := 4) (n := 24) (by decide) (by decide) ?_; exact x_throw hx hb h0.1 hown hlocks hnt (hl.1.trans hml.symm) (hts _ w_267) (hts _ w_44) hqs (x_own hO rfl (oa_UOE h0)) (by decide +kernel) (by decide +kernel) d_LC_vehicle_29 d_LC_vehicle_32 d_LC_vehicle_33 d_LC_vehicle_35 d_LC_vehicle_38 (Nat.le_of_ble_eq_true rfl) (Nat.le_of_ble_eq_true rfl) (Nat.le_of_ble_eq_true rfl) (Nat.le_of_ble_eq_true rfl) (fun x t h1 h2 => Or.inr ⟨_, x, rfl, rfl, h1, h2⟩)
      · rw [hM17] at hR
        dsimp only [xbp] at hR
        subst hR
        refine xt_wid (k := 5) (n := 30) (by decide) (by decide) ?_
        exact xt_s hlocks hnt hE17 he17 (fun q h => by cases h)
    · rw [hM11] at hR
      dsimp only [xbp] at hR
      subst hR
      refine xt_wid (k := 5) (n := 30) (by decide) (by decide) ?_
      exact xt_s hlocks hnt hE11 he11 (fun q h => by cases h)
  · rw [hM1] at hR
    dsimp only [xbp] at hR
    subst hR
    refine xt_wid (k := 5) (n := 30) (by decide) (by decide) ?_
    exact xt_s hlocks hnt hE1 he1 (fun q h => by cases h)

abbrev rm_LC_limits : Room := { frames := 8, cells := 3, slots := 18, locals := 125 }
def S_LC_limits (σ : XS) (v : Int32) (fr : Int32) (re : Int32) : (Unit × XS) ⊕ String := (xbp (S_LC_knownVehicle σ v) fun v2 => (xbp (S_LC_requireLimits σ fr re) fun _ => .inl ((), (xuI (xuI σ 9 v2 7 fr) 9 v2 8 re))))
set_option maxHeartbeats 4000000 in
set_option maxRecDepth 100000 in
theorem c_LC_limits {l : Launch} {s0 : State} {A0 : Array Value} {D : va_G} {dA : Nat → ClassId} (h0 : XS0 l s0 A0 D dA) (σ : XS) (v : Int32) (fr : Int32) (re : Int32) (hok : XOk σ) : XMet l y_LC_limits [cw_LC_limits] rm_LC_limits (XP D dA s0 σ [.ref (xB s0 + XA 0 0), .int v, .int fr, .int re]) (XQs D dA s0 xv_v (S_LC_limits σ v fr re)) 3 18 (xAm s0) := by
  refine XMet.ofW (cc := b_LC_limits) (maxL := 5) (ret := none) (by decide) rfl ?_
  intro p e s m args below meth c s₁ Bd hml hv
  obtain ⟨rfl, hX, hO⟩ := hv
  have hx := Bd.exec
  have hb := Bd.bytes
  have hr := Bd.returns
  have hown : s.vm.findClass "LoadChecks" = some m.cls := findClass_of_methodNamed Bd.named
  have hlocks := Bd.notSynchronized
  have hnt : c.exceptionTable.isEmpty = true := Bd.noHandlers (atoms_spec (ws := [cw_LC_limits]) Bd.pre _ List.mem_cons_self)
  have hW0 := hO.1
  have hts := xs_w (args := ([.ref (xB s0 + XA 0 0), .int v, .int fr, .int re] : List Value).toArray) h0 hW0
  have hK := xs_K h0 hW0
  have hS := xo_S0 hO
  have hl := lv_entry ([.ref (xB s0 + XA 0 0), .int v, .int fr, .int re]) (n := 5) (Nat.le_of_ble_eq_true rfl)
  rw [lg_entry_eq]
  generalize (lg_sl ([.ref (xB s0 + XA 0 0), .int v, .int fr, .int re]) ++ List.replicate (5 - (lg_sl ([.ref (xB s0 + XA 0 0), .int v, .int fr, .int re])).length) Slot.unset).toArray = ls at hl ⊢
  have hl : lv_has ls 5 [(0, .ref (xB s0 + XA 0 0)), (1, .int v), (2, .int fr), (3, .int re)] := hl
  generalize hR : S_LC_limits σ v fr re = res
  unfold S_LC_limits at hR
  refine lv_aload_n hx hb d_LC_limits_0 rfl (lv_at hl 0 rfl) ?_
  refine lv_iload_n hx hb d_LC_limits_1 rfl (lv_at hl 1 rfl) ?_
  obtain ⟨cB2, hcB2, hoB2, hkB2⟩ := xw_recv (r := 0) (i := 0) hK hX (by decide) rfl rfl
  refine xc_p (rest := []) (x_invV (argsL := [.int v]) hx hb hown (hts _ w_290) (hts _ w_292) (hts _ w_1) (x_code (hts _ w_293)) ⟨by decide, by decide⟩ hcB2 hoB2 hkB2 rfl rfl rfl d_LC_limits_2) (c_LC_knownVehicle h0 σ v hok) (xs_cw h0 hW0 m_293) (hts _ w_34) ⟨rfl, rfl, Nat.le_of_ble_eq_true rfl, Nat.le_of_ble_eq_true rfl⟩ (hl.1.trans hml.symm) (by rw [hb]; exact d_LC_limits_2) (Nat.le_of_ble_eq_true rfl) ⟨Nat.le_of_ble_eq_true rfl, Nat.le_of_ble_eq_true rfl⟩ hX ⟨hW0, xo_S hS⟩ (fun v2 hM2 => ?_) (fun E2 x2 H2 hM2 hE2 he2 => ?_)
  · rw [hM2] at hR
    dsimp only [xbp] at hR
    have f2 := f_known hok hM2
    refine lv_astore (lv' := [(4, .ref (xB s0 + XA 9 v2)), (0, .ref (xB s0 + XA 0 0)), (1, .int v), (2, .int fr), (3, .int re)]) hx hb d_LC_limits_5 hl (by decide) rfl (fun ls hl => ?_)
    refine lv_iload_n hx hb d_LC_limits_7 rfl (lv_at hl 3 rfl) ?_
    refine lv_iload_n hx hb d_LC_limits_8 rfl (lv_at hl 4 rfl) ?_
    refine xc_p (rest := []) (x_invS (argsL := [.int fr, .int re]) hx hb hown (hts _ w_263) (hts _ w_264) (hts _ w_34) (x_code (hts _ w_265)) ⟨by decide, by decide⟩ rfl rfl rfl d_LC_limits_9) (c_LC_requireLimits h0 σ fr re) (xs_cw h0 hW0 m_265) (hts _ w_34) ⟨rfl, rfl, Nat.le_of_ble_eq_true rfl, Nat.le_of_ble_eq_true rfl⟩ (hl.1.trans hml.symm) (by rw [hb]; exact d_LC_limits_9) (Nat.le_of_ble_eq_true rfl) ⟨Nat.le_of_ble_eq_true rfl, Nat.le_of_ble_eq_true rfl⟩ hX ⟨hW0, xo_S hS⟩ (fun v9 hM9 => ?_) (fun E9 x9 H9 hM9 hE9 he9 => ?_)
    · rw [hM9] at hR
      dsimp only [xbp] at hR
      refine lv_aload hx hb d_LC_limits_12 (lv_at hl 0 rfl) ?_
      refine lv_iload_n hx hb d_LC_limits_14 rfl (lv_at hl 3 rfl) ?_
      refine xw_putN (C := R_VE) (T := F_VE) (N := 13) (r := 9) (i := v2) (ent' := XE dA (xB s0) (xuI σ 9 v2 7 fr)) hx hb hts hi_VE t_VE t_VE_ok n_VE hown hK xInj hX hS (xA_in _ _ _) f2 rfl rfl 7 (by decide) (xs_N h0 hW0 m_95) rfl rfl rfl rfl (Nat.le_of_ble_eq_true rfl) ((xe_uI dA (xB s0) σ 9 v2 7 fr).trans rfl) (xe_oI dA (xB s0) σ 9 v2 7 fr) d_LC_limits_15 (fun H locs hX hS => ?_)
      refine lv_aload hx hb d_LC_limits_18 (lv_at hl 0 rfl) ?_
      refine lv_iload_n hx hb d_LC_limits_20 rfl (lv_at hl 4 rfl) ?_
      refine xw_putN (C := R_VE) (T := F_VE) (N := 13) (r := 9) (i := v2) (ent' := XE dA (xB s0) (xuI (xuI σ 9 v2 7 fr) 9 v2 8 re)) hx hb hts hi_VE t_VE t_VE_ok n_VE hown hK xInj hX hS (xA_in _ _ _) f2 rfl rfl 8 (by decide) (xs_N h0 hW0 m_97) rfl rfl rfl rfl (Nat.le_of_ble_eq_true rfl) ((xe_uI dA (xB s0) (xuI σ 9 v2 7 fr) 9 v2 8 re).trans rfl) (xe_oI dA (xB s0) (xuI σ 9 v2 7 fr) 9 v2 8 re) d_LC_limits_21 (fun H locs hX hS => ?_)
      subst hR
      refine W.widen (k := 3) (n := 18) (by decide) (by decide) ?_; exact xs_v hx hb hr hlocks hX hS d_LC_limits_24
    · rw [hM9] at hR
      dsimp only [xbp] at hR
      subst hR
      refine xt_wid (k := 3) (n := 18) (by decide) (by decide) ?_
      exact xt_s hlocks hnt hE9 he9 (fun q h => by cases h)
  · rw [hM2] at hR
    dsimp only [xbp] at hR
    subst hR
    refine xt_wid (k := 3) (n := 18) (by decide) (by decide) ?_
    exact xt_s hlocks hnt hE2 he2 (fun q h => by cases h)

abbrev rm_LC_place : Room := { frames := 7, cells := 4, slots := 24, locals := 104 }
def S_LC_place (σ : XS) (v : Int32) (cup : Int32) (mm : Int32) : (Unit × XS) ⊕ String := (xbp (S_LC_knownVehicle σ v) fun v2 => (xbp (S_LC_requireCupboard σ cup) fun _ => (xbp (S_LC_requireRange σ mm (-2000 : Int32) (10000 : Int32)) fun _ => (if (S_VE_isEmpty σ v2 cup) = 0 then .inr "java/lang/IllegalStateException" else .inl ((), (xuI σ 10 v2 cup.toNatClampNeg mm))))))
set_option maxHeartbeats 4000000 in
set_option maxRecDepth 100000 in
theorem c_LC_place {l : Launch} {s0 : State} {A0 : Array Value} {D : va_G} {dA : Nat → ClassId} (h0 : XS0 l s0 A0 D dA) (σ : XS) (v : Int32) (cup : Int32) (mm : Int32) (hok : XOk σ) : XMet l y_LC_place [cw_LC_place] rm_LC_place (XP D dA s0 σ [.ref (xB s0 + XA 0 0), .int v, .int cup, .int mm]) (XQs D dA s0 xv_v (S_LC_place σ v cup mm)) 4 24 (xAm s0) := by
  refine XMet.ofW (cc := b_LC_place) (maxL := 5) (ret := none) (by decide) rfl ?_
  intro p e s m args below meth c s₁ Bd hml hv
  obtain ⟨rfl, hX, hO⟩ := hv
  have hx := Bd.exec
  have hb := Bd.bytes
  have hr := Bd.returns
  have hown : s.vm.findClass "LoadChecks" = some m.cls := findClass_of_methodNamed Bd.named
  have hlocks := Bd.notSynchronized
  have hnt : c.exceptionTable.isEmpty = true := Bd.noHandlers (atoms_spec (ws := [cw_LC_place]) Bd.pre _ List.mem_cons_self)
  have hW0 := hO.1
  have hts := xs_w (args := ([.ref (xB s0 + XA 0 0), .int v, .int cup, .int mm] : List Value).toArray) h0 hW0
  have hK := xs_K h0 hW0
  have hS := xo_S0 hO
  have hl := lv_entry ([.ref (xB s0 + XA 0 0), .int v, .int cup, .int mm]) (n := 5) (Nat.le_of_ble_eq_true rfl)
  rw [lg_entry_eq]
  generalize (lg_sl ([.ref (xB s0 + XA 0 0), .int v, .int cup, .int mm]) ++ List.replicate (5 - (lg_sl ([.ref (xB s0 + XA 0 0), .int v, .int cup, .int mm])).length) Slot.unset).toArray = ls at hl ⊢
  have hl : lv_has ls 5 [(0, .ref (xB s0 + XA 0 0)), (1, .int v), (2, .int cup), (3, .int mm)] := hl
  generalize hR : S_LC_place σ v cup mm = res
  unfold S_LC_place at hR
  refine lv_aload_n hx hb d_LC_place_0 rfl (lv_at hl 0 rfl) ?_
  refine lv_iload_n hx hb d_LC_place_1 rfl (lv_at hl 1 rfl) ?_
  obtain ⟨cB2, hcB2, hoB2, hkB2⟩ := xw_recv (r := 0) (i := 0) hK hX (by decide) rfl rfl
  refine xc_p (rest := []) (x_invV (argsL := [.int v]) hx hb hown (hts _ w_290) (hts _ w_292) (hts _ w_1) (x_code (hts _ w_293)) ⟨by decide, by decide⟩ hcB2 hoB2 hkB2 rfl rfl rfl d_LC_place_2) (c_LC_knownVehicle h0 σ v hok) (xs_cw h0 hW0 m_293) (hts _ w_34) ⟨rfl, rfl, Nat.le_of_ble_eq_true rfl, Nat.le_of_ble_eq_true rfl⟩ (hl.1.trans hml.symm) (by rw [hb]; exact d_LC_place_2) (Nat.le_of_ble_eq_true rfl) ⟨Nat.le_of_ble_eq_true rfl, Nat.le_of_ble_eq_true rfl⟩ hX ⟨hW0, xo_S hS⟩ (fun v2 hM2 => ?_) (fun E2 x2 H2 hM2 hE2 he2 => ?_)
  · rw [hM2] at hR
    dsimp only [xbp] at hR
    have f2 := f_known hok hM2
    refine lv_astore (lv' := [(4, .ref (xB s0 + XA 9 v2)), (0, .ref (xB s0 + XA 0 0)), (1, .int v), (2, .int cup), (3, .int mm)]) hx hb d_LC_place_5 hl (by decide) rfl (fun ls hl => ?_)
    refine lv_iload_n hx hb d_LC_place_7 rfl (lv_at hl 3 rfl) ?_
    refine xc_p (rest := []) (x_invS (argsL := [.int cup]) hx hb hown (hts _ w_303) (hts _ w_304) (hts _ w_34) (x_code (hts _ w_305)) ⟨by decide, by decide⟩ rfl rfl rfl d_LC_place_8) (c_LC_requireCupboard h0 σ cup) (xs_cw h0 hW0 m_305) (hts _ w_34) ⟨rfl, rfl, Nat.le_of_ble_eq_true rfl, Nat.le_of_ble_eq_true rfl⟩ (hl.1.trans hml.symm) (by rw [hb]; exact d_LC_place_8) (Nat.le_of_ble_eq_true rfl) ⟨Nat.le_of_ble_eq_true rfl, Nat.le_of_ble_eq_true rfl⟩ hX ⟨hW0, xo_S hS⟩ (fun v8 hM8 => ?_) (fun E8 x8 H8 hM8 hE8 he8 => ?_)
    · rw [hM8] at hR
      dsimp only [xbp] at hR
      have f8 := f_cup hM8
      refine lv_iload_n hx hb d_LC_place_11 rfl (lv_at hl 4 rfl) ?_
      refine lv_sipush (v := -2000) hx hb d_LC_place_12 (by decide) ?_
      refine lv_sipush (v := 10000) hx hb d_LC_place_15 (by decide) ?_
      refine xc_p (rest := []) (x_invS (argsL := [.int mm, .int (-2000 : Int32), .int (10000 : Int32)]) hx hb hown (hts _ w_244) (hts _ w_245) (hts _ w_34) (x_code (hts _ w_246)) ⟨by decide, by decide⟩ rfl rfl rfl d_LC_place_18) (c_LC_requireRange h0 σ mm (-2000 : Int32) (10000 : Int32)) (xs_cw h0 hW0 m_246) (hts _ w_34) ⟨rfl, rfl, Nat.le_of_ble_eq_true rfl, Nat.le_of_ble_eq_true rfl⟩ (hl.1.trans hml.symm) (by rw [hb]; exact d_LC_place_18) (Nat.le_of_ble_eq_true rfl) ⟨Nat.le_of_ble_eq_true rfl, Nat.le_of_ble_eq_true rfl⟩ hX ⟨hW0, xo_S hS⟩ (fun v18 hM18 => ?_) (fun E18 x18 H18 hM18 hE18 he18 => ?_)
      · rw [hM18] at hR
        dsimp only [xbp] at hR
        refine lv_aload hx hb d_LC_place_21 (lv_at hl 0 rfl) ?_
        refine lv_iload_n hx hb d_LC_place_23 rfl (lv_at hl 3 rfl) ?_
        obtain ⟨cB24, hcB24, hoB24, hkB24⟩ := xw_recv (r := 9) (i := v2) hK hX f2 rfl rfl
        refine xc_f (rest := []) (x_invVN (argsL := [.int cup]) hx hb hown (xs_M h0 hW0 m_307) (hts _ w_309) (hts _ w_2) (x_code (hts _ w_310)) ⟨by decide, by decide⟩ hcB24 hoB24 hkB24 rfl rfl rfl d_LC_place_24) (c_VE_isEmpty h0 σ v2 cup f2 f8) (xs_cw h0 hW0 m_310) (hts _ w_36) ⟨rfl, rfl, Nat.le_of_ble_eq_true rfl, Nat.le_of_ble_eq_true rfl⟩ (hl.1.trans hml.symm) (by rw [hb]; exact d_LC_place_24) (Nat.le_of_ble_eq_true rfl) ⟨Nat.le_of_ble_eq_true rfl, Nat.le_of_ble_eq_true rfl⟩ hX ⟨hW0, xo_S hS⟩ ?_
        refine lv_if_ne (tgt := 40) hx hb d_LC_place_27 (by decide) (fun c27 => ?_) (fun c27 => ?_)
        · rw [if_neg c27] at hR
          refine lv_aload hx hb d_LC_place_40 (lv_at hl 0 rfl) ?_
          refine xw_getN (C := R_VE) (T := F_VE) (N := 13) (r := 9) (i := v2) hx hb hts hi_VE hown hK hX f2 rfl rfl 0 (by decide) (xs_N h0 hW0 m_83) rfl rfl d_LC_place_42 ?_
          refine lv_iload_n hx hb d_LC_place_45 rfl (lv_at hl 3 rfl) ?_
          refine lv_iload_n hx hb d_LC_place_46 rfl (lv_at hl 4 rfl) ?_
          refine xw_iast (r := 10) (i := v2) (ent' := XE dA (xB s0) (xuI σ 10 v2 cup.toNatClampNeg mm)) hx hb hK xInj hX hS (xA_in _ _ _) f2 0 rfl rfl (j := cup) f8 ((xe_uI dA (xB s0) σ 10 v2 cup.toNatClampNeg mm).trans rfl) (xe_oI dA (xB s0) σ 10 v2 cup.toNatClampNeg mm) d_LC_place_47 (fun H locs hX hS => ?_)
          subst hR
          refine W.widen (k := 4) (n := 24) (by decide) (by decide) ?_; exact xs_v hx hb hr hlocks hX hS d_LC_place_48
        · rw [if_pos c27] at hR
          obtain ⟨qs, hqs⟩ := xs_str h0 hW0 (own := "LoadChecks") (k := 86) (tx := "the cupboard is not empty") (by decide +kernel); subst hR; refine W.widen (k := 3) (n := 18) (by decide) (by decide) ?_; exact x_throw hx hb h0.1 hown hlocks hnt (hl.1.trans hml.symm) (hts _ w_314) (hts _ w_45) hqs (x_own hO rfl (oa_ISE h0)) (by decide +kernel) (by decide +kernel) d_LC_place_30 d_LC_place_33 d_LC_place_34 d_LC_place_36 d_LC_place_39 (Nat.le_of_ble_eq_true rfl) (Nat.le_of_ble_eq_true rfl) (Nat.le_of_ble_eq_true rfl) (Nat.le_of_ble_eq_true rfl) (fun x t h1 h2 => Or.inr ⟨_, x, rfl, rfl, h1, h2⟩)
      · rw [hM18] at hR
        dsimp only [xbp] at hR
        subst hR
        refine xt_wid (k := 4) (n := 24) (by decide) (by decide) ?_
        exact xt_s hlocks hnt hE18 he18 (fun q h => by cases h)
    · rw [hM8] at hR
      dsimp only [xbp] at hR
      subst hR
      refine xt_wid (k := 4) (n := 24) (by decide) (by decide) ?_
      exact xt_s hlocks hnt hE8 he8 (fun q h => by cases h)
  · rw [hM2] at hR
    dsimp only [xbp] at hR
    subst hR
    refine xt_wid (k := 4) (n := 24) (by decide) (by decide) ?_
    exact xt_s hlocks hnt hE2 he2 (fun q h => by cases h)

abbrev rm_LC_item : Room := { frames := 7, cells := 4, slots := 24, locals := 104 }
def S_LC_item (σ : XS) (it : Int32) (gr : Int32) (le : Int32) : (Unit × XS) ⊕ String := (xbp (S_LC_requireItem σ it) fun _ => (xbp (S_LC_requireRange σ gr (0 : Int32) (500000 : Int32)) fun _ => (xbp (S_LC_requireRange σ le (0 : Int32) (100 : Int32)) fun _ => (if gr = (σ.1 1 0 it.toNatClampNeg) then .inl ((), (xuI (xuI σ 1 0 it.toNatClampNeg gr) 2 0 it.toNatClampNeg le)) else (if (S_LC_isAnywhere σ it) = 0 then .inl ((), (xuI (xuI σ 1 0 it.toNatClampNeg gr) 2 0 it.toNatClampNeg le)) else .inr "java/lang/IllegalStateException")))))
set_option maxHeartbeats 4000000 in
set_option maxRecDepth 100000 in
theorem c_LC_item {l : Launch} {s0 : State} {A0 : Array Value} {D : va_G} {dA : Nat → ClassId} (h0 : XS0 l s0 A0 D dA) (σ : XS) (it : Int32) (gr : Int32) (le : Int32) (hok : XOk σ) : XMet l y_LC_item [cw_LC_item] rm_LC_item (XP D dA s0 σ [.ref (xB s0 + XA 0 0), .int it, .int gr, .int le]) (XQs D dA s0 xv_v (S_LC_item σ it gr le)) 4 24 (xAm s0) := by
  refine XMet.ofW (cc := b_LC_item) (maxL := 4) (ret := none) (by decide) rfl ?_
  intro p e s m args below meth c s₁ Bd hml hv
  obtain ⟨rfl, hX, hO⟩ := hv
  have hx := Bd.exec
  have hb := Bd.bytes
  have hr := Bd.returns
  have hown : s.vm.findClass "LoadChecks" = some m.cls := findClass_of_methodNamed Bd.named
  have hlocks := Bd.notSynchronized
  have hnt : c.exceptionTable.isEmpty = true := Bd.noHandlers (atoms_spec (ws := [cw_LC_item]) Bd.pre _ List.mem_cons_self)
  have hW0 := hO.1
  have hts := xs_w (args := ([.ref (xB s0 + XA 0 0), .int it, .int gr, .int le] : List Value).toArray) h0 hW0
  have hK := xs_K h0 hW0
  have hS := xo_S0 hO
  have hl := lv_entry ([.ref (xB s0 + XA 0 0), .int it, .int gr, .int le]) (n := 4) (Nat.le_of_ble_eq_true rfl)
  rw [lg_entry_eq]
  generalize (lg_sl ([.ref (xB s0 + XA 0 0), .int it, .int gr, .int le]) ++ List.replicate (4 - (lg_sl ([.ref (xB s0 + XA 0 0), .int it, .int gr, .int le])).length) Slot.unset).toArray = ls at hl ⊢
  have hl : lv_has ls 4 [(0, .ref (xB s0 + XA 0 0)), (1, .int it), (2, .int gr), (3, .int le)] := hl
  generalize hR : S_LC_item σ it gr le = res
  unfold S_LC_item at hR
  refine lv_iload_n hx hb d_LC_item_0 rfl (lv_at hl 1 rfl) ?_
  refine xc_p (rest := []) (x_invS (argsL := [.int it]) hx hb hown (hts _ w_337) (hts _ w_338) (hts _ w_34) (x_code (hts _ w_339)) ⟨by decide, by decide⟩ rfl rfl rfl d_LC_item_1) (c_LC_requireItem h0 σ it) (xs_cw h0 hW0 m_339) (hts _ w_34) ⟨rfl, rfl, Nat.le_of_ble_eq_true rfl, Nat.le_of_ble_eq_true rfl⟩ (hl.1.trans hml.symm) (by rw [hb]; exact d_LC_item_1) (Nat.le_of_ble_eq_true rfl) ⟨Nat.le_of_ble_eq_true rfl, Nat.le_of_ble_eq_true rfl⟩ hX ⟨hW0, xo_S hS⟩ (fun v1 hM1 => ?_) (fun E1 x1 H1 hM1 hE1 he1 => ?_)
  · rw [hM1] at hR
    dsimp only [xbp] at hR
    have f1 := f_item hM1
    refine lv_iload_n hx hb d_LC_item_4 rfl (lv_at hl 2 rfl) ?_
    refine lv_iconst (v := 0) hx hb d_LC_item_5 (by decide) ?_
    refine lv_ldc (v := 500000) hx hb hown (hts _ w_341) d_LC_item_6 ?_
    refine xc_p (rest := []) (x_invS (argsL := [.int gr, .int (0 : Int32), .int (500000 : Int32)]) hx hb hown (hts _ w_244) (hts _ w_245) (hts _ w_34) (x_code (hts _ w_246)) ⟨by decide, by decide⟩ rfl rfl rfl d_LC_item_8) (c_LC_requireRange h0 σ gr (0 : Int32) (500000 : Int32)) (xs_cw h0 hW0 m_246) (hts _ w_34) ⟨rfl, rfl, Nat.le_of_ble_eq_true rfl, Nat.le_of_ble_eq_true rfl⟩ (hl.1.trans hml.symm) (by rw [hb]; exact d_LC_item_8) (Nat.le_of_ble_eq_true rfl) ⟨Nat.le_of_ble_eq_true rfl, Nat.le_of_ble_eq_true rfl⟩ hX ⟨hW0, xo_S hS⟩ (fun v8 hM8 => ?_) (fun E8 x8 H8 hM8 hE8 he8 => ?_)
    · rw [hM8] at hR
      dsimp only [xbp] at hR
      refine lv_iload_n hx hb d_LC_item_11 rfl (lv_at hl 3 rfl) ?_
      refine lv_iconst (v := 0) hx hb d_LC_item_12 (by decide) ?_
      refine lv_bipush (v := 100) hx hb d_LC_item_13 (by decide) ?_
      refine xc_p (rest := []) (x_invS (argsL := [.int le, .int (0 : Int32), .int (100 : Int32)]) hx hb hown (hts _ w_244) (hts _ w_245) (hts _ w_34) (x_code (hts _ w_246)) ⟨by decide, by decide⟩ rfl rfl rfl d_LC_item_15) (c_LC_requireRange h0 σ le (0 : Int32) (100 : Int32)) (xs_cw h0 hW0 m_246) (hts _ w_34) ⟨rfl, rfl, Nat.le_of_ble_eq_true rfl, Nat.le_of_ble_eq_true rfl⟩ (hl.1.trans hml.symm) (by rw [hb]; exact d_LC_item_15) (Nat.le_of_ble_eq_true rfl) ⟨Nat.le_of_ble_eq_true rfl, Nat.le_of_ble_eq_true rfl⟩ hX ⟨hW0, xo_S hS⟩ (fun v15 hM15 => ?_) (fun E15 x15 H15 hM15 hE15 he15 => ?_)
      · rw [hM15] at hR
        dsimp only [xbp] at hR
        refine lv_iload_n hx hb d_LC_item_18 rfl (lv_at hl 2 rfl) ?_
        refine lv_aload_n hx hb d_LC_item_19 rfl (lv_at hl 0 rfl) ?_
        refine xw_get (C := R_LC) (T := F_LC) (N := 9) (r := 0) (i := 0) hx hb hts hi_LC hown hK hX (by decide) rfl rfl 0 (by decide) (hts _ w_133) rfl rfl d_LC_item_20 ?_
        refine lv_iload_n hx hb d_LC_item_23 rfl (lv_at hl 1 rfl) ?_
        refine xw_iald (r := 1) (i := 0) hx hb hK hX (by decide) 0 rfl rfl (j := it) f1 d_LC_item_24 ?_
        refine lv_icmp_eq (tgt := 46) hx hb d_LC_item_25 (by decide) (fun c25 => ?_) (fun c25 => ?_)
        · rw [if_pos c25] at hR
          refine lv_aload_n hx hb d_LC_item_46 rfl (lv_at hl 0 rfl) ?_
          refine xw_get (C := R_LC) (T := F_LC) (N := 9) (r := 0) (i := 0) hx hb hts hi_LC hown hK hX (by decide) rfl rfl 0 (by decide) (hts _ w_133) rfl rfl d_LC_item_47 ?_
          refine lv_iload_n hx hb d_LC_item_50 rfl (lv_at hl 1 rfl) ?_
          refine lv_iload_n hx hb d_LC_item_51 rfl (lv_at hl 2 rfl) ?_
          refine xw_iast (r := 1) (i := 0) (ent' := XE dA (xB s0) (xuI σ 1 0 it.toNatClampNeg gr)) hx hb hK xInj hX hS (xA_in _ _ _) (by decide) 0 rfl rfl (j := it) f1 ((xe_uI dA (xB s0) σ 1 0 it.toNatClampNeg gr).trans rfl) (xe_oI dA (xB s0) σ 1 0 it.toNatClampNeg gr) d_LC_item_52 (fun H locs hX hS => ?_)
          refine lv_aload_n hx hb d_LC_item_53 rfl (lv_at hl 0 rfl) ?_
          refine xw_get (C := R_LC) (T := F_LC) (N := 9) (r := 0) (i := 0) hx hb hts hi_LC hown hK hX (by decide) rfl rfl 1 (by decide) (hts _ w_134) rfl rfl d_LC_item_54 ?_
          refine lv_iload_n hx hb d_LC_item_57 rfl (lv_at hl 1 rfl) ?_
          refine lv_iload_n hx hb d_LC_item_58 rfl (lv_at hl 3 rfl) ?_
          refine xw_iast (r := 2) (i := 0) (ent' := XE dA (xB s0) (xuI (xuI σ 1 0 it.toNatClampNeg gr) 2 0 it.toNatClampNeg le)) hx hb hK xInj hX hS (xA_in _ _ _) (by decide) 0 rfl rfl (j := it) f1 ((xe_uI dA (xB s0) (xuI σ 1 0 it.toNatClampNeg gr) 2 0 it.toNatClampNeg le).trans rfl) (xe_oI dA (xB s0) (xuI σ 1 0 it.toNatClampNeg gr) 2 0 it.toNatClampNeg le) d_LC_item_59 (fun H locs hX hS => ?_)
          subst hR
          refine W.widen (k := 4) (n := 24) (by decide) (by decide) ?_; exact xs_v hx hb hr hlocks hX hS d_LC_item_60
        · rw [if_neg c25] at hR
          refine lv_aload_n hx hb d_LC_item_28 rfl (lv_at hl 0 rfl) ?_
          refine lv_iload_n hx hb d_LC_item_29 rfl (lv_at hl 1 rfl) ?_
          obtain ⟨cB30, hcB30, hoB30, hkB30⟩ := xw_recv (r := 0) (i := 0) hK hX (by decide) rfl rfl
          refine xc_f (rest := []) (x_invV (argsL := [.int it]) hx hb hown (hts _ w_342) (hts _ w_344) (hts _ w_3) (x_code (hts _ w_345)) ⟨by decide, by decide⟩ hcB30 hoB30 hkB30 rfl rfl rfl d_LC_item_30) (c_LC_isAnywhere h0 σ it hok f1) (xs_cw h0 hW0 m_345) (hts _ w_34) ⟨rfl, rfl, Nat.le_of_ble_eq_true rfl, Nat.le_of_ble_eq_true rfl⟩ (hl.1.trans hml.symm) (by rw [hb]; exact d_LC_item_30) (Nat.le_of_ble_eq_true rfl) ⟨Nat.le_of_ble_eq_true rfl, Nat.le_of_ble_eq_true rfl⟩ hX ⟨hW0, xo_S hS⟩ ?_
          refine lv_if_eq (tgt := 46) hx hb d_LC_item_33 (by decide) (fun c33 => ?_) (fun c33 => ?_)
          · rw [if_pos c33] at hR
            refine lv_aload_n hx hb d_LC_item_46 rfl (lv_at hl 0 rfl) ?_
            refine xw_get (C := R_LC) (T := F_LC) (N := 9) (r := 0) (i := 0) hx hb hts hi_LC hown hK hX (by decide) rfl rfl 0 (by decide) (hts _ w_133) rfl rfl d_LC_item_47 ?_
            refine lv_iload_n hx hb d_LC_item_50 rfl (lv_at hl 1 rfl) ?_
            refine lv_iload_n hx hb d_LC_item_51 rfl (lv_at hl 2 rfl) ?_
            refine xw_iast (r := 1) (i := 0) (ent' := XE dA (xB s0) (xuI σ 1 0 it.toNatClampNeg gr)) hx hb hK xInj hX hS (xA_in _ _ _) (by decide) 0 rfl rfl (j := it) f1 ((xe_uI dA (xB s0) σ 1 0 it.toNatClampNeg gr).trans rfl) (xe_oI dA (xB s0) σ 1 0 it.toNatClampNeg gr) d_LC_item_52 (fun H locs hX hS => ?_)
            refine lv_aload_n hx hb d_LC_item_53 rfl (lv_at hl 0 rfl) ?_
            refine xw_get (C := R_LC) (T := F_LC) (N := 9) (r := 0) (i := 0) hx hb hts hi_LC hown hK hX (by decide) rfl rfl 1 (by decide) (hts _ w_134) rfl rfl d_LC_item_54 ?_
            refine lv_iload_n hx hb d_LC_item_57 rfl (lv_at hl 1 rfl) ?_
            refine lv_iload_n hx hb d_LC_item_58 rfl (lv_at hl 3 rfl) ?_
            refine xw_iast (r := 2) (i := 0) (ent' := XE dA (xB s0) (xuI (xuI σ 1 0 it.toNatClampNeg gr) 2 0 it.toNatClampNeg le)) hx hb hK xInj hX hS (xA_in _ _ _) (by decide) 0 rfl rfl (j := it) f1 ((xe_uI dA (xB s0) (xuI σ 1 0 it.toNatClampNeg gr) 2 0 it.toNatClampNeg le).trans rfl) (xe_oI dA (xB s0) (xuI σ 1 0 it.toNatClampNeg gr) 2 0 it.toNatClampNeg le) d_LC_item_59 (fun H locs hX hS => ?_)
            subst hR
            refine W.widen (k := 4) (n := 24) (by decide) (by decide) ?_; exact xs_v hx hb hr hlocks hX hS d_LC_item_60
          · rw [if_neg c33] at hR
            obtain ⟨qs, hqs⟩ := xs_str h0 hW0 (own := "LoadChecks") (k := 99) (tx := "a vehicle or the stock has some of the old weight") (by decide +kernel); subst hR; refine W.widen (k := 3) (n := 18) (by decide) (by decide) ?_; exact x_throw hx hb h0.1 hown hlocks hnt (hl.1.trans hml.symm) (hts _ w_314) (hts _ w_45) hqs (x_own hO rfl (oa_ISE h0)) (by decide +kernel) (by decide +kernel) d_LC_item_36 d_LC_item_39 d_LC_item_40 d_LC_item_42 d_LC_item_45 (Nat.le_of_ble_eq_true rfl) (Nat.le_of_ble_eq_true rfl) (Nat.le_of_ble_eq_true rfl) (Nat.le_of_ble_eq_true rfl) (fun x t h1 h2 => Or.inr ⟨_, x, rfl, rfl, h1, h2⟩)
      · rw [hM15] at hR
        dsimp only [xbp] at hR
        subst hR
        refine xt_wid (k := 4) (n := 24) (by decide) (by decide) ?_
        exact xt_s hlocks hnt hE15 he15 (fun q h => by cases h)
    · rw [hM8] at hR
      dsimp only [xbp] at hR
      subst hR
      refine xt_wid (k := 4) (n := 24) (by decide) (by decide) ?_
      exact xt_s hlocks hnt hE8 he8 (fun q h => by cases h)
  · rw [hM1] at hR
    dsimp only [xbp] at hR
    subst hR
    refine xt_wid (k := 4) (n := 24) (by decide) (by decide) ?_
    exact xt_s hlocks hnt hE1 he1 (fun q h => by cases h)

abbrev rm_LC_list : Room := { frames := 7, cells := 4, slots := 24, locals := 104 }
def S_LC_list (σ : XS) (k : Int32) (cup : Int32) (it : Int32) (n : Int32) : (Unit × XS) ⊕ String := (xbp (S_LC_requireKind σ k) fun _ => (xbp (S_LC_requireCupboard σ cup) fun _ => (xbp (S_LC_requireItem σ it) fun _ => (xbp (S_LC_requireRange σ n (0 : Int32) (99 : Int32)) fun _ => .inl ((), (xuI σ 5 k.toNatClampNeg (S_LC_cellOf σ cup it).toNatClampNeg n))))))
set_option maxHeartbeats 4000000 in
set_option maxRecDepth 100000 in
theorem c_LC_list {l : Launch} {s0 : State} {A0 : Array Value} {D : va_G} {dA : Nat → ClassId} (h0 : XS0 l s0 A0 D dA) (σ : XS) (k : Int32) (cup : Int32) (it : Int32) (n : Int32)  : XMet l y_LC_list [cw_LC_list] rm_LC_list (XP D dA s0 σ [.ref (xB s0 + XA 0 0), .int k, .int cup, .int it, .int n]) (XQs D dA s0 xv_v (S_LC_list σ k cup it n)) 4 24 (xAm s0) := by
  refine XMet.ofW (cc := b_LC_list) (maxL := 5) (ret := none) (by decide) rfl ?_
  intro p e s m args below meth c s₁ Bd hml hv
  obtain ⟨rfl, hX, hO⟩ := hv
  have hx := Bd.exec
  have hb := Bd.bytes
  have hr := Bd.returns
  have hown : s.vm.findClass "LoadChecks" = some m.cls := findClass_of_methodNamed Bd.named
  have hlocks := Bd.notSynchronized
  have hnt : c.exceptionTable.isEmpty = true := Bd.noHandlers (atoms_spec (ws := [cw_LC_list]) Bd.pre _ List.mem_cons_self)
  have hW0 := hO.1
  have hts := xs_w (args := ([.ref (xB s0 + XA 0 0), .int k, .int cup, .int it, .int n] : List Value).toArray) h0 hW0
  have hK := xs_K h0 hW0
  have hS := xo_S0 hO
  have hl := lv_entry ([.ref (xB s0 + XA 0 0), .int k, .int cup, .int it, .int n]) (n := 5) (Nat.le_of_ble_eq_true rfl)
  rw [lg_entry_eq]
  generalize (lg_sl ([.ref (xB s0 + XA 0 0), .int k, .int cup, .int it, .int n]) ++ List.replicate (5 - (lg_sl ([.ref (xB s0 + XA 0 0), .int k, .int cup, .int it, .int n])).length) Slot.unset).toArray = ls at hl ⊢
  have hl : lv_has ls 5 [(0, .ref (xB s0 + XA 0 0)), (1, .int k), (2, .int cup), (3, .int it), (4, .int n)] := hl
  generalize hR : S_LC_list σ k cup it n = res
  unfold S_LC_list at hR
  refine lv_iload_n hx hb d_LC_list_0 rfl (lv_at hl 1 rfl) ?_
  refine xc_p (rest := []) (x_invS (argsL := [.int k]) hx hb hown (hts _ w_171) (hts _ w_172) (hts _ w_34) (x_code (hts _ w_173)) ⟨by decide, by decide⟩ rfl rfl rfl d_LC_list_1) (c_LC_requireKind h0 σ k) (xs_cw h0 hW0 m_173) (hts _ w_34) ⟨rfl, rfl, Nat.le_of_ble_eq_true rfl, Nat.le_of_ble_eq_true rfl⟩ (hl.1.trans hml.symm) (by rw [hb]; exact d_LC_list_1) (Nat.le_of_ble_eq_true rfl) ⟨Nat.le_of_ble_eq_true rfl, Nat.le_of_ble_eq_true rfl⟩ hX ⟨hW0, xo_S hS⟩ (fun v1 hM1 => ?_) (fun E1 x1 H1 hM1 hE1 he1 => ?_)
  · rw [hM1] at hR
    dsimp only [xbp] at hR
    have f1 := f_kind hM1
    refine lv_iload_n hx hb d_LC_list_4 rfl (lv_at hl 2 rfl) ?_
    refine xc_p (rest := []) (x_invS (argsL := [.int cup]) hx hb hown (hts _ w_303) (hts _ w_304) (hts _ w_34) (x_code (hts _ w_305)) ⟨by decide, by decide⟩ rfl rfl rfl d_LC_list_5) (c_LC_requireCupboard h0 σ cup) (xs_cw h0 hW0 m_305) (hts _ w_34) ⟨rfl, rfl, Nat.le_of_ble_eq_true rfl, Nat.le_of_ble_eq_true rfl⟩ (hl.1.trans hml.symm) (by rw [hb]; exact d_LC_list_5) (Nat.le_of_ble_eq_true rfl) ⟨Nat.le_of_ble_eq_true rfl, Nat.le_of_ble_eq_true rfl⟩ hX ⟨hW0, xo_S hS⟩ (fun v5 hM5 => ?_) (fun E5 x5 H5 hM5 hE5 he5 => ?_)
    · rw [hM5] at hR
      dsimp only [xbp] at hR
      have f5 := f_cup hM5
      refine lv_iload_n hx hb d_LC_list_8 rfl (lv_at hl 3 rfl) ?_
      refine xc_p (rest := []) (x_invS (argsL := [.int it]) hx hb hown (hts _ w_337) (hts _ w_338) (hts _ w_34) (x_code (hts _ w_339)) ⟨by decide, by decide⟩ rfl rfl rfl d_LC_list_9) (c_LC_requireItem h0 σ it) (xs_cw h0 hW0 m_339) (hts _ w_34) ⟨rfl, rfl, Nat.le_of_ble_eq_true rfl, Nat.le_of_ble_eq_true rfl⟩ (hl.1.trans hml.symm) (by rw [hb]; exact d_LC_list_9) (Nat.le_of_ble_eq_true rfl) ⟨Nat.le_of_ble_eq_true rfl, Nat.le_of_ble_eq_true rfl⟩ hX ⟨hW0, xo_S hS⟩ (fun v9 hM9 => ?_) (fun E9 x9 H9 hM9 hE9 he9 => ?_)
      · rw [hM9] at hR
        dsimp only [xbp] at hR
        have f9 := f_item hM9
        refine lv_iload hx hb d_LC_list_12 (lv_at hl 4 rfl) ?_
        refine lv_iconst (v := 0) hx hb d_LC_list_14 (by decide) ?_
        refine lv_bipush (v := 99) hx hb d_LC_list_15 (by decide) ?_
        refine xc_p (rest := []) (x_invS (argsL := [.int n, .int (0 : Int32), .int (99 : Int32)]) hx hb hown (hts _ w_244) (hts _ w_245) (hts _ w_34) (x_code (hts _ w_246)) ⟨by decide, by decide⟩ rfl rfl rfl d_LC_list_17) (c_LC_requireRange h0 σ n (0 : Int32) (99 : Int32)) (xs_cw h0 hW0 m_246) (hts _ w_34) ⟨rfl, rfl, Nat.le_of_ble_eq_true rfl, Nat.le_of_ble_eq_true rfl⟩ (hl.1.trans hml.symm) (by rw [hb]; exact d_LC_list_17) (Nat.le_of_ble_eq_true rfl) ⟨Nat.le_of_ble_eq_true rfl, Nat.le_of_ble_eq_true rfl⟩ hX ⟨hW0, xo_S hS⟩ (fun v17 hM17 => ?_) (fun E17 x17 H17 hM17 hE17 he17 => ?_)
        · rw [hM17] at hR
          dsimp only [xbp] at hR
          refine lv_aload_n hx hb d_LC_list_20 rfl (lv_at hl 0 rfl) ?_
          refine xw_get (C := R_LC) (T := F_LC) (N := 9) (r := 0) (i := 0) hx hb hts hi_LC hown hK hX (by decide) rfl rfl 3 (by decide) (hts _ w_136) rfl rfl d_LC_list_21 ?_
          refine lv_iload_n hx hb d_LC_list_24 rfl (lv_at hl 1 rfl) ?_
          refine xw_aald (r := 4) (i := 0) hx hb hK hX (by decide) 3 rfl rfl rfl (j := k) f1 rfl d_LC_list_25 ?_
          refine lv_iload_n hx hb d_LC_list_26 rfl (lv_at hl 2 rfl) ?_
          refine lv_iload_n hx hb d_LC_list_27 rfl (lv_at hl 3 rfl) ?_
          refine xc_f (rest := [.ref (xB s0 + XA 5 k.toNatClampNeg)]) (x_invS (argsL := [.int cup, .int it]) hx hb hown (hts _ w_358) (hts _ w_312) (hts _ w_34) (x_code (hts _ w_313)) ⟨by decide, by decide⟩ rfl rfl rfl d_LC_list_28) (c_LC_cellOf h0 σ cup it) (xs_cw h0 hW0 m_313) (hts _ w_34) ⟨rfl, rfl, Nat.le_of_ble_eq_true rfl, Nat.le_of_ble_eq_true rfl⟩ (hl.1.trans hml.symm) (by rw [hb]; exact d_LC_list_28) (Nat.le_of_ble_eq_true rfl) ⟨Nat.le_of_ble_eq_true rfl, Nat.le_of_ble_eq_true rfl⟩ hX ⟨hW0, xo_S hS⟩ ?_
          refine lv_iload hx hb d_LC_list_31 (lv_at hl 4 rfl) ?_
          refine xw_iast (r := 5) (i := k.toNatClampNeg) (ent' := XE dA (xB s0) (xuI σ 5 k.toNatClampNeg (S_LC_cellOf σ cup it).toNatClampNeg n)) hx hb hK xInj hX hS (xA_in _ _ _) (vp_lt f1) 0 rfl rfl (j := (S_LC_cellOf σ cup it)) (o_cell f5 f9) ((xe_uI dA (xB s0) σ 5 k.toNatClampNeg (S_LC_cellOf σ cup it).toNatClampNeg n).trans rfl) (xe_oI dA (xB s0) σ 5 k.toNatClampNeg (S_LC_cellOf σ cup it).toNatClampNeg n) d_LC_list_33 (fun H locs hX hS => ?_)
          subst hR
          refine W.widen (k := 4) (n := 24) (by decide) (by decide) ?_; exact xs_v hx hb hr hlocks hX hS d_LC_list_34
        · rw [hM17] at hR
          dsimp only [xbp] at hR
          subst hR
          refine xt_wid (k := 4) (n := 24) (by decide) (by decide) ?_
          exact xt_s hlocks hnt hE17 he17 (fun q h => by cases h)
      · rw [hM9] at hR
        dsimp only [xbp] at hR
        subst hR
        refine xt_wid (k := 4) (n := 24) (by decide) (by decide) ?_
        exact xt_s hlocks hnt hE9 he9 (fun q h => by cases h)
    · rw [hM5] at hR
      dsimp only [xbp] at hR
      subst hR
      refine xt_wid (k := 4) (n := 24) (by decide) (by decide) ?_
      exact xt_s hlocks hnt hE5 he5 (fun q h => by cases h)
  · rw [hM1] at hR
    dsimp only [xbp] at hR
    subst hR
    refine xt_wid (k := 4) (n := 24) (by decide) (by decide) ?_
    exact xt_s hlocks hnt hE1 he1 (fun q h => by cases h)

abbrev rm_LC_stock : Room := { frames := 7, cells := 3, slots := 18, locals := 104 }
def S_LC_stock (σ : XS) (it : Int32) (n : Int32) : (Int32 × XS) ⊕ String := (xbp (S_LC_requireItem σ it) fun _ => (xbp (S_LC_requireRange σ n (1 : Int32) (99 : Int32)) fun _ => (if ((σ.1 3 0 it.toNatClampNeg) + n) ≤ (10000 : Int32) then .inl (((xuI σ 3 0 it.toNatClampNeg ((σ.1 3 0 it.toNatClampNeg) + n)).1 3 0 it.toNatClampNeg), (xuI σ 3 0 it.toNatClampNeg ((σ.1 3 0 it.toNatClampNeg) + n))) else .inr "java/lang/UnsupportedOperationException")))
set_option maxHeartbeats 4000000 in
set_option maxRecDepth 100000 in
theorem c_LC_stock {l : Launch} {s0 : State} {A0 : Array Value} {D : va_G} {dA : Nat → ClassId} (h0 : XS0 l s0 A0 D dA) (σ : XS) (it : Int32) (n : Int32)  : XMet l y_LC_stock [cw_LC_stock] rm_LC_stock (XP D dA s0 σ [.ref (xB s0 + XA 0 0), .int it, .int n]) (XQs D dA s0 xv_i (S_LC_stock σ it n)) 3 18 (xAm s0) := by
  refine XMet.ofW (cc := b_LC_stock) (maxL := 3) (ret := (some .int)) (by decide) rfl ?_
  intro p e s m args below meth c s₁ Bd hml hv
  obtain ⟨rfl, hX, hO⟩ := hv
  have hx := Bd.exec
  have hb := Bd.bytes
  have hr := Bd.returns
  have hown : s.vm.findClass "LoadChecks" = some m.cls := findClass_of_methodNamed Bd.named
  have hlocks := Bd.notSynchronized
  have hnt : c.exceptionTable.isEmpty = true := Bd.noHandlers (atoms_spec (ws := [cw_LC_stock]) Bd.pre _ List.mem_cons_self)
  have hW0 := hO.1
  have hts := xs_w (args := ([.ref (xB s0 + XA 0 0), .int it, .int n] : List Value).toArray) h0 hW0
  have hK := xs_K h0 hW0
  have hS := xo_S0 hO
  have hl := lv_entry ([.ref (xB s0 + XA 0 0), .int it, .int n]) (n := 3) (Nat.le_of_ble_eq_true rfl)
  rw [lg_entry_eq]
  generalize (lg_sl ([.ref (xB s0 + XA 0 0), .int it, .int n]) ++ List.replicate (3 - (lg_sl ([.ref (xB s0 + XA 0 0), .int it, .int n])).length) Slot.unset).toArray = ls at hl ⊢
  have hl : lv_has ls 3 [(0, .ref (xB s0 + XA 0 0)), (1, .int it), (2, .int n)] := hl
  generalize hR : S_LC_stock σ it n = res
  unfold S_LC_stock at hR
  refine lv_iload_n hx hb d_LC_stock_0 rfl (lv_at hl 1 rfl) ?_
  refine xc_p (rest := []) (x_invS (argsL := [.int it]) hx hb hown (hts _ w_337) (hts _ w_338) (hts _ w_34) (x_code (hts _ w_339)) ⟨by decide, by decide⟩ rfl rfl rfl d_LC_stock_1) (c_LC_requireItem h0 σ it) (xs_cw h0 hW0 m_339) (hts _ w_34) ⟨rfl, rfl, Nat.le_of_ble_eq_true rfl, Nat.le_of_ble_eq_true rfl⟩ (hl.1.trans hml.symm) (by rw [hb]; exact d_LC_stock_1) (Nat.le_of_ble_eq_true rfl) ⟨Nat.le_of_ble_eq_true rfl, Nat.le_of_ble_eq_true rfl⟩ hX ⟨hW0, xo_S hS⟩ (fun v1 hM1 => ?_) (fun E1 x1 H1 hM1 hE1 he1 => ?_)
  · rw [hM1] at hR
    dsimp only [xbp] at hR
    have f1 := f_item hM1
    refine lv_iload_n hx hb d_LC_stock_4 rfl (lv_at hl 2 rfl) ?_
    refine lv_iconst (v := 1) hx hb d_LC_stock_5 (by decide) ?_
    refine lv_bipush (v := 99) hx hb d_LC_stock_6 (by decide) ?_
    refine xc_p (rest := []) (x_invS (argsL := [.int n, .int (1 : Int32), .int (99 : Int32)]) hx hb hown (hts _ w_244) (hts _ w_245) (hts _ w_34) (x_code (hts _ w_246)) ⟨by decide, by decide⟩ rfl rfl rfl d_LC_stock_8) (c_LC_requireRange h0 σ n (1 : Int32) (99 : Int32)) (xs_cw h0 hW0 m_246) (hts _ w_34) ⟨rfl, rfl, Nat.le_of_ble_eq_true rfl, Nat.le_of_ble_eq_true rfl⟩ (hl.1.trans hml.symm) (by rw [hb]; exact d_LC_stock_8) (Nat.le_of_ble_eq_true rfl) ⟨Nat.le_of_ble_eq_true rfl, Nat.le_of_ble_eq_true rfl⟩ hX ⟨hW0, xo_S hS⟩ (fun v8 hM8 => ?_) (fun E8 x8 H8 hM8 hE8 he8 => ?_)
    · rw [hM8] at hR
      dsimp only [xbp] at hR
      refine lv_aload_n hx hb d_LC_stock_11 rfl (lv_at hl 0 rfl) ?_
      refine xw_get (C := R_LC) (T := F_LC) (N := 9) (r := 0) (i := 0) hx hb hts hi_LC hown hK hX (by decide) rfl rfl 2 (by decide) (hts _ w_135) rfl rfl d_LC_stock_12 ?_
      refine lv_iload_n hx hb d_LC_stock_15 rfl (lv_at hl 1 rfl) ?_
      refine xw_iald (r := 3) (i := 0) hx hb hK hX (by decide) 0 rfl rfl (j := it) f1 d_LC_stock_16 ?_
      refine lv_iload_n hx hb d_LC_stock_17 rfl (lv_at hl 2 rfl) ?_
      refine lv_iadd hx hb d_LC_stock_18 ?_
      refine lv_sipush (v := 10000) hx hb d_LC_stock_19 (by decide) ?_
      refine lv_icmp_le (tgt := 35) hx hb d_LC_stock_22 (by decide) (fun c22 => ?_) (fun c22 => ?_)
      · rw [if_pos c22] at hR
        refine lv_aload_n hx hb d_LC_stock_35 rfl (lv_at hl 0 rfl) ?_
        refine xw_get (C := R_LC) (T := F_LC) (N := 9) (r := 0) (i := 0) hx hb hts hi_LC hown hK hX (by decide) rfl rfl 2 (by decide) (hts _ w_135) rfl rfl d_LC_stock_36 ?_
        refine lv_iload_n hx hb d_LC_stock_39 rfl (lv_at hl 1 rfl) ?_
        refine lv_dup2_11 hx hb d_LC_stock_40 rfl rfl ?_
        refine xw_iald (r := 3) (i := 0) hx hb hK hX (by decide) 0 rfl rfl (j := it) f1 d_LC_stock_41 ?_
        refine lv_iload_n hx hb d_LC_stock_42 rfl (lv_at hl 2 rfl) ?_
        refine lv_iadd hx hb d_LC_stock_43 ?_
        refine xw_iast (r := 3) (i := 0) (ent' := XE dA (xB s0) (xuI σ 3 0 it.toNatClampNeg ((σ.1 3 0 it.toNatClampNeg) + n))) hx hb hK xInj hX hS (xA_in _ _ _) (by decide) 0 rfl rfl (j := it) f1 ((xe_uI dA (xB s0) σ 3 0 it.toNatClampNeg ((σ.1 3 0 it.toNatClampNeg) + n)).trans rfl) (xe_oI dA (xB s0) σ 3 0 it.toNatClampNeg ((σ.1 3 0 it.toNatClampNeg) + n)) d_LC_stock_44 (fun H locs hX hS => ?_)
        refine lv_aload_n hx hb d_LC_stock_45 rfl (lv_at hl 0 rfl) ?_
        refine xw_get (C := R_LC) (T := F_LC) (N := 9) (r := 0) (i := 0) hx hb hts hi_LC hown hK hX (by decide) rfl rfl 2 (by decide) (hts _ w_135) rfl rfl d_LC_stock_46 ?_
        refine lv_iload_n hx hb d_LC_stock_49 rfl (lv_at hl 1 rfl) ?_
        refine xw_iald (r := 3) (i := 0) hx hb hK hX (by decide) 0 rfl rfl (j := it) f1 d_LC_stock_50 ?_
        subst hR
        refine W.widen (k := 3) (n := 18) (by decide) (by decide) ?_; exact xs_i hx hb hr hlocks hX hS d_LC_stock_51
      · rw [if_neg c22] at hR
        obtain ⟨qs, hqs⟩ := xs_str h0 hW0 (own := "LoadChecks") (k := 105) (tx := "no room in stock") (by decide +kernel); subst hR; refine W.widen (k := 2) (n := 12) (by decide) (by decide) ?_; exact x_throw hx hb h0.1 hown hlocks hnt (hl.1.trans hml.symm) (hts _ w_267) (hts _ w_44) hqs (x_own hO rfl (oa_UOE h0)) (by decide +kernel) (by decide +kernel) d_LC_stock_25 d_LC_stock_28 d_LC_stock_29 d_LC_stock_31 d_LC_stock_34 (Nat.le_of_ble_eq_true rfl) (Nat.le_of_ble_eq_true rfl) (Nat.le_of_ble_eq_true rfl) (Nat.le_of_ble_eq_true rfl) (fun x t h1 h2 => Or.inr ⟨_, x, rfl, rfl, h1, h2⟩)
    · rw [hM8] at hR
      dsimp only [xbp] at hR
      subst hR
      refine xt_wid (k := 3) (n := 18) (by decide) (by decide) ?_
      exact xt_s hlocks hnt hE8 he8 (fun q h => by cases h)
  · rw [hM1] at hR
    dsimp only [xbp] at hR
    subst hR
    refine xt_wid (k := 3) (n := 18) (by decide) (by decide) ?_
    exact xt_s hlocks hnt hE1 he1 (fun q h => by cases h)
end
section
abbrev rm_LC_put : Room := { frames := 7, cells := 6, slots := 36, locals := 105 }
def S_LC_put (σ : XS) (v : Int32) (cup : Int32) (it : Int32) (n : Int32) : (Int32 × XS) ⊕ String := (xbp (S_LC_knownVehicle σ v) fun v2 => (xbp (S_LC_requireCupboard σ cup) fun _ => (xbp (S_LC_requireItem σ it) fun _ => (xbp (S_LC_requireRange σ n (1 : Int32) (99 : Int32)) fun _ => (xbp (S_LC_requireBearable σ v2 (S_LC_cellOf σ cup it) n) fun _ => (xbp (S_LC_requireRoom σ v2 (S_LC_cellOf σ cup it) n) fun _ => .inl ((((S_VE_load σ v2 (S_LC_cellOf σ cup it) n (σ.1 1 0 it.toNatClampNeg)).2).1 12 v2 (S_LC_cellOf σ cup it).toNatClampNeg), (S_VE_load σ v2 (S_LC_cellOf σ cup it) n (σ.1 1 0 it.toNatClampNeg)).2)))))))
set_option maxHeartbeats 4000000 in
set_option maxRecDepth 100000 in
theorem c_LC_put {l : Launch} {s0 : State} {A0 : Array Value} {D : va_G} {dA : Nat → ClassId} (h0 : XS0 l s0 A0 D dA) (σ : XS) (v : Int32) (cup : Int32) (it : Int32) (n : Int32) (hok : XOk σ) : XMet l y_LC_put [cw_LC_put] rm_LC_put (XP D dA s0 σ [.ref (xB s0 + XA 0 0), .int v, .int cup, .int it, .int n]) (XQs D dA s0 xv_i (S_LC_put σ v cup it n)) 6 36 (xAm s0) := by
  refine XMet.ofW (cc := b_LC_put) (maxL := 7) (ret := (some .int)) (by decide) rfl ?_
  intro p e s m args below meth c s₁ Bd hml hv
  obtain ⟨rfl, hX, hO⟩ := hv
  have hx := Bd.exec
  have hb := Bd.bytes
  have hr := Bd.returns
  have hown : s.vm.findClass "LoadChecks" = some m.cls := findClass_of_methodNamed Bd.named
  have hlocks := Bd.notSynchronized
  have hnt : c.exceptionTable.isEmpty = true := Bd.noHandlers (atoms_spec (ws := [cw_LC_put]) Bd.pre _ List.mem_cons_self)
  have hW0 := hO.1
  have hts := xs_w (args := ([.ref (xB s0 + XA 0 0), .int v, .int cup, .int it, .int n] : List Value).toArray) h0 hW0
  have hK := xs_K h0 hW0
  have hS := xo_S0 hO
  have hl := lv_entry ([.ref (xB s0 + XA 0 0), .int v, .int cup, .int it, .int n]) (n := 7) (Nat.le_of_ble_eq_true rfl)
  rw [lg_entry_eq]
  generalize (lg_sl ([.ref (xB s0 + XA 0 0), .int v, .int cup, .int it, .int n]) ++ List.replicate (7 - (lg_sl ([.ref (xB s0 + XA 0 0), .int v, .int cup, .int it, .int n])).length) Slot.unset).toArray = ls at hl ⊢
  have hl : lv_has ls 7 [(0, .ref (xB s0 + XA 0 0)), (1, .int v), (2, .int cup), (3, .int it), (4, .int n)] := hl
  generalize hR : S_LC_put σ v cup it n = res
  unfold S_LC_put at hR
  refine lv_aload_n hx hb d_LC_put_0 rfl (lv_at hl 0 rfl) ?_
  refine lv_iload_n hx hb d_LC_put_1 rfl (lv_at hl 1 rfl) ?_
  obtain ⟨cB2, hcB2, hoB2, hkB2⟩ := xw_recv (r := 0) (i := 0) hK hX (by decide) rfl rfl
  refine xc_p (rest := []) (x_invV (argsL := [.int v]) hx hb hown (hts _ w_290) (hts _ w_292) (hts _ w_1) (x_code (hts _ w_293)) ⟨by decide, by decide⟩ hcB2 hoB2 hkB2 rfl rfl rfl d_LC_put_2) (c_LC_knownVehicle h0 σ v hok) (xs_cw h0 hW0 m_293) (hts _ w_34) ⟨rfl, rfl, Nat.le_of_ble_eq_true rfl, Nat.le_of_ble_eq_true rfl⟩ (hl.1.trans hml.symm) (by rw [hb]; exact d_LC_put_2) (Nat.le_of_ble_eq_true rfl) ⟨Nat.le_of_ble_eq_true rfl, Nat.le_of_ble_eq_true rfl⟩ hX ⟨hW0, xo_S hS⟩ (fun v2 hM2 => ?_) (fun E2 x2 H2 hM2 hE2 he2 => ?_)
  · rw [hM2] at hR
    dsimp only [xbp] at hR
    have f2 := f_known hok hM2
    refine lv_astore (lv' := [(5, .ref (xB s0 + XA 9 v2)), (0, .ref (xB s0 + XA 0 0)), (1, .int v), (2, .int cup), (3, .int it), (4, .int n)]) hx hb d_LC_put_5 hl (by decide) rfl (fun ls hl => ?_)
    refine lv_iload_n hx hb d_LC_put_7 rfl (lv_at hl 3 rfl) ?_
    refine xc_p (rest := []) (x_invS (argsL := [.int cup]) hx hb hown (hts _ w_303) (hts _ w_304) (hts _ w_34) (x_code (hts _ w_305)) ⟨by decide, by decide⟩ rfl rfl rfl d_LC_put_8) (c_LC_requireCupboard h0 σ cup) (xs_cw h0 hW0 m_305) (hts _ w_34) ⟨rfl, rfl, Nat.le_of_ble_eq_true rfl, Nat.le_of_ble_eq_true rfl⟩ (hl.1.trans hml.symm) (by rw [hb]; exact d_LC_put_8) (Nat.le_of_ble_eq_true rfl) ⟨Nat.le_of_ble_eq_true rfl, Nat.le_of_ble_eq_true rfl⟩ hX ⟨hW0, xo_S hS⟩ (fun v8 hM8 => ?_) (fun E8 x8 H8 hM8 hE8 he8 => ?_)
    · rw [hM8] at hR
      dsimp only [xbp] at hR
      have f8 := f_cup hM8
      refine lv_iload_n hx hb d_LC_put_11 rfl (lv_at hl 4 rfl) ?_
      refine xc_p (rest := []) (x_invS (argsL := [.int it]) hx hb hown (hts _ w_337) (hts _ w_338) (hts _ w_34) (x_code (hts _ w_339)) ⟨by decide, by decide⟩ rfl rfl rfl d_LC_put_12) (c_LC_requireItem h0 σ it) (xs_cw h0 hW0 m_339) (hts _ w_34) ⟨rfl, rfl, Nat.le_of_ble_eq_true rfl, Nat.le_of_ble_eq_true rfl⟩ (hl.1.trans hml.symm) (by rw [hb]; exact d_LC_put_12) (Nat.le_of_ble_eq_true rfl) ⟨Nat.le_of_ble_eq_true rfl, Nat.le_of_ble_eq_true rfl⟩ hX ⟨hW0, xo_S hS⟩ (fun v12 hM12 => ?_) (fun E12 x12 H12 hM12 hE12 he12 => ?_)
      · rw [hM12] at hR
        dsimp only [xbp] at hR
        have f12 := f_item hM12
        refine lv_iload hx hb d_LC_put_15 (lv_at hl 5 rfl) ?_
        refine lv_iconst (v := 1) hx hb d_LC_put_17 (by decide) ?_
        refine lv_bipush (v := 99) hx hb d_LC_put_18 (by decide) ?_
        refine xc_p (rest := []) (x_invS (argsL := [.int n, .int (1 : Int32), .int (99 : Int32)]) hx hb hown (hts _ w_244) (hts _ w_245) (hts _ w_34) (x_code (hts _ w_246)) ⟨by decide, by decide⟩ rfl rfl rfl d_LC_put_20) (c_LC_requireRange h0 σ n (1 : Int32) (99 : Int32)) (xs_cw h0 hW0 m_246) (hts _ w_34) ⟨rfl, rfl, Nat.le_of_ble_eq_true rfl, Nat.le_of_ble_eq_true rfl⟩ (hl.1.trans hml.symm) (by rw [hb]; exact d_LC_put_20) (Nat.le_of_ble_eq_true rfl) ⟨Nat.le_of_ble_eq_true rfl, Nat.le_of_ble_eq_true rfl⟩ hX ⟨hW0, xo_S hS⟩ (fun v20 hM20 => ?_) (fun E20 x20 H20 hM20 hE20 he20 => ?_)
        · rw [hM20] at hR
          dsimp only [xbp] at hR
          refine lv_iload_n hx hb d_LC_put_23 rfl (lv_at hl 3 rfl) ?_
          refine lv_iload_n hx hb d_LC_put_24 rfl (lv_at hl 4 rfl) ?_
          refine xc_f (rest := []) (x_invS (argsL := [.int cup, .int it]) hx hb hown (hts _ w_358) (hts _ w_312) (hts _ w_34) (x_code (hts _ w_313)) ⟨by decide, by decide⟩ rfl rfl rfl d_LC_put_25) (c_LC_cellOf h0 σ cup it) (xs_cw h0 hW0 m_313) (hts _ w_34) ⟨rfl, rfl, Nat.le_of_ble_eq_true rfl, Nat.le_of_ble_eq_true rfl⟩ (hl.1.trans hml.symm) (by rw [hb]; exact d_LC_put_25) (Nat.le_of_ble_eq_true rfl) ⟨Nat.le_of_ble_eq_true rfl, Nat.le_of_ble_eq_true rfl⟩ hX ⟨hW0, xo_S hS⟩ ?_
          refine lv_istore (lv' := [(6, .int (S_LC_cellOf σ cup it)), (5, .ref (xB s0 + XA 9 v2)), (0, .ref (xB s0 + XA 0 0)), (1, .int v), (2, .int cup), (3, .int it), (4, .int n)]) hx hb d_LC_put_28 hl (by decide) rfl (fun ls hl => ?_)
          refine lv_aload_n hx hb d_LC_put_30 rfl (lv_at hl 2 rfl) ?_
          refine lv_aload hx hb d_LC_put_31 (lv_at hl 1 rfl) ?_
          refine lv_iload hx hb d_LC_put_33 (lv_at hl 0 rfl) ?_
          refine lv_iload hx hb d_LC_put_35 (lv_at hl 6 rfl) ?_
          obtain ⟨cB37, hcB37, hoB37, hkB37⟩ := xw_recv (r := 0) (i := 0) hK hX (by decide) rfl rfl
          refine xc_p (rest := []) (x_invV (argsL := [.ref (xB s0 + XA 9 v2), .int (S_LC_cellOf σ cup it), .int n]) hx hb hown (hts _ w_374) (hts _ w_376) (hts _ w_5) (x_code (hts _ w_377)) ⟨by decide, by decide⟩ hcB37 hoB37 hkB37 rfl rfl rfl d_LC_put_37) (c_LC_requireBearable h0 σ v2 (S_LC_cellOf σ cup it) n f2 (o_cell f8 f12)) (xs_cw h0 hW0 m_377) (hts _ w_34) ⟨rfl, rfl, Nat.le_of_ble_eq_true rfl, Nat.le_of_ble_eq_true rfl⟩ (hl.1.trans hml.symm) (by rw [hb]; exact d_LC_put_37) (Nat.le_of_ble_eq_true rfl) ⟨Nat.le_of_ble_eq_true rfl, Nat.le_of_ble_eq_true rfl⟩ hX ⟨hW0, xo_S hS⟩ (fun v37 hM37 => ?_) (fun E37 x37 H37 hM37 hE37 he37 => ?_)
          · rw [hM37] at hR
            dsimp only [xbp] at hR
            refine lv_aload hx hb d_LC_put_40 (lv_at hl 1 rfl) ?_
            refine lv_iload hx hb d_LC_put_42 (lv_at hl 0 rfl) ?_
            refine lv_iload hx hb d_LC_put_44 (lv_at hl 6 rfl) ?_
            refine xc_p (rest := []) (x_invS (argsL := [.ref (xB s0 + XA 9 v2), .int (S_LC_cellOf σ cup it), .int n]) hx hb hown (hts _ w_395) (hts _ w_396) (hts _ w_34) (x_code (hts _ w_397)) ⟨by decide, by decide⟩ rfl rfl rfl d_LC_put_46) (c_LC_requireRoom h0 σ v2 (S_LC_cellOf σ cup it) n f2 (o_cell f8 f12)) (xs_cw h0 hW0 m_397) (hts _ w_34) ⟨rfl, rfl, Nat.le_of_ble_eq_true rfl, Nat.le_of_ble_eq_true rfl⟩ (hl.1.trans hml.symm) (by rw [hb]; exact d_LC_put_46) (Nat.le_of_ble_eq_true rfl) ⟨Nat.le_of_ble_eq_true rfl, Nat.le_of_ble_eq_true rfl⟩ hX ⟨hW0, xo_S hS⟩ (fun v46 hM46 => ?_) (fun E46 x46 H46 hM46 hE46 he46 => ?_)
            · rw [hM46] at hR
              dsimp only [xbp] at hR
              refine lv_aload hx hb d_LC_put_49 (lv_at hl 1 rfl) ?_
              refine lv_iload hx hb d_LC_put_51 (lv_at hl 0 rfl) ?_
              refine lv_iload hx hb d_LC_put_53 (lv_at hl 6 rfl) ?_
              refine lv_aload_n hx hb d_LC_put_55 rfl (lv_at hl 2 rfl) ?_
              refine xw_get (C := R_LC) (T := F_LC) (N := 9) (r := 0) (i := 0) hx hb hts hi_LC hown hK hX (by decide) rfl rfl 0 (by decide) (hts _ w_133) rfl rfl d_LC_put_56 ?_
              refine lv_iload_n hx hb d_LC_put_59 rfl (lv_at hl 5 rfl) ?_
              refine xw_iald (r := 1) (i := 0) hx hb hK hX (by decide) 0 rfl rfl (j := it) f12 d_LC_put_60 ?_
              obtain ⟨cB61, hcB61, hoB61, hkB61⟩ := xw_recv (r := 9) (i := v2) hK hX f2 rfl rfl
              refine xc_s (rest := []) (x_invVN (argsL := [.int (S_LC_cellOf σ cup it), .int n, .int (σ.1 1 0 it.toNatClampNeg)]) hx hb hown (xs_M h0 hW0 m_399) (hts _ w_401) (hts _ w_10) (x_code (hts _ w_402)) ⟨by decide, by decide⟩ hcB61 hoB61 hkB61 rfl rfl rfl d_LC_put_61) (c_VE_load h0 σ v2 (S_LC_cellOf σ cup it) n (σ.1 1 0 it.toNatClampNeg) f2 (o_cell f8 f12)) (xs_cw h0 hW0 m_402) (hts _ w_36) ⟨rfl, rfl, Nat.le_of_ble_eq_true rfl, Nat.le_of_ble_eq_true rfl⟩ (hl.1.trans hml.symm) (by rw [hb]; exact d_LC_put_61) (Nat.le_of_ble_eq_true rfl) ⟨Nat.le_of_ble_eq_true rfl, Nat.le_of_ble_eq_true rfl⟩ hX hW0 hS (fun v61 σ61 H locs hM61 hX hS => ?_) (fun E x H1 locs1 hM => by cases hM)
              obtain ⟨ev61, es61⟩ := x_inl hM61
              subst es61
              refine lv_aload hx hb d_LC_put_64 (lv_at hl 1 rfl) ?_
              refine xw_getN (C := R_VE) (T := F_VE) (N := 13) (r := 9) (i := v2) hx hb hts hi_VE hown hK hX f2 rfl rfl 2 (by decide) (xs_N h0 hW0 m_87) rfl rfl d_LC_put_66 ?_
              refine lv_iload hx hb d_LC_put_69 (lv_at hl 0 rfl) ?_
              refine xw_iald (r := 12) (i := v2) hx hb hK hX f2 0 rfl rfl (j := (S_LC_cellOf σ cup it)) (o_cell f8 f12) d_LC_put_71 ?_
              subst hR
              refine W.widen (k := 6) (n := 36) (by decide) (by decide) ?_; exact xs_i hx hb hr hlocks hX hS d_LC_put_72
            · rw [hM46] at hR
              dsimp only [xbp] at hR
              subst hR
              refine xt_wid (k := 6) (n := 36) (by decide) (by decide) ?_
              exact xt_s hlocks hnt hE46 he46 (fun q h => by cases h)
          · rw [hM37] at hR
            dsimp only [xbp] at hR
            subst hR
            refine xt_wid (k := 6) (n := 36) (by decide) (by decide) ?_
            exact xt_s hlocks hnt hE37 he37 (fun q h => by cases h)
        · rw [hM20] at hR
          dsimp only [xbp] at hR
          subst hR
          refine xt_wid (k := 6) (n := 36) (by decide) (by decide) ?_
          exact xt_s hlocks hnt hE20 he20 (fun q h => by cases h)
      · rw [hM12] at hR
        dsimp only [xbp] at hR
        subst hR
        refine xt_wid (k := 6) (n := 36) (by decide) (by decide) ?_
        exact xt_s hlocks hnt hE12 he12 (fun q h => by cases h)
    · rw [hM8] at hR
      dsimp only [xbp] at hR
      subst hR
      refine xt_wid (k := 6) (n := 36) (by decide) (by decide) ?_
      exact xt_s hlocks hnt hE8 he8 (fun q h => by cases h)
  · rw [hM2] at hR
    dsimp only [xbp] at hR
    subst hR
    refine xt_wid (k := 6) (n := 36) (by decide) (by decide) ?_
    exact xt_s hlocks hnt hE2 he2 (fun q h => by cases h)

abbrev rm_LC_use : Room := { frames := 7, cells := 5, slots := 30, locals := 104 }
def S_LC_use (σ : XS) (v : Int32) (cup : Int32) (it : Int32) (n : Int32) : (Int32 × XS) ⊕ String := (xbp (S_LC_knownVehicle σ v) fun v2 => (xbp (S_LC_requireCupboard σ cup) fun _ => (xbp (S_LC_requireItem σ it) fun _ => (xbp (S_LC_requireRange σ n (1 : Int32) (99 : Int32)) fun _ => (xbp (S_LC_requireSoMany σ v2 (S_LC_cellOf σ cup it) n) fun _ => .inl ((((S_VE_load σ v2 (S_LC_cellOf σ cup it) (-n) (σ.1 1 0 it.toNatClampNeg)).2).1 12 v2 (S_LC_cellOf σ cup it).toNatClampNeg), (S_VE_load σ v2 (S_LC_cellOf σ cup it) (-n) (σ.1 1 0 it.toNatClampNeg)).2))))))
set_option maxHeartbeats 4000000 in
set_option maxRecDepth 100000 in
theorem c_LC_use {l : Launch} {s0 : State} {A0 : Array Value} {D : va_G} {dA : Nat → ClassId} (h0 : XS0 l s0 A0 D dA) (σ : XS) (v : Int32) (cup : Int32) (it : Int32) (n : Int32) (hok : XOk σ) : XMet l y_LC_use [cw_LC_use] rm_LC_use (XP D dA s0 σ [.ref (xB s0 + XA 0 0), .int v, .int cup, .int it, .int n]) (XQs D dA s0 xv_i (S_LC_use σ v cup it n)) 5 30 (xAm s0) := by
  refine XMet.ofW (cc := b_LC_use) (maxL := 7) (ret := (some .int)) (by decide) rfl ?_
  intro p e s m args below meth c s₁ Bd hml hv
  obtain ⟨rfl, hX, hO⟩ := hv
  have hx := Bd.exec
  have hb := Bd.bytes
  have hr := Bd.returns
  have hown : s.vm.findClass "LoadChecks" = some m.cls := findClass_of_methodNamed Bd.named
  have hlocks := Bd.notSynchronized
  have hnt : c.exceptionTable.isEmpty = true := Bd.noHandlers (atoms_spec (ws := [cw_LC_use]) Bd.pre _ List.mem_cons_self)
  have hW0 := hO.1
  have hts := xs_w (args := ([.ref (xB s0 + XA 0 0), .int v, .int cup, .int it, .int n] : List Value).toArray) h0 hW0
  have hK := xs_K h0 hW0
  have hS := xo_S0 hO
  have hl := lv_entry ([.ref (xB s0 + XA 0 0), .int v, .int cup, .int it, .int n]) (n := 7) (Nat.le_of_ble_eq_true rfl)
  rw [lg_entry_eq]
  generalize (lg_sl ([.ref (xB s0 + XA 0 0), .int v, .int cup, .int it, .int n]) ++ List.replicate (7 - (lg_sl ([.ref (xB s0 + XA 0 0), .int v, .int cup, .int it, .int n])).length) Slot.unset).toArray = ls at hl ⊢
  have hl : lv_has ls 7 [(0, .ref (xB s0 + XA 0 0)), (1, .int v), (2, .int cup), (3, .int it), (4, .int n)] := hl
  generalize hR : S_LC_use σ v cup it n = res
  unfold S_LC_use at hR
  refine lv_aload_n hx hb d_LC_use_0 rfl (lv_at hl 0 rfl) ?_
  refine lv_iload_n hx hb d_LC_use_1 rfl (lv_at hl 1 rfl) ?_
  obtain ⟨cB2, hcB2, hoB2, hkB2⟩ := xw_recv (r := 0) (i := 0) hK hX (by decide) rfl rfl
  refine xc_p (rest := []) (x_invV (argsL := [.int v]) hx hb hown (hts _ w_290) (hts _ w_292) (hts _ w_1) (x_code (hts _ w_293)) ⟨by decide, by decide⟩ hcB2 hoB2 hkB2 rfl rfl rfl d_LC_use_2) (c_LC_knownVehicle h0 σ v hok) (xs_cw h0 hW0 m_293) (hts _ w_34) ⟨rfl, rfl, Nat.le_of_ble_eq_true rfl, Nat.le_of_ble_eq_true rfl⟩ (hl.1.trans hml.symm) (by rw [hb]; exact d_LC_use_2) (Nat.le_of_ble_eq_true rfl) ⟨Nat.le_of_ble_eq_true rfl, Nat.le_of_ble_eq_true rfl⟩ hX ⟨hW0, xo_S hS⟩ (fun v2 hM2 => ?_) (fun E2 x2 H2 hM2 hE2 he2 => ?_)
  · rw [hM2] at hR
    dsimp only [xbp] at hR
    have f2 := f_known hok hM2
    refine lv_astore (lv' := [(5, .ref (xB s0 + XA 9 v2)), (0, .ref (xB s0 + XA 0 0)), (1, .int v), (2, .int cup), (3, .int it), (4, .int n)]) hx hb d_LC_use_5 hl (by decide) rfl (fun ls hl => ?_)
    refine lv_iload_n hx hb d_LC_use_7 rfl (lv_at hl 3 rfl) ?_
    refine xc_p (rest := []) (x_invS (argsL := [.int cup]) hx hb hown (hts _ w_303) (hts _ w_304) (hts _ w_34) (x_code (hts _ w_305)) ⟨by decide, by decide⟩ rfl rfl rfl d_LC_use_8) (c_LC_requireCupboard h0 σ cup) (xs_cw h0 hW0 m_305) (hts _ w_34) ⟨rfl, rfl, Nat.le_of_ble_eq_true rfl, Nat.le_of_ble_eq_true rfl⟩ (hl.1.trans hml.symm) (by rw [hb]; exact d_LC_use_8) (Nat.le_of_ble_eq_true rfl) ⟨Nat.le_of_ble_eq_true rfl, Nat.le_of_ble_eq_true rfl⟩ hX ⟨hW0, xo_S hS⟩ (fun v8 hM8 => ?_) (fun E8 x8 H8 hM8 hE8 he8 => ?_)
    · rw [hM8] at hR
      dsimp only [xbp] at hR
      have f8 := f_cup hM8
      refine lv_iload_n hx hb d_LC_use_11 rfl (lv_at hl 4 rfl) ?_
      refine xc_p (rest := []) (x_invS (argsL := [.int it]) hx hb hown (hts _ w_337) (hts _ w_338) (hts _ w_34) (x_code (hts _ w_339)) ⟨by decide, by decide⟩ rfl rfl rfl d_LC_use_12) (c_LC_requireItem h0 σ it) (xs_cw h0 hW0 m_339) (hts _ w_34) ⟨rfl, rfl, Nat.le_of_ble_eq_true rfl, Nat.le_of_ble_eq_true rfl⟩ (hl.1.trans hml.symm) (by rw [hb]; exact d_LC_use_12) (Nat.le_of_ble_eq_true rfl) ⟨Nat.le_of_ble_eq_true rfl, Nat.le_of_ble_eq_true rfl⟩ hX ⟨hW0, xo_S hS⟩ (fun v12 hM12 => ?_) (fun E12 x12 H12 hM12 hE12 he12 => ?_)
      · rw [hM12] at hR
        dsimp only [xbp] at hR
        have f12 := f_item hM12
        refine lv_iload hx hb d_LC_use_15 (lv_at hl 5 rfl) ?_
        refine lv_iconst (v := 1) hx hb d_LC_use_17 (by decide) ?_
        refine lv_bipush (v := 99) hx hb d_LC_use_18 (by decide) ?_
        refine xc_p (rest := []) (x_invS (argsL := [.int n, .int (1 : Int32), .int (99 : Int32)]) hx hb hown (hts _ w_244) (hts _ w_245) (hts _ w_34) (x_code (hts _ w_246)) ⟨by decide, by decide⟩ rfl rfl rfl d_LC_use_20) (c_LC_requireRange h0 σ n (1 : Int32) (99 : Int32)) (xs_cw h0 hW0 m_246) (hts _ w_34) ⟨rfl, rfl, Nat.le_of_ble_eq_true rfl, Nat.le_of_ble_eq_true rfl⟩ (hl.1.trans hml.symm) (by rw [hb]; exact d_LC_use_20) (Nat.le_of_ble_eq_true rfl) ⟨Nat.le_of_ble_eq_true rfl, Nat.le_of_ble_eq_true rfl⟩ hX ⟨hW0, xo_S hS⟩ (fun v20 hM20 => ?_) (fun E20 x20 H20 hM20 hE20 he20 => ?_)
        · rw [hM20] at hR
          dsimp only [xbp] at hR
          refine lv_iload_n hx hb d_LC_use_23 rfl (lv_at hl 3 rfl) ?_
          refine lv_iload_n hx hb d_LC_use_24 rfl (lv_at hl 4 rfl) ?_
          refine xc_f (rest := []) (x_invS (argsL := [.int cup, .int it]) hx hb hown (hts _ w_358) (hts _ w_312) (hts _ w_34) (x_code (hts _ w_313)) ⟨by decide, by decide⟩ rfl rfl rfl d_LC_use_25) (c_LC_cellOf h0 σ cup it) (xs_cw h0 hW0 m_313) (hts _ w_34) ⟨rfl, rfl, Nat.le_of_ble_eq_true rfl, Nat.le_of_ble_eq_true rfl⟩ (hl.1.trans hml.symm) (by rw [hb]; exact d_LC_use_25) (Nat.le_of_ble_eq_true rfl) ⟨Nat.le_of_ble_eq_true rfl, Nat.le_of_ble_eq_true rfl⟩ hX ⟨hW0, xo_S hS⟩ ?_
          refine lv_istore (lv' := [(6, .int (S_LC_cellOf σ cup it)), (5, .ref (xB s0 + XA 9 v2)), (0, .ref (xB s0 + XA 0 0)), (1, .int v), (2, .int cup), (3, .int it), (4, .int n)]) hx hb d_LC_use_28 hl (by decide) rfl (fun ls hl => ?_)
          refine lv_aload hx hb d_LC_use_30 (lv_at hl 1 rfl) ?_
          refine lv_iload hx hb d_LC_use_32 (lv_at hl 0 rfl) ?_
          refine lv_iload hx hb d_LC_use_34 (lv_at hl 6 rfl) ?_
          refine xc_p (rest := []) (x_invS (argsL := [.ref (xB s0 + XA 9 v2), .int (S_LC_cellOf σ cup it), .int n]) hx hb hown (hts _ w_410) (hts _ w_411) (hts _ w_34) (x_code (hts _ w_412)) ⟨by decide, by decide⟩ rfl rfl rfl d_LC_use_36) (c_LC_requireSoMany h0 σ v2 (S_LC_cellOf σ cup it) n f2 (o_cell f8 f12)) (xs_cw h0 hW0 m_412) (hts _ w_34) ⟨rfl, rfl, Nat.le_of_ble_eq_true rfl, Nat.le_of_ble_eq_true rfl⟩ (hl.1.trans hml.symm) (by rw [hb]; exact d_LC_use_36) (Nat.le_of_ble_eq_true rfl) ⟨Nat.le_of_ble_eq_true rfl, Nat.le_of_ble_eq_true rfl⟩ hX ⟨hW0, xo_S hS⟩ (fun v36 hM36 => ?_) (fun E36 x36 H36 hM36 hE36 he36 => ?_)
          · rw [hM36] at hR
            dsimp only [xbp] at hR
            refine lv_aload hx hb d_LC_use_39 (lv_at hl 1 rfl) ?_
            refine lv_iload hx hb d_LC_use_41 (lv_at hl 0 rfl) ?_
            refine lv_iload hx hb d_LC_use_43 (lv_at hl 6 rfl) ?_
            refine lv_ineg hx hb d_LC_use_45 ?_
            refine lv_aload_n hx hb d_LC_use_46 rfl (lv_at hl 2 rfl) ?_
            refine xw_get (C := R_LC) (T := F_LC) (N := 9) (r := 0) (i := 0) hx hb hts hi_LC hown hK hX (by decide) rfl rfl 0 (by decide) (hts _ w_133) rfl rfl d_LC_use_47 ?_
            refine lv_iload_n hx hb d_LC_use_50 rfl (lv_at hl 5 rfl) ?_
            refine xw_iald (r := 1) (i := 0) hx hb hK hX (by decide) 0 rfl rfl (j := it) f12 d_LC_use_51 ?_
            obtain ⟨cB52, hcB52, hoB52, hkB52⟩ := xw_recv (r := 9) (i := v2) hK hX f2 rfl rfl
            refine xc_s (rest := []) (x_invVN (argsL := [.int (S_LC_cellOf σ cup it), .int (-n), .int (σ.1 1 0 it.toNatClampNeg)]) hx hb hown (xs_M h0 hW0 m_399) (hts _ w_401) (hts _ w_10) (x_code (hts _ w_402)) ⟨by decide, by decide⟩ hcB52 hoB52 hkB52 rfl rfl rfl d_LC_use_52) (c_VE_load h0 σ v2 (S_LC_cellOf σ cup it) (-n) (σ.1 1 0 it.toNatClampNeg) f2 (o_cell f8 f12)) (xs_cw h0 hW0 m_402) (hts _ w_36) ⟨rfl, rfl, Nat.le_of_ble_eq_true rfl, Nat.le_of_ble_eq_true rfl⟩ (hl.1.trans hml.symm) (by rw [hb]; exact d_LC_use_52) (Nat.le_of_ble_eq_true rfl) ⟨Nat.le_of_ble_eq_true rfl, Nat.le_of_ble_eq_true rfl⟩ hX hW0 hS (fun v52 σ52 H locs hM52 hX hS => ?_) (fun E x H1 locs1 hM => by cases hM)
            obtain ⟨ev52, es52⟩ := x_inl hM52
            subst es52
            refine lv_aload hx hb d_LC_use_55 (lv_at hl 1 rfl) ?_
            refine xw_getN (C := R_VE) (T := F_VE) (N := 13) (r := 9) (i := v2) hx hb hts hi_VE hown hK hX f2 rfl rfl 2 (by decide) (xs_N h0 hW0 m_87) rfl rfl d_LC_use_57 ?_
            refine lv_iload hx hb d_LC_use_60 (lv_at hl 0 rfl) ?_
            refine xw_iald (r := 12) (i := v2) hx hb hK hX f2 0 rfl rfl (j := (S_LC_cellOf σ cup it)) (o_cell f8 f12) d_LC_use_62 ?_
            subst hR
            refine W.widen (k := 5) (n := 30) (by decide) (by decide) ?_; exact xs_i hx hb hr hlocks hX hS d_LC_use_63
          · rw [hM36] at hR
            dsimp only [xbp] at hR
            subst hR
            refine xt_wid (k := 5) (n := 30) (by decide) (by decide) ?_
            exact xt_s hlocks hnt hE36 he36 (fun q h => by cases h)
        · rw [hM20] at hR
          dsimp only [xbp] at hR
          subst hR
          refine xt_wid (k := 5) (n := 30) (by decide) (by decide) ?_
          exact xt_s hlocks hnt hE20 he20 (fun q h => by cases h)
      · rw [hM12] at hR
        dsimp only [xbp] at hR
        subst hR
        refine xt_wid (k := 5) (n := 30) (by decide) (by decide) ?_
        exact xt_s hlocks hnt hE12 he12 (fun q h => by cases h)
    · rw [hM8] at hR
      dsimp only [xbp] at hR
      subst hR
      refine xt_wid (k := 5) (n := 30) (by decide) (by decide) ?_
      exact xt_s hlocks hnt hE8 he8 (fun q h => by cases h)
  · rw [hM2] at hR
    dsimp only [xbp] at hR
    subst hR
    refine xt_wid (k := 5) (n := 30) (by decide) (by decide) ?_
    exact xt_s hlocks hnt hE2 he2 (fun q h => by cases h)

abbrev rm_LC_replace : Room := { frames := 7, cells := 1, slots := 6, locals := 103 }
def L_LC_replace : Nat → XS → Nat → Nat → Int32 → Int32 → (Int32 × XS) ⊕ String
  | 0, _, _, _, _, _ => .inr ""
  | n + 1, σ, i, kk, x4, x5 => (if (240 : Int32) ≤ x5 then .inl (x4, σ) else (if (if (σ.1 3 0 (x5 - x5 / (30 : Int32) * (30 : Int32)).toNatClampNeg) < (S_VE_lackOf σ i x5 (σ.1 5 kk x5.toNatClampNeg)) then (σ.1 3 0 (x5 - x5 / (30 : Int32) * (30 : Int32)).toNatClampNeg) else (S_VE_lackOf σ i x5 (σ.1 5 kk x5.toNatClampNeg))) ≤ 0 then (L_LC_replace n σ i kk x4 (x5 + 1)) else (if (S_VE_bears σ i x5 (if (σ.1 3 0 (x5 - x5 / (30 : Int32) * (30 : Int32)).toNatClampNeg) < (S_VE_lackOf σ i x5 (σ.1 5 kk x5.toNatClampNeg)) then (σ.1 3 0 (x5 - x5 / (30 : Int32) * (30 : Int32)).toNatClampNeg) else (S_VE_lackOf σ i x5 (σ.1 5 kk x5.toNatClampNeg))) (σ.1 1 0 (x5 - x5 / (30 : Int32) * (30 : Int32)).toNatClampNeg)) = 0 then (L_LC_replace n σ i kk x4 (x5 + 1)) else (L_LC_replace n (xuI (S_VE_load σ i x5 (if (σ.1 3 0 (x5 - x5 / (30 : Int32) * (30 : Int32)).toNatClampNeg) < (S_VE_lackOf σ i x5 (σ.1 5 kk x5.toNatClampNeg)) then (σ.1 3 0 (x5 - x5 / (30 : Int32) * (30 : Int32)).toNatClampNeg) else (S_VE_lackOf σ i x5 (σ.1 5 kk x5.toNatClampNeg))) (σ.1 1 0 (x5 - x5 / (30 : Int32) * (30 : Int32)).toNatClampNeg)).2 3 0 (x5 - x5 / (30 : Int32) * (30 : Int32)).toNatClampNeg ((((S_VE_load σ i x5 (if (σ.1 3 0 (x5 - x5 / (30 : Int32) * (30 : Int32)).toNatClampNeg) < (S_VE_lackOf σ i x5 (σ.1 5 kk x5.toNatClampNeg)) then (σ.1 3 0 (x5 - x5 / (30 : Int32) * (30 : Int32)).toNatClampNeg) else (S_VE_lackOf σ i x5 (σ.1 5 kk x5.toNatClampNeg))) (σ.1 1 0 (x5 - x5 / (30 : Int32) * (30 : Int32)).toNatClampNeg)).2).1 3 0 (x5 - x5 / (30 : Int32) * (30 : Int32)).toNatClampNeg) - (if (σ.1 3 0 (x5 - x5 / (30 : Int32) * (30 : Int32)).toNatClampNeg) < (S_VE_lackOf σ i x5 (σ.1 5 kk x5.toNatClampNeg)) then (σ.1 3 0 (x5 - x5 / (30 : Int32) * (30 : Int32)).toNatClampNeg) else (S_VE_lackOf σ i x5 (σ.1 5 kk x5.toNatClampNeg))))) i kk (x4 + (if (σ.1 3 0 (x5 - x5 / (30 : Int32) * (30 : Int32)).toNatClampNeg) < (S_VE_lackOf σ i x5 (σ.1 5 kk x5.toNatClampNeg)) then (σ.1 3 0 (x5 - x5 / (30 : Int32) * (30 : Int32)).toNatClampNeg) else (S_VE_lackOf σ i x5 (σ.1 5 kk x5.toNatClampNeg)))) (x5 + 1)))))
def S_LC_replace (σ : XS) (v : Int32) : (Int32 × XS) ⊕ String := (xbp (S_LC_knownVehicle σ v) fun v2 => (L_LC_replace 241 σ v2 ((σ.1 9 v2 5).toNatClampNeg) (0 : Int32) (0 : Int32)))
set_option maxHeartbeats 4000000 in
set_option maxRecDepth 100000 in
theorem l_LC_replace {l : Launch} {s0 : State} {A0 : Array Value} {D : va_G} {dA : Nat → ClassId} (h0 : XS0 l s0 A0 D dA) {p : Program} {e : Env} {s : State} {m : MethodId} {args : Array Value} {below : List Frame} {meth : Method} {c : Code} (hx : p.tables.exec = Jvm.exec) (hb : c.code = b_LC_replace) (hr : meth.sig.returnType = (some .int)) (hml : c.maxLocals = 8) (hown : s.vm.findClass "LoadChecks" = some m.cls) (hlocks : meth.locks = false) (hnt : c.exceptionTable.isEmpty = true) (hO : XO s0 s s.heap) :
    ∀ (n : Nat) (σ : XS) (i : Nat) (kk : Nat) (x4 : Int32) (x5 : Int32) (k : Nat), x5 = nI k → k + n = 241 → k < 241 → i < 16 → kk < 6 → ∀ {H : Heap} {locs : List Loc}, XWs D dA s0 σ H → va_S (xAm s0) s0.heap H locs → ∀ (ls : Array Slot), lv_has ls 8 [(0, .ref (xB s0 + XA 0 0)), (2, .ref (xB s0 + XA 9 i)), (3, .ref (xB s0 + XA 5 kk)), (4, .int x4), (5, .int x5)] → ∀ res, L_LC_replace n σ i kk x4 x5 = res →
    W p l e rm_LC_replace s m args below meth c H locs 1 6 (XMQ below (XQs D dA s0 xv_i res) args s 1 6 (xAm s0)) (F0 m 22 ls []) := by
  have hW0 := hO.1
  have hts := xs_w (args := args) h0 hW0
  have hK := xs_K h0 hW0
  intro n
  induction n with
  | zero =>
    intro σ i kk x4 x5 k e1 h2 h3
    exact absurd h2 (by omega)
  | succ n ih =>
    intro σ i kk x4 x5 k e_x5 hkn hkF hi_i hi_kk H locs hX hS ls hl res hR
    rw [L_LC_replace] at hR
    refine lv_iload hx hb d_LC_replace_22 (lv_at hl 4 rfl) ?_
    refine lv_sipush (v := 240) hx hb d_LC_replace_24 (by decide) ?_
    refine lv_icmp_ge (tgt := 122) hx hb d_LC_replace_27 (by decide) (fun c27 => ?_) (fun c27 => ?_)
    · rw [if_pos c27] at hR
      refine lv_iload hx hb d_LC_replace_122 (lv_at hl 3 rfl) ?_
      subst hR
      refine W.widen (k := 1) (n := 6) (by decide) (by decide) ?_; exact xs_i hx hb hr hlocks hX hS d_LC_replace_124
    · rw [if_neg c27] at hR
      have hk : k < 240 := x_klt (b := 240) rfl (by decide) (by omega) e_x5 c27
      have hcx : vp_in x5 240 := o_nI e_x5 hk (by decide)
      refine lv_iload hx hb d_LC_replace_30 (lv_at hl 4 rfl) ?_
      refine lv_bipush (v := 30) hx hb d_LC_replace_32 (by decide) ?_
      refine lv_irem hx hb d_LC_replace_34 (by decide) ?_
      refine lv_istore (lv' := [(6, .int (x5 - x5 / (30 : Int32) * (30 : Int32))), (0, .ref (xB s0 + XA 0 0)), (2, .ref (xB s0 + XA 9 i)), (3, .ref (xB s0 + XA 5 kk)), (4, .int x4), (5, .int x5)]) hx hb d_LC_replace_35 hl (by decide) rfl (fun ls hl => ?_)
      refine lv_aload_n hx hb d_LC_replace_37 rfl (lv_at hl 2 rfl) ?_
      refine lv_iload hx hb d_LC_replace_38 (lv_at hl 5 rfl) ?_
      refine lv_aload_n hx hb d_LC_replace_40 rfl (lv_at hl 3 rfl) ?_
      refine lv_iload hx hb d_LC_replace_41 (lv_at hl 5 rfl) ?_
      refine xw_iald (r := 5) (i := kk) hx hb hK hX hi_kk 0 rfl rfl (j := x5) hcx d_LC_replace_43 ?_
      obtain ⟨cB44, hcB44, hoB44, hkB44⟩ := xw_recv (r := 9) (i := i) hK hX hi_i rfl rfl
      refine xc_f (rest := []) (x_invVN (argsL := [.int x5, .int (σ.1 5 kk x5.toNatClampNeg)]) hx hb hown (xs_M h0 hW0 m_421) (hts _ w_423) (hts _ w_11) (x_code (hts _ w_424)) ⟨by decide, by decide⟩ hcB44 hoB44 hkB44 rfl rfl rfl d_LC_replace_44) (c_VE_lackOf h0 σ i x5 (σ.1 5 kk x5.toNatClampNeg) hi_i hcx) (xs_cw h0 hW0 m_424) (hts _ w_36) ⟨rfl, rfl, Nat.le_of_ble_eq_true rfl, Nat.le_of_ble_eq_true rfl⟩ (hl.1.trans hml.symm) (by rw [hb]; exact d_LC_replace_44) (Nat.le_of_ble_eq_true rfl) ⟨Nat.le_of_ble_eq_true rfl, Nat.le_of_ble_eq_true rfl⟩ hX ⟨hW0, xo_S hS⟩ ?_
      refine lv_aload_n hx hb d_LC_replace_47 rfl (lv_at hl 1 rfl) ?_
      refine xw_get (C := R_LC) (T := F_LC) (N := 9) (r := 0) (i := 0) hx hb hts hi_LC hown hK hX (by decide) rfl rfl 2 (by decide) (hts _ w_135) rfl rfl d_LC_replace_48 ?_
      refine lv_iload hx hb d_LC_replace_51 (lv_at hl 0 rfl) ?_
      refine xw_iald (r := 3) (i := 0) hx hb hK hX (by decide) 0 rfl rfl (j := (x5 - x5 / (30 : Int32) * (30 : Int32))) (o_rem hcx) d_LC_replace_53 ?_
      refine va_mmin hx hb (hml.trans hl.1.symm) hown (hts _ w_428) (hts _ w_429) (hts _ w_46) (hts _ w_430) (Nat.le_of_ble_eq_true rfl) (Nat.le_of_ble_eq_true rfl) (Nat.le_of_ble_eq_true rfl) (Nat.le_of_ble_eq_true rfl) d_LC_replace_54 ?_
      refine lv_istore (lv' := [(7, .int (if (σ.1 3 0 (x5 - x5 / (30 : Int32) * (30 : Int32)).toNatClampNeg) < (S_VE_lackOf σ i x5 (σ.1 5 kk x5.toNatClampNeg)) then (σ.1 3 0 (x5 - x5 / (30 : Int32) * (30 : Int32)).toNatClampNeg) else (S_VE_lackOf σ i x5 (σ.1 5 kk x5.toNatClampNeg)))), (6, .int (x5 - x5 / (30 : Int32) * (30 : Int32))), (0, .ref (xB s0 + XA 0 0)), (2, .ref (xB s0 + XA 9 i)), (3, .ref (xB s0 + XA 5 kk)), (4, .int x4), (5, .int x5)]) hx hb d_LC_replace_57 hl (by decide) rfl (fun ls hl => ?_)
      refine lv_iload hx hb d_LC_replace_59 (lv_at hl 0 rfl) ?_
      refine lv_if_le (tgt := 116) hx hb d_LC_replace_61 (by decide) (fun c61 => ?_) (fun c61 => ?_)
      · rw [if_pos c61] at hR
        refine lv_iinc (v := (x5 + 1)) (lv' := [(5, .int (x5 + 1)), (7, .int (if (σ.1 3 0 (x5 - x5 / (30 : Int32) * (30 : Int32)).toNatClampNeg) < (S_VE_lackOf σ i x5 (σ.1 5 kk x5.toNatClampNeg)) then (σ.1 3 0 (x5 - x5 / (30 : Int32) * (30 : Int32)).toNatClampNeg) else (S_VE_lackOf σ i x5 (σ.1 5 kk x5.toNatClampNeg)))), (6, .int (x5 - x5 / (30 : Int32) * (30 : Int32))), (0, .ref (xB s0 + XA 0 0)), (2, .ref (xB s0 + XA 9 i)), (3, .ref (xB s0 + XA 5 kk)), (4, .int x4)]) hx hb d_LC_replace_116 hl (k := 6) rfl rfl (by decide) rfl (fun ls hl => ?_)
        refine lv_goto (tgt := 22) hx hb d_LC_replace_119 (by decide) ?_
        exact ih σ i kk x4 (x5 + 1) (k + 1) (by rw [e_x5]; exact nI_1 k) (by omega) (by omega) hi_i hi_kk  hX hS ls (lv_sub hl [3, 4, 5, 6, 0] rfl) res hR
      · rw [if_neg c61] at hR
        refine lv_aload_n hx hb d_LC_replace_64 rfl (lv_at hl 3 rfl) ?_
        refine lv_iload hx hb d_LC_replace_65 (lv_at hl 6 rfl) ?_
        refine lv_iload hx hb d_LC_replace_67 (lv_at hl 0 rfl) ?_
        refine lv_aload_n hx hb d_LC_replace_69 rfl (lv_at hl 2 rfl) ?_
        refine xw_get (C := R_LC) (T := F_LC) (N := 9) (r := 0) (i := 0) hx hb hts hi_LC hown hK hX (by decide) rfl rfl 0 (by decide) (hts _ w_133) rfl rfl d_LC_replace_70 ?_
        refine lv_iload hx hb d_LC_replace_73 (lv_at hl 1 rfl) ?_
        refine xw_iald (r := 1) (i := 0) hx hb hK hX (by decide) 0 rfl rfl (j := (x5 - x5 / (30 : Int32) * (30 : Int32))) (o_rem hcx) d_LC_replace_75 ?_
        obtain ⟨cB76, hcB76, hoB76, hkB76⟩ := xw_recv (r := 9) (i := i) hK hX hi_i rfl rfl
        refine xc_f (rest := []) (x_invVN (argsL := [.int x5, .int (if (σ.1 3 0 (x5 - x5 / (30 : Int32) * (30 : Int32)).toNatClampNeg) < (S_VE_lackOf σ i x5 (σ.1 5 kk x5.toNatClampNeg)) then (σ.1 3 0 (x5 - x5 / (30 : Int32) * (30 : Int32)).toNatClampNeg) else (S_VE_lackOf σ i x5 (σ.1 5 kk x5.toNatClampNeg))), .int (σ.1 1 0 (x5 - x5 / (30 : Int32) * (30 : Int32)).toNatClampNeg)]) hx hb hown (xs_M h0 hW0 m_378) (hts _ w_380) (hts _ w_6) (x_code (hts _ w_381)) ⟨by decide, by decide⟩ hcB76 hoB76 hkB76 rfl rfl rfl d_LC_replace_76) (c_VE_bears h0 σ i x5 (if (σ.1 3 0 (x5 - x5 / (30 : Int32) * (30 : Int32)).toNatClampNeg) < (S_VE_lackOf σ i x5 (σ.1 5 kk x5.toNatClampNeg)) then (σ.1 3 0 (x5 - x5 / (30 : Int32) * (30 : Int32)).toNatClampNeg) else (S_VE_lackOf σ i x5 (σ.1 5 kk x5.toNatClampNeg))) (σ.1 1 0 (x5 - x5 / (30 : Int32) * (30 : Int32)).toNatClampNeg) hi_i hcx) (xs_cw h0 hW0 m_381) (hts _ w_36) ⟨rfl, rfl, Nat.le_of_ble_eq_true rfl, Nat.le_of_ble_eq_true rfl⟩ (hl.1.trans hml.symm) (by rw [hb]; exact d_LC_replace_76) (Nat.le_of_ble_eq_true rfl) ⟨Nat.le_of_ble_eq_true rfl, Nat.le_of_ble_eq_true rfl⟩ hX ⟨hW0, xo_S hS⟩ ?_
        refine lv_if_eq (tgt := 116) hx hb d_LC_replace_79 (by decide) (fun c79 => ?_) (fun c79 => ?_)
        · rw [if_pos c79] at hR
          refine lv_iinc (v := (x5 + 1)) (lv' := [(5, .int (x5 + 1)), (7, .int (if (σ.1 3 0 (x5 - x5 / (30 : Int32) * (30 : Int32)).toNatClampNeg) < (S_VE_lackOf σ i x5 (σ.1 5 kk x5.toNatClampNeg)) then (σ.1 3 0 (x5 - x5 / (30 : Int32) * (30 : Int32)).toNatClampNeg) else (S_VE_lackOf σ i x5 (σ.1 5 kk x5.toNatClampNeg)))), (6, .int (x5 - x5 / (30 : Int32) * (30 : Int32))), (0, .ref (xB s0 + XA 0 0)), (2, .ref (xB s0 + XA 9 i)), (3, .ref (xB s0 + XA 5 kk)), (4, .int x4)]) hx hb d_LC_replace_116 hl (k := 6) rfl rfl (by decide) rfl (fun ls hl => ?_)
          refine lv_goto (tgt := 22) hx hb d_LC_replace_119 (by decide) ?_
          exact ih σ i kk x4 (x5 + 1) (k + 1) (by rw [e_x5]; exact nI_1 k) (by omega) (by omega) hi_i hi_kk  hX hS ls (lv_sub hl [3, 4, 5, 6, 0] rfl) res hR
        · rw [if_neg c79] at hR
          refine lv_aload_n hx hb d_LC_replace_82 rfl (lv_at hl 3 rfl) ?_
          refine lv_iload hx hb d_LC_replace_83 (lv_at hl 6 rfl) ?_
          refine lv_iload hx hb d_LC_replace_85 (lv_at hl 0 rfl) ?_
          refine lv_aload_n hx hb d_LC_replace_87 rfl (lv_at hl 2 rfl) ?_
          refine xw_get (C := R_LC) (T := F_LC) (N := 9) (r := 0) (i := 0) hx hb hts hi_LC hown hK hX (by decide) rfl rfl 0 (by decide) (hts _ w_133) rfl rfl d_LC_replace_88 ?_
          refine lv_iload hx hb d_LC_replace_91 (lv_at hl 1 rfl) ?_
          refine xw_iald (r := 1) (i := 0) hx hb hK hX (by decide) 0 rfl rfl (j := (x5 - x5 / (30 : Int32) * (30 : Int32))) (o_rem hcx) d_LC_replace_93 ?_
          obtain ⟨cB94, hcB94, hoB94, hkB94⟩ := xw_recv (r := 9) (i := i) hK hX hi_i rfl rfl
          refine xc_s (rest := []) (x_invVN (argsL := [.int x5, .int (if (σ.1 3 0 (x5 - x5 / (30 : Int32) * (30 : Int32)).toNatClampNeg) < (S_VE_lackOf σ i x5 (σ.1 5 kk x5.toNatClampNeg)) then (σ.1 3 0 (x5 - x5 / (30 : Int32) * (30 : Int32)).toNatClampNeg) else (S_VE_lackOf σ i x5 (σ.1 5 kk x5.toNatClampNeg))), .int (σ.1 1 0 (x5 - x5 / (30 : Int32) * (30 : Int32)).toNatClampNeg)]) hx hb hown (xs_M h0 hW0 m_399) (hts _ w_401) (hts _ w_10) (x_code (hts _ w_402)) ⟨by decide, by decide⟩ hcB94 hoB94 hkB94 rfl rfl rfl d_LC_replace_94) (c_VE_load h0 σ i x5 (if (σ.1 3 0 (x5 - x5 / (30 : Int32) * (30 : Int32)).toNatClampNeg) < (S_VE_lackOf σ i x5 (σ.1 5 kk x5.toNatClampNeg)) then (σ.1 3 0 (x5 - x5 / (30 : Int32) * (30 : Int32)).toNatClampNeg) else (S_VE_lackOf σ i x5 (σ.1 5 kk x5.toNatClampNeg))) (σ.1 1 0 (x5 - x5 / (30 : Int32) * (30 : Int32)).toNatClampNeg) hi_i hcx) (xs_cw h0 hW0 m_402) (hts _ w_36) ⟨rfl, rfl, Nat.le_of_ble_eq_true rfl, Nat.le_of_ble_eq_true rfl⟩ (hl.1.trans hml.symm) (by rw [hb]; exact d_LC_replace_94) (Nat.le_of_ble_eq_true rfl) ⟨Nat.le_of_ble_eq_true rfl, Nat.le_of_ble_eq_true rfl⟩ hX hW0 hS (fun v94 σ94 H locs hM94 hX hS => ?_) (fun E x H1 locs1 hM => by cases hM)
          obtain ⟨ev94, es94⟩ := x_inl hM94
          subst es94
          refine lv_aload_n hx hb d_LC_replace_97 rfl (lv_at hl 2 rfl) ?_
          refine xw_get (C := R_LC) (T := F_LC) (N := 9) (r := 0) (i := 0) hx hb hts hi_LC hown hK hX (by decide) rfl rfl 2 (by decide) (hts _ w_135) rfl rfl d_LC_replace_98 ?_
          refine lv_iload hx hb d_LC_replace_101 (lv_at hl 1 rfl) ?_
          refine lv_dup2_11 hx hb d_LC_replace_103 rfl rfl ?_
          refine xw_iald (r := 3) (i := 0) hx hb hK hX (by decide) 0 rfl rfl (j := (x5 - x5 / (30 : Int32) * (30 : Int32))) (o_rem hcx) d_LC_replace_104 ?_
          refine lv_iload hx hb d_LC_replace_105 (lv_at hl 0 rfl) ?_
          refine lv_isub hx hb d_LC_replace_107 ?_
          refine xw_iast (r := 3) (i := 0) (ent' := XE dA (xB s0) (xuI (S_VE_load σ i x5 (if (σ.1 3 0 (x5 - x5 / (30 : Int32) * (30 : Int32)).toNatClampNeg) < (S_VE_lackOf σ i x5 (σ.1 5 kk x5.toNatClampNeg)) then (σ.1 3 0 (x5 - x5 / (30 : Int32) * (30 : Int32)).toNatClampNeg) else (S_VE_lackOf σ i x5 (σ.1 5 kk x5.toNatClampNeg))) (σ.1 1 0 (x5 - x5 / (30 : Int32) * (30 : Int32)).toNatClampNeg)).2 3 0 (x5 - x5 / (30 : Int32) * (30 : Int32)).toNatClampNeg ((((S_VE_load σ i x5 (if (σ.1 3 0 (x5 - x5 / (30 : Int32) * (30 : Int32)).toNatClampNeg) < (S_VE_lackOf σ i x5 (σ.1 5 kk x5.toNatClampNeg)) then (σ.1 3 0 (x5 - x5 / (30 : Int32) * (30 : Int32)).toNatClampNeg) else (S_VE_lackOf σ i x5 (σ.1 5 kk x5.toNatClampNeg))) (σ.1 1 0 (x5 - x5 / (30 : Int32) * (30 : Int32)).toNatClampNeg)).2).1 3 0 (x5 - x5 / (30 : Int32) * (30 : Int32)).toNatClampNeg) - (if (σ.1 3 0 (x5 - x5 / (30 : Int32) * (30 : Int32)).toNatClampNeg) < (S_VE_lackOf σ i x5 (σ.1 5 kk x5.toNatClampNeg)) then (σ.1 3 0 (x5 - x5 / (30 : Int32) * (30 : Int32)).toNatClampNeg) else (S_VE_lackOf σ i x5 (σ.1 5 kk x5.toNatClampNeg)))))) hx hb hK xInj hX hS (xA_in _ _ _) (by decide) 0 rfl rfl (j := (x5 - x5 / (30 : Int32) * (30 : Int32))) (o_rem hcx) ((xe_uI dA (xB s0) ((S_VE_load σ i x5 (if (σ.1 3 0 (x5 - x5 / (30 : Int32) * (30 : Int32)).toNatClampNeg) < (S_VE_lackOf σ i x5 (σ.1 5 kk x5.toNatClampNeg)) then (σ.1 3 0 (x5 - x5 / (30 : Int32) * (30 : Int32)).toNatClampNeg) else (S_VE_lackOf σ i x5 (σ.1 5 kk x5.toNatClampNeg))) (σ.1 1 0 (x5 - x5 / (30 : Int32) * (30 : Int32)).toNatClampNeg)).2) 3 0 (x5 - x5 / (30 : Int32) * (30 : Int32)).toNatClampNeg ((((S_VE_load σ i x5 (if (σ.1 3 0 (x5 - x5 / (30 : Int32) * (30 : Int32)).toNatClampNeg) < (S_VE_lackOf σ i x5 (σ.1 5 kk x5.toNatClampNeg)) then (σ.1 3 0 (x5 - x5 / (30 : Int32) * (30 : Int32)).toNatClampNeg) else (S_VE_lackOf σ i x5 (σ.1 5 kk x5.toNatClampNeg))) (σ.1 1 0 (x5 - x5 / (30 : Int32) * (30 : Int32)).toNatClampNeg)).2).1 3 0 (x5 - x5 / (30 : Int32) * (30 : Int32)).toNatClampNeg) - (if (σ.1 3 0 (x5 - x5 / (30 : Int32) * (30 : Int32)).toNatClampNeg) < (S_VE_lackOf σ i x5 (σ.1 5 kk x5.toNatClampNeg)) then (σ.1 3 0 (x5 - x5 / (30 : Int32) * (30 : Int32)).toNatClampNeg) else (S_VE_lackOf σ i x5 (σ.1 5 kk x5.toNatClampNeg))))).trans rfl) (xe_oI dA (xB s0) ((S_VE_load σ i x5 (if (σ.1 3 0 (x5 - x5 / (30 : Int32) * (30 : Int32)).toNatClampNeg) < (S_VE_lackOf σ i x5 (σ.1 5 kk x5.toNatClampNeg)) then (σ.1 3 0 (x5 - x5 / (30 : Int32) * (30 : Int32)).toNatClampNeg) else (S_VE_lackOf σ i x5 (σ.1 5 kk x5.toNatClampNeg))) (σ.1 1 0 (x5 - x5 / (30 : Int32) * (30 : Int32)).toNatClampNeg)).2) 3 0 (x5 - x5 / (30 : Int32) * (30 : Int32)).toNatClampNeg ((((S_VE_load σ i x5 (if (σ.1 3 0 (x5 - x5 / (30 : Int32) * (30 : Int32)).toNatClampNeg) < (S_VE_lackOf σ i x5 (σ.1 5 kk x5.toNatClampNeg)) then (σ.1 3 0 (x5 - x5 / (30 : Int32) * (30 : Int32)).toNatClampNeg) else (S_VE_lackOf σ i x5 (σ.1 5 kk x5.toNatClampNeg))) (σ.1 1 0 (x5 - x5 / (30 : Int32) * (30 : Int32)).toNatClampNeg)).2).1 3 0 (x5 - x5 / (30 : Int32) * (30 : Int32)).toNatClampNeg) - (if (σ.1 3 0 (x5 - x5 / (30 : Int32) * (30 : Int32)).toNatClampNeg) < (S_VE_lackOf σ i x5 (σ.1 5 kk x5.toNatClampNeg)) then (σ.1 3 0 (x5 - x5 / (30 : Int32) * (30 : Int32)).toNatClampNeg) else (S_VE_lackOf σ i x5 (σ.1 5 kk x5.toNatClampNeg))))) d_LC_replace_108 (fun H locs hX hS => ?_)
          refine lv_iload hx hb d_LC_replace_109 (lv_at hl 5 rfl) ?_
          refine lv_iload hx hb d_LC_replace_111 (lv_at hl 0 rfl) ?_
          refine lv_iadd hx hb d_LC_replace_113 ?_
          refine lv_istore (lv' := [(4, .int (x4 + (if (σ.1 3 0 (x5 - x5 / (30 : Int32) * (30 : Int32)).toNatClampNeg) < (S_VE_lackOf σ i x5 (σ.1 5 kk x5.toNatClampNeg)) then (σ.1 3 0 (x5 - x5 / (30 : Int32) * (30 : Int32)).toNatClampNeg) else (S_VE_lackOf σ i x5 (σ.1 5 kk x5.toNatClampNeg))))), (7, .int (if (σ.1 3 0 (x5 - x5 / (30 : Int32) * (30 : Int32)).toNatClampNeg) < (S_VE_lackOf σ i x5 (σ.1 5 kk x5.toNatClampNeg)) then (σ.1 3 0 (x5 - x5 / (30 : Int32) * (30 : Int32)).toNatClampNeg) else (S_VE_lackOf σ i x5 (σ.1 5 kk x5.toNatClampNeg)))), (6, .int (x5 - x5 / (30 : Int32) * (30 : Int32))), (0, .ref (xB s0 + XA 0 0)), (2, .ref (xB s0 + XA 9 i)), (3, .ref (xB s0 + XA 5 kk)), (5, .int x5)]) hx hb d_LC_replace_114 hl (by decide) rfl (fun ls hl => ?_)
          refine lv_iinc (v := (x5 + 1)) (lv' := [(5, .int (x5 + 1)), (4, .int (x4 + (if (σ.1 3 0 (x5 - x5 / (30 : Int32) * (30 : Int32)).toNatClampNeg) < (S_VE_lackOf σ i x5 (σ.1 5 kk x5.toNatClampNeg)) then (σ.1 3 0 (x5 - x5 / (30 : Int32) * (30 : Int32)).toNatClampNeg) else (S_VE_lackOf σ i x5 (σ.1 5 kk x5.toNatClampNeg))))), (7, .int (if (σ.1 3 0 (x5 - x5 / (30 : Int32) * (30 : Int32)).toNatClampNeg) < (S_VE_lackOf σ i x5 (σ.1 5 kk x5.toNatClampNeg)) then (σ.1 3 0 (x5 - x5 / (30 : Int32) * (30 : Int32)).toNatClampNeg) else (S_VE_lackOf σ i x5 (σ.1 5 kk x5.toNatClampNeg)))), (6, .int (x5 - x5 / (30 : Int32) * (30 : Int32))), (0, .ref (xB s0 + XA 0 0)), (2, .ref (xB s0 + XA 9 i)), (3, .ref (xB s0 + XA 5 kk))]) hx hb d_LC_replace_116 hl (k := 6) rfl rfl (by decide) rfl (fun ls hl => ?_)
          refine lv_goto (tgt := 22) hx hb d_LC_replace_119 (by decide) ?_
          exact ih (xuI (S_VE_load σ i x5 (if (σ.1 3 0 (x5 - x5 / (30 : Int32) * (30 : Int32)).toNatClampNeg) < (S_VE_lackOf σ i x5 (σ.1 5 kk x5.toNatClampNeg)) then (σ.1 3 0 (x5 - x5 / (30 : Int32) * (30 : Int32)).toNatClampNeg) else (S_VE_lackOf σ i x5 (σ.1 5 kk x5.toNatClampNeg))) (σ.1 1 0 (x5 - x5 / (30 : Int32) * (30 : Int32)).toNatClampNeg)).2 3 0 (x5 - x5 / (30 : Int32) * (30 : Int32)).toNatClampNeg ((((S_VE_load σ i x5 (if (σ.1 3 0 (x5 - x5 / (30 : Int32) * (30 : Int32)).toNatClampNeg) < (S_VE_lackOf σ i x5 (σ.1 5 kk x5.toNatClampNeg)) then (σ.1 3 0 (x5 - x5 / (30 : Int32) * (30 : Int32)).toNatClampNeg) else (S_VE_lackOf σ i x5 (σ.1 5 kk x5.toNatClampNeg))) (σ.1 1 0 (x5 - x5 / (30 : Int32) * (30 : Int32)).toNatClampNeg)).2).1 3 0 (x5 - x5 / (30 : Int32) * (30 : Int32)).toNatClampNeg) - (if (σ.1 3 0 (x5 - x5 / (30 : Int32) * (30 : Int32)).toNatClampNeg) < (S_VE_lackOf σ i x5 (σ.1 5 kk x5.toNatClampNeg)) then (σ.1 3 0 (x5 - x5 / (30 : Int32) * (30 : Int32)).toNatClampNeg) else (S_VE_lackOf σ i x5 (σ.1 5 kk x5.toNatClampNeg))))) i kk (x4 + (if (σ.1 3 0 (x5 - x5 / (30 : Int32) * (30 : Int32)).toNatClampNeg) < (S_VE_lackOf σ i x5 (σ.1 5 kk x5.toNatClampNeg)) then (σ.1 3 0 (x5 - x5 / (30 : Int32) * (30 : Int32)).toNatClampNeg) else (S_VE_lackOf σ i x5 (σ.1 5 kk x5.toNatClampNeg)))) (x5 + 1) (k + 1) (by rw [e_x5]; exact nI_1 k) (by omega) (by omega) hi_i hi_kk  hX hS ls (lv_sub hl [4, 5, 6, 1, 0] rfl) res hR
set_option maxHeartbeats 4000000 in
set_option maxRecDepth 100000 in
theorem c_LC_replace {l : Launch} {s0 : State} {A0 : Array Value} {D : va_G} {dA : Nat → ClassId} (h0 : XS0 l s0 A0 D dA) (σ : XS) (v : Int32) (hok : XOk σ) : XMet l y_LC_replace [cw_LC_replace] rm_LC_replace (XP D dA s0 σ [.ref (xB s0 + XA 0 0), .int v]) (XQs D dA s0 xv_i (S_LC_replace σ v)) 1 6 (xAm s0) := by
  refine XMet.ofW (cc := b_LC_replace) (maxL := 8) (ret := (some .int)) (by decide) rfl ?_
  intro p e s m args below meth c s₁ Bd hml hv
  obtain ⟨rfl, hX, hO⟩ := hv
  have hx := Bd.exec
  have hb := Bd.bytes
  have hr := Bd.returns
  have hown : s.vm.findClass "LoadChecks" = some m.cls := findClass_of_methodNamed Bd.named
  have hlocks := Bd.notSynchronized
  have hnt : c.exceptionTable.isEmpty = true := Bd.noHandlers (atoms_spec (ws := [cw_LC_replace]) Bd.pre _ List.mem_cons_self)
  have hW0 := hO.1
  have hts := xs_w (args := ([.ref (xB s0 + XA 0 0), .int v] : List Value).toArray) h0 hW0
  have hK := xs_K h0 hW0
  have hS := xo_S0 hO
  have hl := lv_entry ([.ref (xB s0 + XA 0 0), .int v]) (n := 8) (Nat.le_of_ble_eq_true rfl)
  rw [lg_entry_eq]
  generalize (lg_sl ([.ref (xB s0 + XA 0 0), .int v]) ++ List.replicate (8 - (lg_sl ([.ref (xB s0 + XA 0 0), .int v])).length) Slot.unset).toArray = ls at hl ⊢
  have hl : lv_has ls 8 [(0, .ref (xB s0 + XA 0 0)), (1, .int v)] := hl
  generalize hR : S_LC_replace σ v = res
  unfold S_LC_replace at hR
  refine lv_aload_n hx hb d_LC_replace_0 rfl (lv_at hl 0 rfl) ?_
  refine lv_iload_n hx hb d_LC_replace_1 rfl (lv_at hl 1 rfl) ?_
  obtain ⟨cB2, hcB2, hoB2, hkB2⟩ := xw_recv (r := 0) (i := 0) hK hX (by decide) rfl rfl
  refine xc_p (rest := []) (x_invV (argsL := [.int v]) hx hb hown (hts _ w_290) (hts _ w_292) (hts _ w_1) (x_code (hts _ w_293)) ⟨by decide, by decide⟩ hcB2 hoB2 hkB2 rfl rfl rfl d_LC_replace_2) (c_LC_knownVehicle h0 σ v hok) (xs_cw h0 hW0 m_293) (hts _ w_34) ⟨rfl, rfl, Nat.le_of_ble_eq_true rfl, Nat.le_of_ble_eq_true rfl⟩ (hl.1.trans hml.symm) (by rw [hb]; exact d_LC_replace_2) (Nat.le_of_ble_eq_true rfl) ⟨Nat.le_of_ble_eq_true rfl, Nat.le_of_ble_eq_true rfl⟩ hX ⟨hW0, xo_S hS⟩ (fun v2 hM2 => ?_) (fun E2 x2 H2 hM2 hE2 he2 => ?_)
  · rw [hM2] at hR
    dsimp only [xbp] at hR
    have f2 := f_known hok hM2
    refine lv_astore_n (lv' := [(2, .ref (xB s0 + XA 9 v2)), (0, .ref (xB s0 + XA 0 0)), (1, .int v)]) hx hb d_LC_replace_5 rfl hl (by decide) rfl (fun ls hl => ?_)
    refine lv_aload_n hx hb d_LC_replace_6 rfl (lv_at hl 1 rfl) ?_
    refine xw_get (C := R_LC) (T := F_LC) (N := 9) (r := 0) (i := 0) hx hb hts hi_LC hown hK hX (by decide) rfl rfl 3 (by decide) (hts _ w_136) rfl rfl d_LC_replace_7 ?_
    refine lv_aload_n hx hb d_LC_replace_10 rfl (lv_at hl 0 rfl) ?_
    refine xw_getN (C := R_VE) (T := F_VE) (N := 13) (r := 9) (i := v2) hx hb hts hi_VE hown hK hX f2 rfl rfl 5 (by decide) (xs_N h0 hW0 m_92) rfl rfl d_LC_replace_11 ?_
    refine xw_aald (r := 4) (i := 0) hx hb hK hX (by decide) 3 rfl rfl rfl (j := (σ.1 9 v2 5)) (hok.2.1 _ f2) rfl d_LC_replace_14 ?_
    refine lv_astore_n (lv' := [(3, .ref (xB s0 + XA 5 ((σ.1 9 v2 5).toNatClampNeg))), (2, .ref (xB s0 + XA 9 v2)), (0, .ref (xB s0 + XA 0 0)), (1, .int v)]) hx hb d_LC_replace_15 rfl hl (by decide) rfl (fun ls hl => ?_)
    refine lv_iconst (v := 0) hx hb d_LC_replace_16 (by decide) ?_
    refine lv_istore (lv' := [(4, .int (0 : Int32)), (3, .ref (xB s0 + XA 5 ((σ.1 9 v2 5).toNatClampNeg))), (2, .ref (xB s0 + XA 9 v2)), (0, .ref (xB s0 + XA 0 0)), (1, .int v)]) hx hb d_LC_replace_17 hl (by decide) rfl (fun ls hl => ?_)
    refine lv_iconst (v := 0) hx hb d_LC_replace_19 (by decide) ?_
    refine lv_istore (lv' := [(5, .int (0 : Int32)), (4, .int (0 : Int32)), (3, .ref (xB s0 + XA 5 ((σ.1 9 v2 5).toNatClampNeg))), (2, .ref (xB s0 + XA 9 v2)), (0, .ref (xB s0 + XA 0 0)), (1, .int v)]) hx hb d_LC_replace_20 hl (by decide) rfl (fun ls hl => ?_)
    refine W.widen (k := 1) (n := 6) (by decide) (by decide) ?_; exact l_LC_replace h0 hx hb hr hml hown hlocks hnt hO 241 σ v2 ((σ.1 9 v2 5).toNatClampNeg) (0 : Int32) (0 : Int32) 0 nI_0.symm rfl (by decide) f2 (vp_lt (hok.2.1 _ f2))  hX hS ls (lv_sub hl [4, 3, 2, 1, 0] rfl) res hR
  · rw [hM2] at hR
    dsimp only [xbp] at hR
    subst hR
    refine xt_wid (k := 1) (n := 6) (by decide) (by decide) ?_
    exact xt_s hlocks hnt hE2 he2 (fun q h => by cases h)

abbrev rm_LC_swap : Room := { frames := 7, cells := 9, slots := 54, locals := 105 }
def S_LC_swap (σ : XS) (v : Int32) (u : Int32) (cup : Int32) (it : Int32) (n : Int32) : (Unit × XS) ⊕ String := (xbp (S_LC_knownVehicle σ v) fun v2 => (xbp (S_LC_knownVehicle σ u) fun v9 => (if v = u then .inr "java/lang/IllegalArgumentException" else (xbp (S_LC_requireCupboard σ cup) fun _ => (xbp (S_LC_requireItem σ it) fun _ => (xbp (S_LC_requireRange σ n (1 : Int32) (99 : Int32)) fun _ => (xbp (S_LC_requireSoMany σ v2 (S_LC_cellOf σ cup it) n) fun _ => (xbp (S_LC_requireBearable σ v9 (S_LC_cellOf σ cup it) n) fun _ => (xbp (S_LC_requireRoom σ v9 (S_LC_cellOf σ cup it) n) fun _ => .inl ((), (S_RW_add ((S_RW_add ((S_VE_load ((S_VE_load σ v2 (S_LC_cellOf σ cup it) (-n) (σ.1 1 0 it.toNatClampNeg)).2) v9 (S_LC_cellOf σ cup it) n (((S_VE_load σ v2 (S_LC_cellOf σ cup it) (-n) (σ.1 1 0 it.toNatClampNeg)).2).1 1 0 it.toNatClampNeg)).2) v it (-n)).2) u it n).2))))))))))
set_option maxHeartbeats 4000000 in
set_option maxRecDepth 100000 in
theorem c_LC_swap {l : Launch} {s0 : State} {A0 : Array Value} {D : va_G} {dA : Nat → ClassId} (h0 : XS0 l s0 A0 D dA) (σ : XS) (v : Int32) (u : Int32) (cup : Int32) (it : Int32) (n : Int32) (hok : XOk σ) : XMet l y_LC_swap [cw_LC_swap] rm_LC_swap (XP D dA s0 σ [.ref (xB s0 + XA 0 0), .int v, .int u, .int cup, .int it, .int n]) (XQs D dA s0 xv_v (S_LC_swap σ v u cup it n)) 9 54 (xAm s0) := by
  refine XMet.ofW (cc := b_LC_swap) (maxL := 9) (ret := none) (by decide) rfl ?_
  intro p e s m args below meth c s₁ Bd hml hv
  obtain ⟨rfl, hX, hO⟩ := hv
  have hx := Bd.exec
  have hb := Bd.bytes
  have hr := Bd.returns
  have hown : s.vm.findClass "LoadChecks" = some m.cls := findClass_of_methodNamed Bd.named
  have hlocks := Bd.notSynchronized
  have hnt : c.exceptionTable.isEmpty = true := Bd.noHandlers (atoms_spec (ws := [cw_LC_swap]) Bd.pre _ List.mem_cons_self)
  have hW0 := hO.1
  have hts := xs_w (args := ([.ref (xB s0 + XA 0 0), .int v, .int u, .int cup, .int it, .int n] : List Value).toArray) h0 hW0
  have hK := xs_K h0 hW0
  have hS := xo_S0 hO
  have hl := lv_entry ([.ref (xB s0 + XA 0 0), .int v, .int u, .int cup, .int it, .int n]) (n := 9) (Nat.le_of_ble_eq_true rfl)
  rw [lg_entry_eq]
  generalize (lg_sl ([.ref (xB s0 + XA 0 0), .int v, .int u, .int cup, .int it, .int n]) ++ List.replicate (9 - (lg_sl ([.ref (xB s0 + XA 0 0), .int v, .int u, .int cup, .int it, .int n])).length) Slot.unset).toArray = ls at hl ⊢
  have hl : lv_has ls 9 [(0, .ref (xB s0 + XA 0 0)), (1, .int v), (2, .int u), (3, .int cup), (4, .int it), (5, .int n)] := hl
  generalize hR : S_LC_swap σ v u cup it n = res
  unfold S_LC_swap at hR
  refine lv_aload_n hx hb d_LC_swap_0 rfl (lv_at hl 0 rfl) ?_
  refine lv_iload_n hx hb d_LC_swap_1 rfl (lv_at hl 1 rfl) ?_
  obtain ⟨cB2, hcB2, hoB2, hkB2⟩ := xw_recv (r := 0) (i := 0) hK hX (by decide) rfl rfl
  refine xc_p (rest := []) (x_invV (argsL := [.int v]) hx hb hown (hts _ w_290) (hts _ w_292) (hts _ w_1) (x_code (hts _ w_293)) ⟨by decide, by decide⟩ hcB2 hoB2 hkB2 rfl rfl rfl d_LC_swap_2) (c_LC_knownVehicle h0 σ v hok) (xs_cw h0 hW0 m_293) (hts _ w_34) ⟨rfl, rfl, Nat.le_of_ble_eq_true rfl, Nat.le_of_ble_eq_true rfl⟩ (hl.1.trans hml.symm) (by rw [hb]; exact d_LC_swap_2) (Nat.le_of_ble_eq_true rfl) ⟨Nat.le_of_ble_eq_true rfl, Nat.le_of_ble_eq_true rfl⟩ hX ⟨hW0, xo_S hS⟩ (fun v2 hM2 => ?_) (fun E2 x2 H2 hM2 hE2 he2 => ?_)
  · rw [hM2] at hR
    dsimp only [xbp] at hR
    have f2 := f_known hok hM2
    refine lv_astore (lv' := [(6, .ref (xB s0 + XA 9 v2)), (0, .ref (xB s0 + XA 0 0)), (1, .int v), (2, .int u), (3, .int cup), (4, .int it), (5, .int n)]) hx hb d_LC_swap_5 hl (by decide) rfl (fun ls hl => ?_)
    refine lv_aload_n hx hb d_LC_swap_7 rfl (lv_at hl 1 rfl) ?_
    refine lv_iload_n hx hb d_LC_swap_8 rfl (lv_at hl 3 rfl) ?_
    obtain ⟨cB9, hcB9, hoB9, hkB9⟩ := xw_recv (r := 0) (i := 0) hK hX (by decide) rfl rfl
    refine xc_p (rest := []) (x_invV (argsL := [.int u]) hx hb hown (hts _ w_290) (hts _ w_292) (hts _ w_1) (x_code (hts _ w_293)) ⟨by decide, by decide⟩ hcB9 hoB9 hkB9 rfl rfl rfl d_LC_swap_9) (c_LC_knownVehicle h0 σ u hok) (xs_cw h0 hW0 m_293) (hts _ w_34) ⟨rfl, rfl, Nat.le_of_ble_eq_true rfl, Nat.le_of_ble_eq_true rfl⟩ (hl.1.trans hml.symm) (by rw [hb]; exact d_LC_swap_9) (Nat.le_of_ble_eq_true rfl) ⟨Nat.le_of_ble_eq_true rfl, Nat.le_of_ble_eq_true rfl⟩ hX ⟨hW0, xo_S hS⟩ (fun v9 hM9 => ?_) (fun E9 x9 H9 hM9 hE9 he9 => ?_)
    · rw [hM9] at hR
      dsimp only [xbp] at hR
      have f9 := f_known hok hM9
      refine lv_astore (lv' := [(7, .ref (xB s0 + XA 9 v9)), (6, .ref (xB s0 + XA 9 v2)), (0, .ref (xB s0 + XA 0 0)), (1, .int v), (2, .int u), (3, .int cup), (4, .int it), (5, .int n)]) hx hb d_LC_swap_12 hl (by decide) rfl (fun ls hl => ?_)
      refine lv_iload_n hx hb d_LC_swap_14 rfl (lv_at hl 3 rfl) ?_
      refine lv_iload_n hx hb d_LC_swap_15 rfl (lv_at hl 4 rfl) ?_
      refine lv_icmp_ne (tgt := 29) hx hb d_LC_swap_16 (by decide) (fun c16 => ?_) (fun c16 => ?_)
      · rw [if_neg c16] at hR
        refine lv_iload_n hx hb d_LC_swap_29 rfl (lv_at hl 5 rfl) ?_
        refine xc_p (rest := []) (x_invS (argsL := [.int cup]) hx hb hown (hts _ w_303) (hts _ w_304) (hts _ w_34) (x_code (hts _ w_305)) ⟨by decide, by decide⟩ rfl rfl rfl d_LC_swap_30) (c_LC_requireCupboard h0 σ cup) (xs_cw h0 hW0 m_305) (hts _ w_34) ⟨rfl, rfl, Nat.le_of_ble_eq_true rfl, Nat.le_of_ble_eq_true rfl⟩ (hl.1.trans hml.symm) (by rw [hb]; exact d_LC_swap_30) (Nat.le_of_ble_eq_true rfl) ⟨Nat.le_of_ble_eq_true rfl, Nat.le_of_ble_eq_true rfl⟩ hX ⟨hW0, xo_S hS⟩ (fun v30 hM30 => ?_) (fun E30 x30 H30 hM30 hE30 he30 => ?_)
        · rw [hM30] at hR
          dsimp only [xbp] at hR
          have f30 := f_cup hM30
          refine lv_iload hx hb d_LC_swap_33 (lv_at hl 6 rfl) ?_
          refine xc_p (rest := []) (x_invS (argsL := [.int it]) hx hb hown (hts _ w_337) (hts _ w_338) (hts _ w_34) (x_code (hts _ w_339)) ⟨by decide, by decide⟩ rfl rfl rfl d_LC_swap_35) (c_LC_requireItem h0 σ it) (xs_cw h0 hW0 m_339) (hts _ w_34) ⟨rfl, rfl, Nat.le_of_ble_eq_true rfl, Nat.le_of_ble_eq_true rfl⟩ (hl.1.trans hml.symm) (by rw [hb]; exact d_LC_swap_35) (Nat.le_of_ble_eq_true rfl) ⟨Nat.le_of_ble_eq_true rfl, Nat.le_of_ble_eq_true rfl⟩ hX ⟨hW0, xo_S hS⟩ (fun v35 hM35 => ?_) (fun E35 x35 H35 hM35 hE35 he35 => ?_)
          · rw [hM35] at hR
            dsimp only [xbp] at hR
            have f35 := f_item hM35
            refine lv_iload hx hb d_LC_swap_38 (lv_at hl 7 rfl) ?_
            refine lv_iconst (v := 1) hx hb d_LC_swap_40 (by decide) ?_
            refine lv_bipush (v := 99) hx hb d_LC_swap_41 (by decide) ?_
            refine xc_p (rest := []) (x_invS (argsL := [.int n, .int (1 : Int32), .int (99 : Int32)]) hx hb hown (hts _ w_244) (hts _ w_245) (hts _ w_34) (x_code (hts _ w_246)) ⟨by decide, by decide⟩ rfl rfl rfl d_LC_swap_43) (c_LC_requireRange h0 σ n (1 : Int32) (99 : Int32)) (xs_cw h0 hW0 m_246) (hts _ w_34) ⟨rfl, rfl, Nat.le_of_ble_eq_true rfl, Nat.le_of_ble_eq_true rfl⟩ (hl.1.trans hml.symm) (by rw [hb]; exact d_LC_swap_43) (Nat.le_of_ble_eq_true rfl) ⟨Nat.le_of_ble_eq_true rfl, Nat.le_of_ble_eq_true rfl⟩ hX ⟨hW0, xo_S hS⟩ (fun v43 hM43 => ?_) (fun E43 x43 H43 hM43 hE43 he43 => ?_)
            · rw [hM43] at hR
              dsimp only [xbp] at hR
              refine lv_iload_n hx hb d_LC_swap_46 rfl (lv_at hl 5 rfl) ?_
              refine lv_iload hx hb d_LC_swap_47 (lv_at hl 6 rfl) ?_
              refine xc_f (rest := []) (x_invS (argsL := [.int cup, .int it]) hx hb hown (hts _ w_358) (hts _ w_312) (hts _ w_34) (x_code (hts _ w_313)) ⟨by decide, by decide⟩ rfl rfl rfl d_LC_swap_49) (c_LC_cellOf h0 σ cup it) (xs_cw h0 hW0 m_313) (hts _ w_34) ⟨rfl, rfl, Nat.le_of_ble_eq_true rfl, Nat.le_of_ble_eq_true rfl⟩ (hl.1.trans hml.symm) (by rw [hb]; exact d_LC_swap_49) (Nat.le_of_ble_eq_true rfl) ⟨Nat.le_of_ble_eq_true rfl, Nat.le_of_ble_eq_true rfl⟩ hX ⟨hW0, xo_S hS⟩ ?_
              refine lv_istore (lv' := [(8, .int (S_LC_cellOf σ cup it)), (7, .ref (xB s0 + XA 9 v9)), (6, .ref (xB s0 + XA 9 v2)), (0, .ref (xB s0 + XA 0 0)), (1, .int v), (2, .int u), (3, .int cup), (4, .int it), (5, .int n)]) hx hb d_LC_swap_52 hl (by decide) rfl (fun ls hl => ?_)
              refine lv_aload hx hb d_LC_swap_54 (lv_at hl 2 rfl) ?_
              refine lv_iload hx hb d_LC_swap_56 (lv_at hl 0 rfl) ?_
              refine lv_iload hx hb d_LC_swap_58 (lv_at hl 8 rfl) ?_
              refine xc_p (rest := []) (x_invS (argsL := [.ref (xB s0 + XA 9 v2), .int (S_LC_cellOf σ cup it), .int n]) hx hb hown (hts _ w_410) (hts _ w_411) (hts _ w_34) (x_code (hts _ w_412)) ⟨by decide, by decide⟩ rfl rfl rfl d_LC_swap_60) (c_LC_requireSoMany h0 σ v2 (S_LC_cellOf σ cup it) n f2 (o_cell f30 f35)) (xs_cw h0 hW0 m_412) (hts _ w_34) ⟨rfl, rfl, Nat.le_of_ble_eq_true rfl, Nat.le_of_ble_eq_true rfl⟩ (hl.1.trans hml.symm) (by rw [hb]; exact d_LC_swap_60) (Nat.le_of_ble_eq_true rfl) ⟨Nat.le_of_ble_eq_true rfl, Nat.le_of_ble_eq_true rfl⟩ hX ⟨hW0, xo_S hS⟩ (fun v60 hM60 => ?_) (fun E60 x60 H60 hM60 hE60 he60 => ?_)
              · rw [hM60] at hR
                dsimp only [xbp] at hR
                refine lv_aload_n hx hb d_LC_swap_63 rfl (lv_at hl 3 rfl) ?_
                refine lv_aload hx hb d_LC_swap_64 (lv_at hl 1 rfl) ?_
                refine lv_iload hx hb d_LC_swap_66 (lv_at hl 0 rfl) ?_
                refine lv_iload hx hb d_LC_swap_68 (lv_at hl 8 rfl) ?_
                obtain ⟨cB70, hcB70, hoB70, hkB70⟩ := xw_recv (r := 0) (i := 0) hK hX (by decide) rfl rfl
                refine xc_p (rest := []) (x_invV (argsL := [.ref (xB s0 + XA 9 v9), .int (S_LC_cellOf σ cup it), .int n]) hx hb hown (hts _ w_374) (hts _ w_376) (hts _ w_5) (x_code (hts _ w_377)) ⟨by decide, by decide⟩ hcB70 hoB70 hkB70 rfl rfl rfl d_LC_swap_70) (c_LC_requireBearable h0 σ v9 (S_LC_cellOf σ cup it) n f9 (o_cell f30 f35)) (xs_cw h0 hW0 m_377) (hts _ w_34) ⟨rfl, rfl, Nat.le_of_ble_eq_true rfl, Nat.le_of_ble_eq_true rfl⟩ (hl.1.trans hml.symm) (by rw [hb]; exact d_LC_swap_70) (Nat.le_of_ble_eq_true rfl) ⟨Nat.le_of_ble_eq_true rfl, Nat.le_of_ble_eq_true rfl⟩ hX ⟨hW0, xo_S hS⟩ (fun v70 hM70 => ?_) (fun E70 x70 H70 hM70 hE70 he70 => ?_)
                · rw [hM70] at hR
                  dsimp only [xbp] at hR
                  refine lv_aload hx hb d_LC_swap_73 (lv_at hl 1 rfl) ?_
                  refine lv_iload hx hb d_LC_swap_75 (lv_at hl 0 rfl) ?_
                  refine lv_iload hx hb d_LC_swap_77 (lv_at hl 8 rfl) ?_
                  refine xc_p (rest := []) (x_invS (argsL := [.ref (xB s0 + XA 9 v9), .int (S_LC_cellOf σ cup it), .int n]) hx hb hown (hts _ w_395) (hts _ w_396) (hts _ w_34) (x_code (hts _ w_397)) ⟨by decide, by decide⟩ rfl rfl rfl d_LC_swap_79) (c_LC_requireRoom h0 σ v9 (S_LC_cellOf σ cup it) n f9 (o_cell f30 f35)) (xs_cw h0 hW0 m_397) (hts _ w_34) ⟨rfl, rfl, Nat.le_of_ble_eq_true rfl, Nat.le_of_ble_eq_true rfl⟩ (hl.1.trans hml.symm) (by rw [hb]; exact d_LC_swap_79) (Nat.le_of_ble_eq_true rfl) ⟨Nat.le_of_ble_eq_true rfl, Nat.le_of_ble_eq_true rfl⟩ hX ⟨hW0, xo_S hS⟩ (fun v79 hM79 => ?_) (fun E79 x79 H79 hM79 hE79 he79 => ?_)
                  · rw [hM79] at hR
                    dsimp only [xbp] at hR
                    refine lv_aload hx hb d_LC_swap_82 (lv_at hl 2 rfl) ?_
                    refine lv_iload hx hb d_LC_swap_84 (lv_at hl 0 rfl) ?_
                    refine lv_iload hx hb d_LC_swap_86 (lv_at hl 8 rfl) ?_
                    refine lv_ineg hx hb d_LC_swap_88 ?_
                    refine lv_aload_n hx hb d_LC_swap_89 rfl (lv_at hl 3 rfl) ?_
                    refine xw_get (C := R_LC) (T := F_LC) (N := 9) (r := 0) (i := 0) hx hb hts hi_LC hown hK hX (by decide) rfl rfl 0 (by decide) (hts _ w_133) rfl rfl d_LC_swap_90 ?_
                    refine lv_iload hx hb d_LC_swap_93 (lv_at hl 7 rfl) ?_
                    refine xw_iald (r := 1) (i := 0) hx hb hK hX (by decide) 0 rfl rfl (j := it) f35 d_LC_swap_95 ?_
                    obtain ⟨cB96, hcB96, hoB96, hkB96⟩ := xw_recv (r := 9) (i := v2) hK hX f2 rfl rfl
                    refine xc_s (rest := []) (x_invVN (argsL := [.int (S_LC_cellOf σ cup it), .int (-n), .int (σ.1 1 0 it.toNatClampNeg)]) hx hb hown (xs_M h0 hW0 m_399) (hts _ w_401) (hts _ w_10) (x_code (hts _ w_402)) ⟨by decide, by decide⟩ hcB96 hoB96 hkB96 rfl rfl rfl d_LC_swap_96) (c_VE_load h0 σ v2 (S_LC_cellOf σ cup it) (-n) (σ.1 1 0 it.toNatClampNeg) f2 (o_cell f30 f35)) (xs_cw h0 hW0 m_402) (hts _ w_36) ⟨rfl, rfl, Nat.le_of_ble_eq_true rfl, Nat.le_of_ble_eq_true rfl⟩ (hl.1.trans hml.symm) (by rw [hb]; exact d_LC_swap_96) (Nat.le_of_ble_eq_true rfl) ⟨Nat.le_of_ble_eq_true rfl, Nat.le_of_ble_eq_true rfl⟩ hX hW0 hS (fun v96 σ96 H locs hM96 hX hS => ?_) (fun E x H1 locs1 hM => by cases hM)
                    obtain ⟨ev96, es96⟩ := x_inl hM96
                    subst es96
                    refine lv_aload hx hb d_LC_swap_99 (lv_at hl 1 rfl) ?_
                    refine lv_iload hx hb d_LC_swap_101 (lv_at hl 0 rfl) ?_
                    refine lv_iload hx hb d_LC_swap_103 (lv_at hl 8 rfl) ?_
                    refine lv_aload_n hx hb d_LC_swap_105 rfl (lv_at hl 3 rfl) ?_
                    refine xw_get (C := R_LC) (T := F_LC) (N := 9) (r := 0) (i := 0) hx hb hts hi_LC hown hK hX (by decide) rfl rfl 0 (by decide) (hts _ w_133) rfl rfl d_LC_swap_106 ?_
                    refine lv_iload hx hb d_LC_swap_109 (lv_at hl 7 rfl) ?_
                    refine xw_iald (r := 1) (i := 0) hx hb hK hX (by decide) 0 rfl rfl (j := it) f35 d_LC_swap_111 ?_
                    obtain ⟨cB112, hcB112, hoB112, hkB112⟩ := xw_recv (r := 9) (i := v9) hK hX f9 rfl rfl
                    refine xc_s (rest := []) (x_invVN (argsL := [.int (S_LC_cellOf σ cup it), .int n, .int (((S_VE_load σ v2 (S_LC_cellOf σ cup it) (-n) (σ.1 1 0 it.toNatClampNeg)).2).1 1 0 it.toNatClampNeg)]) hx hb hown (xs_M h0 hW0 m_399) (hts _ w_401) (hts _ w_10) (x_code (hts _ w_402)) ⟨by decide, by decide⟩ hcB112 hoB112 hkB112 rfl rfl rfl d_LC_swap_112) (c_VE_load h0 ((S_VE_load σ v2 (S_LC_cellOf σ cup it) (-n) (σ.1 1 0 it.toNatClampNeg)).2) v9 (S_LC_cellOf σ cup it) n (((S_VE_load σ v2 (S_LC_cellOf σ cup it) (-n) (σ.1 1 0 it.toNatClampNeg)).2).1 1 0 it.toNatClampNeg) f9 (o_cell f30 f35)) (xs_cw h0 hW0 m_402) (hts _ w_36) ⟨rfl, rfl, Nat.le_of_ble_eq_true rfl, Nat.le_of_ble_eq_true rfl⟩ (hl.1.trans hml.symm) (by rw [hb]; exact d_LC_swap_112) (Nat.le_of_ble_eq_true rfl) ⟨Nat.le_of_ble_eq_true rfl, Nat.le_of_ble_eq_true rfl⟩ hX hW0 hS (fun v112 σ112 H locs hM112 hX hS => ?_) (fun E x H1 locs1 hM => by cases hM)
                    obtain ⟨ev112, es112⟩ := x_inl hM112
                    subst es112
                    refine lv_aload_n hx hb d_LC_swap_115 rfl (lv_at hl 3 rfl) ?_
                    refine xw_get (C := R_LC) (T := F_LC) (N := 9) (r := 0) (i := 0) hx hb hts hi_LC hown hK hX (by decide) rfl rfl 5 (by decide) (hts _ w_138) rfl rfl d_LC_swap_116 ?_
                    refine lv_iload_n hx hb d_LC_swap_119 rfl (lv_at hl 4 rfl) ?_
                    refine lv_iload hx hb d_LC_swap_120 (lv_at hl 7 rfl) ?_
                    refine lv_iload hx hb d_LC_swap_122 (lv_at hl 8 rfl) ?_
                    refine lv_ineg hx hb d_LC_swap_124 ?_
                    obtain ⟨cB125, hcB125, hoB125, hkB125⟩ := xw_recv (r := 7) (i := 0) hK hX (by decide) rfl rfl
                    refine xc_s (rest := []) (x_invVN (argsL := [.int v, .int it, .int (-n)]) hx hb hown (xs_M h0 hW0 m_439) (hts _ w_441) (hts _ w_12) (x_code (hts _ w_442)) ⟨by decide, by decide⟩ hcB125 hoB125 hkB125 rfl rfl rfl d_LC_swap_125) (c_RW_add h0 ((S_VE_load ((S_VE_load σ v2 (S_LC_cellOf σ cup it) (-n) (σ.1 1 0 it.toNatClampNeg)).2) v9 (S_LC_cellOf σ cup it) n (((S_VE_load σ v2 (S_LC_cellOf σ cup it) (-n) (σ.1 1 0 it.toNatClampNeg)).2).1 1 0 it.toNatClampNeg)).2) v it (-n) (o_sw1 hok)) (xs_cw h0 hW0 m_442) (hts _ w_35) ⟨rfl, rfl, Nat.le_of_ble_eq_true rfl, Nat.le_of_ble_eq_true rfl⟩ (hl.1.trans hml.symm) (by rw [hb]; exact d_LC_swap_125) (Nat.le_of_ble_eq_true rfl) ⟨Nat.le_of_ble_eq_true rfl, Nat.le_of_ble_eq_true rfl⟩ hX hW0 hS (fun v125 σ125 H locs hM125 hX hS => ?_) (fun E x H1 locs1 hM => by cases hM)
                    obtain ⟨ev125, es125⟩ := x_inl hM125
                    subst es125
                    refine lv_aload_n hx hb d_LC_swap_128 rfl (lv_at hl 3 rfl) ?_
                    refine xw_get (C := R_LC) (T := F_LC) (N := 9) (r := 0) (i := 0) hx hb hts hi_LC hown hK hX (by decide) rfl rfl 5 (by decide) (hts _ w_138) rfl rfl d_LC_swap_129 ?_
                    refine lv_iload_n hx hb d_LC_swap_132 rfl (lv_at hl 5 rfl) ?_
                    refine lv_iload hx hb d_LC_swap_133 (lv_at hl 7 rfl) ?_
                    refine lv_iload hx hb d_LC_swap_135 (lv_at hl 8 rfl) ?_
                    obtain ⟨cB137, hcB137, hoB137, hkB137⟩ := xw_recv (r := 7) (i := 0) hK hX (by decide) rfl rfl
                    refine xc_s (rest := []) (x_invVN (argsL := [.int u, .int it, .int n]) hx hb hown (xs_M h0 hW0 m_439) (hts _ w_441) (hts _ w_12) (x_code (hts _ w_442)) ⟨by decide, by decide⟩ hcB137 hoB137 hkB137 rfl rfl rfl d_LC_swap_137) (c_RW_add h0 ((S_RW_add ((S_VE_load ((S_VE_load σ v2 (S_LC_cellOf σ cup it) (-n) (σ.1 1 0 it.toNatClampNeg)).2) v9 (S_LC_cellOf σ cup it) n (((S_VE_load σ v2 (S_LC_cellOf σ cup it) (-n) (σ.1 1 0 it.toNatClampNeg)).2).1 1 0 it.toNatClampNeg)).2) v it (-n)).2) u it n (o_sw2 hok)) (xs_cw h0 hW0 m_442) (hts _ w_35) ⟨rfl, rfl, Nat.le_of_ble_eq_true rfl, Nat.le_of_ble_eq_true rfl⟩ (hl.1.trans hml.symm) (by rw [hb]; exact d_LC_swap_137) (Nat.le_of_ble_eq_true rfl) ⟨Nat.le_of_ble_eq_true rfl, Nat.le_of_ble_eq_true rfl⟩ hX hW0 hS (fun v137 σ137 H locs hM137 hX hS => ?_) (fun E x H1 locs1 hM => by cases hM)
                    obtain ⟨ev137, es137⟩ := x_inl hM137
                    subst es137
                    subst hR
                    refine W.widen (k := 9) (n := 54) (by decide) (by decide) ?_; exact xs_v hx hb hr hlocks hX hS d_LC_swap_140
                  · rw [hM79] at hR
                    dsimp only [xbp] at hR
                    subst hR
                    refine xt_wid (k := 9) (n := 54) (by decide) (by decide) ?_
                    exact xt_s hlocks hnt hE79 he79 (fun q h => by cases h)
                · rw [hM70] at hR
                  dsimp only [xbp] at hR
                  subst hR
                  refine xt_wid (k := 9) (n := 54) (by decide) (by decide) ?_
                  exact xt_s hlocks hnt hE70 he70 (fun q h => by cases h)
              · rw [hM60] at hR
                dsimp only [xbp] at hR
                subst hR
                refine xt_wid (k := 9) (n := 54) (by decide) (by decide) ?_
                exact xt_s hlocks hnt hE60 he60 (fun q h => by cases h)
            · rw [hM43] at hR
              dsimp only [xbp] at hR
              subst hR
              refine xt_wid (k := 9) (n := 54) (by decide) (by decide) ?_
              exact xt_s hlocks hnt hE43 he43 (fun q h => by cases h)
          · rw [hM35] at hR
            dsimp only [xbp] at hR
            subst hR
            refine xt_wid (k := 9) (n := 54) (by decide) (by decide) ?_
            exact xt_s hlocks hnt hE35 he35 (fun q h => by cases h)
        · rw [hM30] at hR
          dsimp only [xbp] at hR
          subst hR
          refine xt_wid (k := 9) (n := 54) (by decide) (by decide) ?_
          exact xt_s hlocks hnt hE30 he30 (fun q h => by cases h)
      · rw [if_pos c16] at hR
        obtain ⟨qs, hqs⟩ := xs_str h0 hW0 (own := "LoadChecks") (k := 137) (tx := "a vehicle swaps with another one") (by decide +kernel); subst hR; refine W.widen (k := 8) (n := 48) (by decide) (by decide) ?_; exact x_throw hx hb h0.1 hown hlocks hnt (hl.1.trans hml.symm) (hts _ w_174) (hts _ w_42) hqs (x_own hO rfl (oa_IAE h0)) (by decide +kernel) (by decide +kernel) d_LC_swap_19 d_LC_swap_22 d_LC_swap_23 d_LC_swap_25 d_LC_swap_28 (Nat.le_of_ble_eq_true rfl) (Nat.le_of_ble_eq_true rfl) (Nat.le_of_ble_eq_true rfl) (Nat.le_of_ble_eq_true rfl) (fun x t h1 h2 => Or.inr ⟨_, x, rfl, rfl, h1, h2⟩)
    · rw [hM9] at hR
      dsimp only [xbp] at hR
      subst hR
      refine xt_wid (k := 9) (n := 54) (by decide) (by decide) ?_
      exact xt_s hlocks hnt hE9 he9 (fun q h => by cases h)
  · rw [hM2] at hR
    dsimp only [xbp] at hR
    subst hR
    refine xt_wid (k := 9) (n := 54) (by decide) (by decide) ?_
    exact xt_s hlocks hnt hE2 he2 (fun q h => by cases h)
end
section
abbrev rm_LC_ends : Room := { frames := 7, cells := 3, slots := 18, locals := 104 }
def S_LC_ends (σ : XS) (v : Int32) (it : Int32) (d : Int32) : (Unit × XS) ⊕ String := (xbp (S_LC_knownVehicle σ v) fun v2 => (xbp (S_LC_requireItem σ it) fun _ => (xbp (S_LC_requireRange σ d (-1 : Int32) (9999 : Int32)) fun _ => .inl ((), (xuI σ 13 v2 it.toNatClampNeg d)))))
set_option maxHeartbeats 4000000 in
set_option maxRecDepth 100000 in
theorem c_LC_ends {l : Launch} {s0 : State} {A0 : Array Value} {D : va_G} {dA : Nat → ClassId} (h0 : XS0 l s0 A0 D dA) (σ : XS) (v : Int32) (it : Int32) (d : Int32) (hok : XOk σ) : XMet l y_LC_ends [cw_LC_ends] rm_LC_ends (XP D dA s0 σ [.ref (xB s0 + XA 0 0), .int v, .int it, .int d]) (XQs D dA s0 xv_v (S_LC_ends σ v it d)) 3 18 (xAm s0) := by
  refine XMet.ofW (cc := b_LC_ends) (maxL := 5) (ret := none) (by decide) rfl ?_
  intro p e s m args below meth c s₁ Bd hml hv
  obtain ⟨rfl, hX, hO⟩ := hv
  have hx := Bd.exec
  have hb := Bd.bytes
  have hr := Bd.returns
  have hown : s.vm.findClass "LoadChecks" = some m.cls := findClass_of_methodNamed Bd.named
  have hlocks := Bd.notSynchronized
  have hnt : c.exceptionTable.isEmpty = true := Bd.noHandlers (atoms_spec (ws := [cw_LC_ends]) Bd.pre _ List.mem_cons_self)
  have hW0 := hO.1
  have hts := xs_w (args := ([.ref (xB s0 + XA 0 0), .int v, .int it, .int d] : List Value).toArray) h0 hW0
  have hK := xs_K h0 hW0
  have hS := xo_S0 hO
  have hl := lv_entry ([.ref (xB s0 + XA 0 0), .int v, .int it, .int d]) (n := 5) (Nat.le_of_ble_eq_true rfl)
  rw [lg_entry_eq]
  generalize (lg_sl ([.ref (xB s0 + XA 0 0), .int v, .int it, .int d]) ++ List.replicate (5 - (lg_sl ([.ref (xB s0 + XA 0 0), .int v, .int it, .int d])).length) Slot.unset).toArray = ls at hl ⊢
  have hl : lv_has ls 5 [(0, .ref (xB s0 + XA 0 0)), (1, .int v), (2, .int it), (3, .int d)] := hl
  generalize hR : S_LC_ends σ v it d = res
  unfold S_LC_ends at hR
  refine lv_aload_n hx hb d_LC_ends_0 rfl (lv_at hl 0 rfl) ?_
  refine lv_iload_n hx hb d_LC_ends_1 rfl (lv_at hl 1 rfl) ?_
  obtain ⟨cB2, hcB2, hoB2, hkB2⟩ := xw_recv (r := 0) (i := 0) hK hX (by decide) rfl rfl
  refine xc_p (rest := []) (x_invV (argsL := [.int v]) hx hb hown (hts _ w_290) (hts _ w_292) (hts _ w_1) (x_code (hts _ w_293)) ⟨by decide, by decide⟩ hcB2 hoB2 hkB2 rfl rfl rfl d_LC_ends_2) (c_LC_knownVehicle h0 σ v hok) (xs_cw h0 hW0 m_293) (hts _ w_34) ⟨rfl, rfl, Nat.le_of_ble_eq_true rfl, Nat.le_of_ble_eq_true rfl⟩ (hl.1.trans hml.symm) (by rw [hb]; exact d_LC_ends_2) (Nat.le_of_ble_eq_true rfl) ⟨Nat.le_of_ble_eq_true rfl, Nat.le_of_ble_eq_true rfl⟩ hX ⟨hW0, xo_S hS⟩ (fun v2 hM2 => ?_) (fun E2 x2 H2 hM2 hE2 he2 => ?_)
  · rw [hM2] at hR
    dsimp only [xbp] at hR
    have f2 := f_known hok hM2
    refine lv_astore (lv' := [(4, .ref (xB s0 + XA 9 v2)), (0, .ref (xB s0 + XA 0 0)), (1, .int v), (2, .int it), (3, .int d)]) hx hb d_LC_ends_5 hl (by decide) rfl (fun ls hl => ?_)
    refine lv_iload_n hx hb d_LC_ends_7 rfl (lv_at hl 3 rfl) ?_
    refine xc_p (rest := []) (x_invS (argsL := [.int it]) hx hb hown (hts _ w_337) (hts _ w_338) (hts _ w_34) (x_code (hts _ w_339)) ⟨by decide, by decide⟩ rfl rfl rfl d_LC_ends_8) (c_LC_requireItem h0 σ it) (xs_cw h0 hW0 m_339) (hts _ w_34) ⟨rfl, rfl, Nat.le_of_ble_eq_true rfl, Nat.le_of_ble_eq_true rfl⟩ (hl.1.trans hml.symm) (by rw [hb]; exact d_LC_ends_8) (Nat.le_of_ble_eq_true rfl) ⟨Nat.le_of_ble_eq_true rfl, Nat.le_of_ble_eq_true rfl⟩ hX ⟨hW0, xo_S hS⟩ (fun v8 hM8 => ?_) (fun E8 x8 H8 hM8 hE8 he8 => ?_)
    · rw [hM8] at hR
      dsimp only [xbp] at hR
      have f8 := f_item hM8
      refine lv_iload_n hx hb d_LC_ends_11 rfl (lv_at hl 4 rfl) ?_
      refine lv_iconst (v := -1) hx hb d_LC_ends_12 (by decide) ?_
      refine lv_sipush (v := 9999) hx hb d_LC_ends_13 (by decide) ?_
      refine xc_p (rest := []) (x_invS (argsL := [.int d, .int (-1 : Int32), .int (9999 : Int32)]) hx hb hown (hts _ w_244) (hts _ w_245) (hts _ w_34) (x_code (hts _ w_246)) ⟨by decide, by decide⟩ rfl rfl rfl d_LC_ends_16) (c_LC_requireRange h0 σ d (-1 : Int32) (9999 : Int32)) (xs_cw h0 hW0 m_246) (hts _ w_34) ⟨rfl, rfl, Nat.le_of_ble_eq_true rfl, Nat.le_of_ble_eq_true rfl⟩ (hl.1.trans hml.symm) (by rw [hb]; exact d_LC_ends_16) (Nat.le_of_ble_eq_true rfl) ⟨Nat.le_of_ble_eq_true rfl, Nat.le_of_ble_eq_true rfl⟩ hX ⟨hW0, xo_S hS⟩ (fun v16 hM16 => ?_) (fun E16 x16 H16 hM16 hE16 he16 => ?_)
      · rw [hM16] at hR
        dsimp only [xbp] at hR
        refine lv_aload hx hb d_LC_ends_19 (lv_at hl 0 rfl) ?_
        refine xw_getN (C := R_VE) (T := F_VE) (N := 13) (r := 9) (i := v2) hx hb hts hi_VE hown hK hX f2 rfl rfl 3 (by decide) (xs_N h0 hW0 m_89) rfl rfl d_LC_ends_21 ?_
        refine lv_iload_n hx hb d_LC_ends_24 rfl (lv_at hl 3 rfl) ?_
        refine lv_iload_n hx hb d_LC_ends_25 rfl (lv_at hl 4 rfl) ?_
        refine xw_iast (r := 13) (i := v2) (ent' := XE dA (xB s0) (xuI σ 13 v2 it.toNatClampNeg d)) hx hb hK xInj hX hS (xA_in _ _ _) f2 0 rfl rfl (j := it) f8 ((xe_uI dA (xB s0) σ 13 v2 it.toNatClampNeg d).trans rfl) (xe_oI dA (xB s0) σ 13 v2 it.toNatClampNeg d) d_LC_ends_26 (fun H locs hX hS => ?_)
        subst hR
        refine W.widen (k := 3) (n := 18) (by decide) (by decide) ?_; exact xs_v hx hb hr hlocks hX hS d_LC_ends_27
      · rw [hM16] at hR
        dsimp only [xbp] at hR
        subst hR
        refine xt_wid (k := 3) (n := 18) (by decide) (by decide) ?_
        exact xt_s hlocks hnt hE16 he16 (fun q h => by cases h)
    · rw [hM8] at hR
      dsimp only [xbp] at hR
      subst hR
      refine xt_wid (k := 3) (n := 18) (by decide) (by decide) ?_
      exact xt_s hlocks hnt hE8 he8 (fun q h => by cases h)
  · rw [hM2] at hR
    dsimp only [xbp] at hR
    subst hR
    refine xt_wid (k := 3) (n := 18) (by decide) (by decide) ?_
    exact xt_s hlocks hnt hE2 he2 (fun q h => by cases h)

abbrev rm_LC_battery : Room := { frames := 7, cells := 3, slots := 18, locals := 104 }
def S_LC_battery (σ : XS) (v : Int32) (it : Int32) (d : Int32) : (Unit × XS) ⊕ String := (xbp (S_LC_knownVehicle σ v) fun v2 => (xbp (S_LC_requireItem σ it) fun _ => (xbp (S_LC_requireRange σ d (0 : Int32) (100 : Int32)) fun _ => .inl ((), (xuI σ 14 v2 it.toNatClampNeg d)))))
set_option maxHeartbeats 4000000 in
set_option maxRecDepth 100000 in
theorem c_LC_battery {l : Launch} {s0 : State} {A0 : Array Value} {D : va_G} {dA : Nat → ClassId} (h0 : XS0 l s0 A0 D dA) (σ : XS) (v : Int32) (it : Int32) (d : Int32) (hok : XOk σ) : XMet l y_LC_battery [cw_LC_battery] rm_LC_battery (XP D dA s0 σ [.ref (xB s0 + XA 0 0), .int v, .int it, .int d]) (XQs D dA s0 xv_v (S_LC_battery σ v it d)) 3 18 (xAm s0) := by
  refine XMet.ofW (cc := b_LC_battery) (maxL := 5) (ret := none) (by decide) rfl ?_
  intro p e s m args below meth c s₁ Bd hml hv
  obtain ⟨rfl, hX, hO⟩ := hv
  have hx := Bd.exec
  have hb := Bd.bytes
  have hr := Bd.returns
  have hown : s.vm.findClass "LoadChecks" = some m.cls := findClass_of_methodNamed Bd.named
  have hlocks := Bd.notSynchronized
  have hnt : c.exceptionTable.isEmpty = true := Bd.noHandlers (atoms_spec (ws := [cw_LC_battery]) Bd.pre _ List.mem_cons_self)
  have hW0 := hO.1
  have hts := xs_w (args := ([.ref (xB s0 + XA 0 0), .int v, .int it, .int d] : List Value).toArray) h0 hW0
  have hK := xs_K h0 hW0
  have hS := xo_S0 hO
  have hl := lv_entry ([.ref (xB s0 + XA 0 0), .int v, .int it, .int d]) (n := 5) (Nat.le_of_ble_eq_true rfl)
  rw [lg_entry_eq]
  generalize (lg_sl ([.ref (xB s0 + XA 0 0), .int v, .int it, .int d]) ++ List.replicate (5 - (lg_sl ([.ref (xB s0 + XA 0 0), .int v, .int it, .int d])).length) Slot.unset).toArray = ls at hl ⊢
  have hl : lv_has ls 5 [(0, .ref (xB s0 + XA 0 0)), (1, .int v), (2, .int it), (3, .int d)] := hl
  generalize hR : S_LC_battery σ v it d = res
  unfold S_LC_battery at hR
  refine lv_aload_n hx hb d_LC_battery_0 rfl (lv_at hl 0 rfl) ?_
  refine lv_iload_n hx hb d_LC_battery_1 rfl (lv_at hl 1 rfl) ?_
  obtain ⟨cB2, hcB2, hoB2, hkB2⟩ := xw_recv (r := 0) (i := 0) hK hX (by decide) rfl rfl
  refine xc_p (rest := []) (x_invV (argsL := [.int v]) hx hb hown (hts _ w_290) (hts _ w_292) (hts _ w_1) (x_code (hts _ w_293)) ⟨by decide, by decide⟩ hcB2 hoB2 hkB2 rfl rfl rfl d_LC_battery_2) (c_LC_knownVehicle h0 σ v hok) (xs_cw h0 hW0 m_293) (hts _ w_34) ⟨rfl, rfl, Nat.le_of_ble_eq_true rfl, Nat.le_of_ble_eq_true rfl⟩ (hl.1.trans hml.symm) (by rw [hb]; exact d_LC_battery_2) (Nat.le_of_ble_eq_true rfl) ⟨Nat.le_of_ble_eq_true rfl, Nat.le_of_ble_eq_true rfl⟩ hX ⟨hW0, xo_S hS⟩ (fun v2 hM2 => ?_) (fun E2 x2 H2 hM2 hE2 he2 => ?_)
  · rw [hM2] at hR
    dsimp only [xbp] at hR
    have f2 := f_known hok hM2
    refine lv_astore (lv' := [(4, .ref (xB s0 + XA 9 v2)), (0, .ref (xB s0 + XA 0 0)), (1, .int v), (2, .int it), (3, .int d)]) hx hb d_LC_battery_5 hl (by decide) rfl (fun ls hl => ?_)
    refine lv_iload_n hx hb d_LC_battery_7 rfl (lv_at hl 3 rfl) ?_
    refine xc_p (rest := []) (x_invS (argsL := [.int it]) hx hb hown (hts _ w_337) (hts _ w_338) (hts _ w_34) (x_code (hts _ w_339)) ⟨by decide, by decide⟩ rfl rfl rfl d_LC_battery_8) (c_LC_requireItem h0 σ it) (xs_cw h0 hW0 m_339) (hts _ w_34) ⟨rfl, rfl, Nat.le_of_ble_eq_true rfl, Nat.le_of_ble_eq_true rfl⟩ (hl.1.trans hml.symm) (by rw [hb]; exact d_LC_battery_8) (Nat.le_of_ble_eq_true rfl) ⟨Nat.le_of_ble_eq_true rfl, Nat.le_of_ble_eq_true rfl⟩ hX ⟨hW0, xo_S hS⟩ (fun v8 hM8 => ?_) (fun E8 x8 H8 hM8 hE8 he8 => ?_)
    · rw [hM8] at hR
      dsimp only [xbp] at hR
      have f8 := f_item hM8
      refine lv_iload_n hx hb d_LC_battery_11 rfl (lv_at hl 4 rfl) ?_
      refine lv_iconst (v := 0) hx hb d_LC_battery_12 (by decide) ?_
      refine lv_bipush (v := 100) hx hb d_LC_battery_13 (by decide) ?_
      refine xc_p (rest := []) (x_invS (argsL := [.int d, .int (0 : Int32), .int (100 : Int32)]) hx hb hown (hts _ w_244) (hts _ w_245) (hts _ w_34) (x_code (hts _ w_246)) ⟨by decide, by decide⟩ rfl rfl rfl d_LC_battery_15) (c_LC_requireRange h0 σ d (0 : Int32) (100 : Int32)) (xs_cw h0 hW0 m_246) (hts _ w_34) ⟨rfl, rfl, Nat.le_of_ble_eq_true rfl, Nat.le_of_ble_eq_true rfl⟩ (hl.1.trans hml.symm) (by rw [hb]; exact d_LC_battery_15) (Nat.le_of_ble_eq_true rfl) ⟨Nat.le_of_ble_eq_true rfl, Nat.le_of_ble_eq_true rfl⟩ hX ⟨hW0, xo_S hS⟩ (fun v15 hM15 => ?_) (fun E15 x15 H15 hM15 hE15 he15 => ?_)
      · rw [hM15] at hR
        dsimp only [xbp] at hR
        refine lv_aload hx hb d_LC_battery_18 (lv_at hl 0 rfl) ?_
        refine xw_getN (C := R_VE) (T := F_VE) (N := 13) (r := 9) (i := v2) hx hb hts hi_VE hown hK hX f2 rfl rfl 4 (by decide) (xs_N h0 hW0 m_91) rfl rfl d_LC_battery_20 ?_
        refine lv_iload_n hx hb d_LC_battery_23 rfl (lv_at hl 3 rfl) ?_
        refine lv_iload_n hx hb d_LC_battery_24 rfl (lv_at hl 4 rfl) ?_
        refine xw_iast (r := 14) (i := v2) (ent' := XE dA (xB s0) (xuI σ 14 v2 it.toNatClampNeg d)) hx hb hK xInj hX hS (xA_in _ _ _) f2 0 rfl rfl (j := it) f8 ((xe_uI dA (xB s0) σ 14 v2 it.toNatClampNeg d).trans rfl) (xe_oI dA (xB s0) σ 14 v2 it.toNatClampNeg d) d_LC_battery_25 (fun H locs hX hS => ?_)
        subst hR
        refine W.widen (k := 3) (n := 18) (by decide) (by decide) ?_; exact xs_v hx hb hr hlocks hX hS d_LC_battery_26
      · rw [hM15] at hR
        dsimp only [xbp] at hR
        subst hR
        refine xt_wid (k := 3) (n := 18) (by decide) (by decide) ?_
        exact xt_s hlocks hnt hE15 he15 (fun q h => by cases h)
    · rw [hM8] at hR
      dsimp only [xbp] at hR
      subst hR
      refine xt_wid (k := 3) (n := 18) (by decide) (by decide) ?_
      exact xt_s hlocks hnt hE8 he8 (fun q h => by cases h)
  · rw [hM2] at hR
    dsimp only [xbp] at hR
    subst hR
    refine xt_wid (k := 3) (n := 18) (by decide) (by decide) ?_
    exact xt_s hlocks hnt hE2 he2 (fun q h => by cases h)

abbrev rm_LC_seal : Room := { frames := 7, cells := 3, slots := 18, locals := 103 }
def S_LC_seal (σ : XS) (v : Int32) (cup : Int32) (b : Int32) : (Unit × XS) ⊕ String := (xbp (S_LC_knownVehicle σ v) fun v2 => (xbp (S_LC_requireCupboard σ cup) fun _ => (if b = 0 then (if (σ.1 11 v2 cup.toNatClampNeg) = (1 : Int32) then .inr "java/lang/IllegalStateException" else .inl ((), (xuI σ 11 v2 cup.toNatClampNeg (vp_nar .boolean (1 : Int32))))) else (if (σ.1 11 v2 cup.toNatClampNeg) = (0 : Int32) then .inr "java/lang/IllegalStateException" else .inl ((), (xuI σ 11 v2 cup.toNatClampNeg (vp_nar .boolean (0 : Int32))))))))
set_option maxHeartbeats 4000000 in
set_option maxRecDepth 100000 in
theorem c_LC_seal {l : Launch} {s0 : State} {A0 : Array Value} {D : va_G} {dA : Nat → ClassId} (h0 : XS0 l s0 A0 D dA) (σ : XS) (v : Int32) (cup : Int32) (b : Int32) (hok : XOk σ) : XMet l y_LC_seal [cw_LC_seal] rm_LC_seal (XP D dA s0 σ [.ref (xB s0 + XA 0 0), .int v, .int cup, .int b]) (XQs D dA s0 xv_v (S_LC_seal σ v cup b)) 3 18 (xAm s0) := by
  refine XMet.ofW (cc := b_LC_seal) (maxL := 6) (ret := none) (by decide) rfl ?_
  intro p e s m args below meth c s₁ Bd hml hv
  obtain ⟨rfl, hX, hO⟩ := hv
  have hx := Bd.exec
  have hb := Bd.bytes
  have hr := Bd.returns
  have hown : s.vm.findClass "LoadChecks" = some m.cls := findClass_of_methodNamed Bd.named
  have hlocks := Bd.notSynchronized
  have hnt : c.exceptionTable.isEmpty = true := Bd.noHandlers (atoms_spec (ws := [cw_LC_seal]) Bd.pre _ List.mem_cons_self)
  have hW0 := hO.1
  have hts := xs_w (args := ([.ref (xB s0 + XA 0 0), .int v, .int cup, .int b] : List Value).toArray) h0 hW0
  have hK := xs_K h0 hW0
  have hS := xo_S0 hO
  have hl := lv_entry ([.ref (xB s0 + XA 0 0), .int v, .int cup, .int b]) (n := 6) (Nat.le_of_ble_eq_true rfl)
  rw [lg_entry_eq]
  generalize (lg_sl ([.ref (xB s0 + XA 0 0), .int v, .int cup, .int b]) ++ List.replicate (6 - (lg_sl ([.ref (xB s0 + XA 0 0), .int v, .int cup, .int b])).length) Slot.unset).toArray = ls at hl ⊢
  have hl : lv_has ls 6 [(0, .ref (xB s0 + XA 0 0)), (1, .int v), (2, .int cup), (3, .int b)] := hl
  generalize hR : S_LC_seal σ v cup b = res
  unfold S_LC_seal at hR
  refine lv_aload_n hx hb d_LC_seal_0 rfl (lv_at hl 0 rfl) ?_
  refine lv_iload_n hx hb d_LC_seal_1 rfl (lv_at hl 1 rfl) ?_
  obtain ⟨cB2, hcB2, hoB2, hkB2⟩ := xw_recv (r := 0) (i := 0) hK hX (by decide) rfl rfl
  refine xc_p (rest := []) (x_invV (argsL := [.int v]) hx hb hown (hts _ w_290) (hts _ w_292) (hts _ w_1) (x_code (hts _ w_293)) ⟨by decide, by decide⟩ hcB2 hoB2 hkB2 rfl rfl rfl d_LC_seal_2) (c_LC_knownVehicle h0 σ v hok) (xs_cw h0 hW0 m_293) (hts _ w_34) ⟨rfl, rfl, Nat.le_of_ble_eq_true rfl, Nat.le_of_ble_eq_true rfl⟩ (hl.1.trans hml.symm) (by rw [hb]; exact d_LC_seal_2) (Nat.le_of_ble_eq_true rfl) ⟨Nat.le_of_ble_eq_true rfl, Nat.le_of_ble_eq_true rfl⟩ hX ⟨hW0, xo_S hS⟩ (fun v2 hM2 => ?_) (fun E2 x2 H2 hM2 hE2 he2 => ?_)
  · rw [hM2] at hR
    dsimp only [xbp] at hR
    have f2 := f_known hok hM2
    refine lv_astore (lv' := [(4, .ref (xB s0 + XA 9 v2)), (0, .ref (xB s0 + XA 0 0)), (1, .int v), (2, .int cup), (3, .int b)]) hx hb d_LC_seal_5 hl (by decide) rfl (fun ls hl => ?_)
    refine lv_iload_n hx hb d_LC_seal_7 rfl (lv_at hl 3 rfl) ?_
    refine xc_p (rest := []) (x_invS (argsL := [.int cup]) hx hb hown (hts _ w_303) (hts _ w_304) (hts _ w_34) (x_code (hts _ w_305)) ⟨by decide, by decide⟩ rfl rfl rfl d_LC_seal_8) (c_LC_requireCupboard h0 σ cup) (xs_cw h0 hW0 m_305) (hts _ w_34) ⟨rfl, rfl, Nat.le_of_ble_eq_true rfl, Nat.le_of_ble_eq_true rfl⟩ (hl.1.trans hml.symm) (by rw [hb]; exact d_LC_seal_8) (Nat.le_of_ble_eq_true rfl) ⟨Nat.le_of_ble_eq_true rfl, Nat.le_of_ble_eq_true rfl⟩ hX ⟨hW0, xo_S hS⟩ (fun v8 hM8 => ?_) (fun E8 x8 H8 hM8 hE8 he8 => ?_)
    · rw [hM8] at hR
      dsimp only [xbp] at hR
      have f8 := f_cup hM8
      refine lv_iload_n hx hb d_LC_seal_11 rfl (lv_at hl 4 rfl) ?_
      refine lv_if_ne (tgt := 19) hx hb d_LC_seal_12 (by decide) (fun c12 => ?_) (fun c12 => ?_)
      · rw [if_neg c12] at hR
        refine lv_iconst (v := 0) hx hb d_LC_seal_19 (by decide) ?_
        refine lv_istore (lv' := [(5, .int (0 : Int32)), (4, .ref (xB s0 + XA 9 v2)), (0, .ref (xB s0 + XA 0 0)), (1, .int v), (2, .int cup), (3, .int b)]) hx hb d_LC_seal_20 hl (by decide) rfl (fun ls hl => ?_)
        refine lv_aload hx hb d_LC_seal_22 (lv_at hl 1 rfl) ?_
        refine xw_getN (C := R_VE) (T := F_VE) (N := 13) (r := 9) (i := v2) hx hb hts hi_VE hown hK hX f2 rfl rfl 1 (by decide) (xs_N h0 hW0 m_85) rfl rfl d_LC_seal_24 ?_
        refine lv_iload_n hx hb d_LC_seal_27 rfl (lv_at hl 4 rfl) ?_
        refine xw_zald (r := 11) (i := v2) hx hb hK hX f2 1 rfl rfl (j := cup) f8 d_LC_seal_28 ?_
        refine lv_iload hx hb d_LC_seal_29 (lv_at hl 0 rfl) ?_
        refine lv_icmp_ne (tgt := 44) hx hb d_LC_seal_31 (by decide) (fun c31 => ?_) (fun c31 => ?_)
        · rw [if_neg c31] at hR
          refine lv_aload hx hb d_LC_seal_44 (lv_at hl 1 rfl) ?_
          refine xw_getN (C := R_VE) (T := F_VE) (N := 13) (r := 9) (i := v2) hx hb hts hi_VE hown hK hX f2 rfl rfl 1 (by decide) (xs_N h0 hW0 m_85) rfl rfl d_LC_seal_46 ?_
          refine lv_iload_n hx hb d_LC_seal_49 rfl (lv_at hl 4 rfl) ?_
          refine lv_iload hx hb d_LC_seal_50 (lv_at hl 0 rfl) ?_
          refine xw_zast (r := 11) (i := v2) (ent' := XE dA (xB s0) (xuI σ 11 v2 cup.toNatClampNeg (vp_nar .boolean (0 : Int32)))) hx hb hK xInj hX hS (xA_in _ _ _) f2 1 rfl rfl (j := cup) f8 ((xe_uI dA (xB s0) σ 11 v2 cup.toNatClampNeg (vp_nar .boolean (0 : Int32))).trans rfl) (xe_oI dA (xB s0) σ 11 v2 cup.toNatClampNeg (vp_nar .boolean (0 : Int32))) d_LC_seal_52 (fun H locs hX hS => ?_)
          subst hR
          refine W.widen (k := 3) (n := 18) (by decide) (by decide) ?_; exact xs_v hx hb hr hlocks hX hS d_LC_seal_53
        · rw [if_pos c31] at hR
          obtain ⟨qs, hqs⟩ := xs_str h0 hW0 (own := "LoadChecks") (k := 153) (tx := "the seal is so already") (by decide +kernel); subst hR; refine W.widen (k := 2) (n := 12) (by decide) (by decide) ?_; exact x_throw hx hb h0.1 hown hlocks hnt (hl.1.trans hml.symm) (hts _ w_314) (hts _ w_45) hqs (x_own hO rfl (oa_ISE h0)) (by decide +kernel) (by decide +kernel) d_LC_seal_34 d_LC_seal_37 d_LC_seal_38 d_LC_seal_40 d_LC_seal_43 (Nat.le_of_ble_eq_true rfl) (Nat.le_of_ble_eq_true rfl) (Nat.le_of_ble_eq_true rfl) (Nat.le_of_ble_eq_true rfl) (fun x t h1 h2 => Or.inr ⟨_, x, rfl, rfl, h1, h2⟩)
      · rw [if_pos c12] at hR
        refine lv_iconst (v := 1) hx hb d_LC_seal_15 (by decide) ?_
        refine lv_goto (tgt := 20) hx hb d_LC_seal_16 (by decide) ?_
        refine lv_istore (lv' := [(5, .int (1 : Int32)), (4, .ref (xB s0 + XA 9 v2)), (0, .ref (xB s0 + XA 0 0)), (1, .int v), (2, .int cup), (3, .int b)]) hx hb d_LC_seal_20 hl (by decide) rfl (fun ls hl => ?_)
        refine lv_aload hx hb d_LC_seal_22 (lv_at hl 1 rfl) ?_
        refine xw_getN (C := R_VE) (T := F_VE) (N := 13) (r := 9) (i := v2) hx hb hts hi_VE hown hK hX f2 rfl rfl 1 (by decide) (xs_N h0 hW0 m_85) rfl rfl d_LC_seal_24 ?_
        refine lv_iload_n hx hb d_LC_seal_27 rfl (lv_at hl 4 rfl) ?_
        refine xw_zald (r := 11) (i := v2) hx hb hK hX f2 1 rfl rfl (j := cup) f8 d_LC_seal_28 ?_
        refine lv_iload hx hb d_LC_seal_29 (lv_at hl 0 rfl) ?_
        refine lv_icmp_ne (tgt := 44) hx hb d_LC_seal_31 (by decide) (fun c31 => ?_) (fun c31 => ?_)
        · rw [if_neg c31] at hR
          refine lv_aload hx hb d_LC_seal_44 (lv_at hl 1 rfl) ?_
          refine xw_getN (C := R_VE) (T := F_VE) (N := 13) (r := 9) (i := v2) hx hb hts hi_VE hown hK hX f2 rfl rfl 1 (by decide) (xs_N h0 hW0 m_85) rfl rfl d_LC_seal_46 ?_
          refine lv_iload_n hx hb d_LC_seal_49 rfl (lv_at hl 4 rfl) ?_
          refine lv_iload hx hb d_LC_seal_50 (lv_at hl 0 rfl) ?_
          refine xw_zast (r := 11) (i := v2) (ent' := XE dA (xB s0) (xuI σ 11 v2 cup.toNatClampNeg (vp_nar .boolean (1 : Int32)))) hx hb hK xInj hX hS (xA_in _ _ _) f2 1 rfl rfl (j := cup) f8 ((xe_uI dA (xB s0) σ 11 v2 cup.toNatClampNeg (vp_nar .boolean (1 : Int32))).trans rfl) (xe_oI dA (xB s0) σ 11 v2 cup.toNatClampNeg (vp_nar .boolean (1 : Int32))) d_LC_seal_52 (fun H locs hX hS => ?_)
          subst hR
          refine W.widen (k := 3) (n := 18) (by decide) (by decide) ?_; exact xs_v hx hb hr hlocks hX hS d_LC_seal_53
        · rw [if_pos c31] at hR
          obtain ⟨qs, hqs⟩ := xs_str h0 hW0 (own := "LoadChecks") (k := 153) (tx := "the seal is so already") (by decide +kernel); subst hR; refine W.widen (k := 2) (n := 12) (by decide) (by decide) ?_; exact x_throw hx hb h0.1 hown hlocks hnt (hl.1.trans hml.symm) (hts _ w_314) (hts _ w_45) hqs (x_own hO rfl (oa_ISE h0)) (by decide +kernel) (by decide +kernel) d_LC_seal_34 d_LC_seal_37 d_LC_seal_38 d_LC_seal_40 d_LC_seal_43 (Nat.le_of_ble_eq_true rfl) (Nat.le_of_ble_eq_true rfl) (Nat.le_of_ble_eq_true rfl) (Nat.le_of_ble_eq_true rfl) (fun x t h1 h2 => Or.inr ⟨_, x, rfl, rfl, h1, h2⟩)
    · rw [hM8] at hR
      dsimp only [xbp] at hR
      subst hR
      refine xt_wid (k := 3) (n := 18) (by decide) (by decide) ?_
      exact xt_s hlocks hnt hE8 he8 (fun q h => by cases h)
  · rw [hM2] at hR
    dsimp only [xbp] at hR
    subst hR
    refine xt_wid (k := 3) (n := 18) (by decide) (by decide) ?_
    exact xt_s hlocks hnt hE2 he2 (fun q h => by cases h)

abbrev rm_LC_check : Room := { frames := 7, cells := 1, slots := 6, locals := 103 }
def S_LC_check (σ : XS) (v : Int32) : (Unit × XS) ⊕ String := (xbp (S_LC_knownVehicle σ v) fun v2 => .inl ((), (xuI (xuI σ 9 v2 9 (σ.1 0 0 7)) 9 v2 10 ((xuI σ 9 v2 9 (σ.1 0 0 7)).1 0 0 8))))
set_option maxHeartbeats 4000000 in
set_option maxRecDepth 100000 in
theorem c_LC_check {l : Launch} {s0 : State} {A0 : Array Value} {D : va_G} {dA : Nat → ClassId} (h0 : XS0 l s0 A0 D dA) (σ : XS) (v : Int32) (hok : XOk σ) : XMet l y_LC_check [cw_LC_check] rm_LC_check (XP D dA s0 σ [.ref (xB s0 + XA 0 0), .int v]) (XQs D dA s0 xv_v (S_LC_check σ v)) 1 6 (xAm s0) := by
  refine XMet.ofW (cc := b_LC_check) (maxL := 3) (ret := none) (by decide) rfl ?_
  intro p e s m args below meth c s₁ Bd hml hv
  obtain ⟨rfl, hX, hO⟩ := hv
  have hx := Bd.exec
  have hb := Bd.bytes
  have hr := Bd.returns
  have hown : s.vm.findClass "LoadChecks" = some m.cls := findClass_of_methodNamed Bd.named
  have hlocks := Bd.notSynchronized
  have hnt : c.exceptionTable.isEmpty = true := Bd.noHandlers (atoms_spec (ws := [cw_LC_check]) Bd.pre _ List.mem_cons_self)
  have hW0 := hO.1
  have hts := xs_w (args := ([.ref (xB s0 + XA 0 0), .int v] : List Value).toArray) h0 hW0
  have hK := xs_K h0 hW0
  have hS := xo_S0 hO
  have hl := lv_entry ([.ref (xB s0 + XA 0 0), .int v]) (n := 3) (Nat.le_of_ble_eq_true rfl)
  rw [lg_entry_eq]
  generalize (lg_sl ([.ref (xB s0 + XA 0 0), .int v]) ++ List.replicate (3 - (lg_sl ([.ref (xB s0 + XA 0 0), .int v])).length) Slot.unset).toArray = ls at hl ⊢
  have hl : lv_has ls 3 [(0, .ref (xB s0 + XA 0 0)), (1, .int v)] := hl
  generalize hR : S_LC_check σ v = res
  unfold S_LC_check at hR
  refine lv_aload_n hx hb d_LC_check_0 rfl (lv_at hl 0 rfl) ?_
  refine lv_iload_n hx hb d_LC_check_1 rfl (lv_at hl 1 rfl) ?_
  obtain ⟨cB2, hcB2, hoB2, hkB2⟩ := xw_recv (r := 0) (i := 0) hK hX (by decide) rfl rfl
  refine xc_p (rest := []) (x_invV (argsL := [.int v]) hx hb hown (hts _ w_290) (hts _ w_292) (hts _ w_1) (x_code (hts _ w_293)) ⟨by decide, by decide⟩ hcB2 hoB2 hkB2 rfl rfl rfl d_LC_check_2) (c_LC_knownVehicle h0 σ v hok) (xs_cw h0 hW0 m_293) (hts _ w_34) ⟨rfl, rfl, Nat.le_of_ble_eq_true rfl, Nat.le_of_ble_eq_true rfl⟩ (hl.1.trans hml.symm) (by rw [hb]; exact d_LC_check_2) (Nat.le_of_ble_eq_true rfl) ⟨Nat.le_of_ble_eq_true rfl, Nat.le_of_ble_eq_true rfl⟩ hX ⟨hW0, xo_S hS⟩ (fun v2 hM2 => ?_) (fun E2 x2 H2 hM2 hE2 he2 => ?_)
  · rw [hM2] at hR
    dsimp only [xbp] at hR
    have f2 := f_known hok hM2
    refine lv_astore_n (lv' := [(2, .ref (xB s0 + XA 9 v2)), (0, .ref (xB s0 + XA 0 0)), (1, .int v)]) hx hb d_LC_check_5 rfl hl (by decide) rfl (fun ls hl => ?_)
    refine lv_aload_n hx hb d_LC_check_6 rfl (lv_at hl 0 rfl) ?_
    refine lv_aload_n hx hb d_LC_check_7 rfl (lv_at hl 1 rfl) ?_
    refine xw_get (C := R_LC) (T := F_LC) (N := 9) (r := 0) (i := 0) hx hb hts hi_LC hown hK hX (by decide) rfl rfl 7 (by decide) (hts _ w_140) rfl rfl d_LC_check_8 ?_
    refine xw_putN (C := R_VE) (T := F_VE) (N := 13) (r := 9) (i := v2) (ent' := XE dA (xB s0) (xuI σ 9 v2 9 (σ.1 0 0 7))) hx hb hts hi_VE t_VE t_VE_ok n_VE hown hK xInj hX hS (xA_in _ _ _) f2 rfl rfl 9 (by decide) (xs_N h0 hW0 m_100) rfl rfl rfl rfl (Nat.le_of_ble_eq_true rfl) ((xe_uI dA (xB s0) σ 9 v2 9 (σ.1 0 0 7)).trans rfl) (xe_oI dA (xB s0) σ 9 v2 9 (σ.1 0 0 7)) d_LC_check_11 (fun H locs hX hS => ?_)
    refine lv_aload_n hx hb d_LC_check_14 rfl (lv_at hl 0 rfl) ?_
    refine lv_aload_n hx hb d_LC_check_15 rfl (lv_at hl 1 rfl) ?_
    refine xw_get (C := R_LC) (T := F_LC) (N := 9) (r := 0) (i := 0) hx hb hts hi_LC hown hK hX (by decide) rfl rfl 8 (by decide) (hts _ w_141) rfl rfl d_LC_check_16 ?_
    refine xw_putN (C := R_VE) (T := F_VE) (N := 13) (r := 9) (i := v2) (ent' := XE dA (xB s0) (xuI (xuI σ 9 v2 9 (σ.1 0 0 7)) 9 v2 10 ((xuI σ 9 v2 9 (σ.1 0 0 7)).1 0 0 8))) hx hb hts hi_VE t_VE t_VE_ok n_VE hown hK xInj hX hS (xA_in _ _ _) f2 rfl rfl 10 (by decide) (xs_N h0 hW0 m_102) rfl rfl rfl rfl (Nat.le_of_ble_eq_true rfl) ((xe_uI dA (xB s0) (xuI σ 9 v2 9 (σ.1 0 0 7)) 9 v2 10 ((xuI σ 9 v2 9 (σ.1 0 0 7)).1 0 0 8)).trans rfl) (xe_oI dA (xB s0) (xuI σ 9 v2 9 (σ.1 0 0 7)) 9 v2 10 ((xuI σ 9 v2 9 (σ.1 0 0 7)).1 0 0 8)) d_LC_check_19 (fun H locs hX hS => ?_)
    subst hR
    refine W.widen (k := 1) (n := 6) (by decide) (by decide) ?_; exact xs_v hx hb hr hlocks hX hS d_LC_check_22
  · rw [hM2] at hR
    dsimp only [xbp] at hR
    subst hR
    refine xt_wid (k := 1) (n := 6) (by decide) (by decide) ?_
    exact xt_s hlocks hnt hE2 he2 (fun q h => by cases h)

abbrev rm_LC_now : Room := { frames := 7, cells := 2, slots := 12, locals := 104 }
def S_LC_now (σ : XS) (d : Int32) (sh : Int32) : (Unit × XS) ⊕ String := (xbp (S_LC_requireRange σ d (σ.1 0 0 7) (9999 : Int32)) fun _ => (if d = (σ.1 0 0 7) then (xbp (S_LC_requireRange σ sh (σ.1 0 0 8) (2 : Int32)) fun _ => .inl ((), (xuI (xuI σ 0 0 7 d) 0 0 8 sh))) else (xbp (S_LC_requireRange σ sh (0 : Int32) (2 : Int32)) fun _ => .inl ((), (xuI (xuI σ 0 0 7 d) 0 0 8 sh)))))
set_option maxHeartbeats 4000000 in
set_option maxRecDepth 100000 in
theorem c_LC_now {l : Launch} {s0 : State} {A0 : Array Value} {D : va_G} {dA : Nat → ClassId} (h0 : XS0 l s0 A0 D dA) (σ : XS) (d : Int32) (sh : Int32)  : XMet l y_LC_now [cw_LC_now] rm_LC_now (XP D dA s0 σ [.ref (xB s0 + XA 0 0), .int d, .int sh]) (XQs D dA s0 xv_v (S_LC_now σ d sh)) 2 12 (xAm s0) := by
  refine XMet.ofW (cc := b_LC_now) (maxL := 4) (ret := none) (by decide) rfl ?_
  intro p e s m args below meth c s₁ Bd hml hv
  obtain ⟨rfl, hX, hO⟩ := hv
  have hx := Bd.exec
  have hb := Bd.bytes
  have hr := Bd.returns
  have hown : s.vm.findClass "LoadChecks" = some m.cls := findClass_of_methodNamed Bd.named
  have hlocks := Bd.notSynchronized
  have hnt : c.exceptionTable.isEmpty = true := Bd.noHandlers (atoms_spec (ws := [cw_LC_now]) Bd.pre _ List.mem_cons_self)
  have hW0 := hO.1
  have hts := xs_w (args := ([.ref (xB s0 + XA 0 0), .int d, .int sh] : List Value).toArray) h0 hW0
  have hK := xs_K h0 hW0
  have hS := xo_S0 hO
  have hl := lv_entry ([.ref (xB s0 + XA 0 0), .int d, .int sh]) (n := 4) (Nat.le_of_ble_eq_true rfl)
  rw [lg_entry_eq]
  generalize (lg_sl ([.ref (xB s0 + XA 0 0), .int d, .int sh]) ++ List.replicate (4 - (lg_sl ([.ref (xB s0 + XA 0 0), .int d, .int sh])).length) Slot.unset).toArray = ls at hl ⊢
  have hl : lv_has ls 4 [(0, .ref (xB s0 + XA 0 0)), (1, .int d), (2, .int sh)] := hl
  generalize hR : S_LC_now σ d sh = res
  unfold S_LC_now at hR
  refine lv_iload_n hx hb d_LC_now_0 rfl (lv_at hl 1 rfl) ?_
  refine lv_aload_n hx hb d_LC_now_1 rfl (lv_at hl 0 rfl) ?_
  refine xw_get (C := R_LC) (T := F_LC) (N := 9) (r := 0) (i := 0) hx hb hts hi_LC hown hK hX (by decide) rfl rfl 7 (by decide) (hts _ w_140) rfl rfl d_LC_now_2 ?_
  refine lv_sipush (v := 9999) hx hb d_LC_now_5 (by decide) ?_
  refine xc_p (rest := []) (x_invS (argsL := [.int d, .int (σ.1 0 0 7), .int (9999 : Int32)]) hx hb hown (hts _ w_244) (hts _ w_245) (hts _ w_34) (x_code (hts _ w_246)) ⟨by decide, by decide⟩ rfl rfl rfl d_LC_now_8) (c_LC_requireRange h0 σ d (σ.1 0 0 7) (9999 : Int32)) (xs_cw h0 hW0 m_246) (hts _ w_34) ⟨rfl, rfl, Nat.le_of_ble_eq_true rfl, Nat.le_of_ble_eq_true rfl⟩ (hl.1.trans hml.symm) (by rw [hb]; exact d_LC_now_8) (Nat.le_of_ble_eq_true rfl) ⟨Nat.le_of_ble_eq_true rfl, Nat.le_of_ble_eq_true rfl⟩ hX ⟨hW0, xo_S hS⟩ (fun v8 hM8 => ?_) (fun E8 x8 H8 hM8 hE8 he8 => ?_)
  · rw [hM8] at hR
    dsimp only [xbp] at hR
    refine lv_iload_n hx hb d_LC_now_11 rfl (lv_at hl 1 rfl) ?_
    refine lv_aload_n hx hb d_LC_now_12 rfl (lv_at hl 0 rfl) ?_
    refine xw_get (C := R_LC) (T := F_LC) (N := 9) (r := 0) (i := 0) hx hb hts hi_LC hown hK hX (by decide) rfl rfl 7 (by decide) (hts _ w_140) rfl rfl d_LC_now_13 ?_
    refine lv_icmp_ne (tgt := 26) hx hb d_LC_now_16 (by decide) (fun c16 => ?_) (fun c16 => ?_)
    · rw [if_neg c16] at hR
      refine lv_iconst (v := 0) hx hb d_LC_now_26 (by decide) ?_
      refine lv_istore_n (lv' := [(3, .int (0 : Int32)), (0, .ref (xB s0 + XA 0 0)), (1, .int d), (2, .int sh)]) hx hb d_LC_now_27 rfl hl (by decide) rfl (fun ls hl => ?_)
      refine lv_iload_n hx hb d_LC_now_28 rfl (lv_at hl 3 rfl) ?_
      refine lv_iload_n hx hb d_LC_now_29 rfl (lv_at hl 0 rfl) ?_
      refine lv_iconst (v := 2) hx hb d_LC_now_30 (by decide) ?_
      refine xc_p (rest := []) (x_invS (argsL := [.int sh, .int (0 : Int32), .int (2 : Int32)]) hx hb hown (hts _ w_244) (hts _ w_245) (hts _ w_34) (x_code (hts _ w_246)) ⟨by decide, by decide⟩ rfl rfl rfl d_LC_now_31) (c_LC_requireRange h0 σ sh (0 : Int32) (2 : Int32)) (xs_cw h0 hW0 m_246) (hts _ w_34) ⟨rfl, rfl, Nat.le_of_ble_eq_true rfl, Nat.le_of_ble_eq_true rfl⟩ (hl.1.trans hml.symm) (by rw [hb]; exact d_LC_now_31) (Nat.le_of_ble_eq_true rfl) ⟨Nat.le_of_ble_eq_true rfl, Nat.le_of_ble_eq_true rfl⟩ hX ⟨hW0, xo_S hS⟩ (fun v31 hM31 => ?_) (fun E31 x31 H31 hM31 hE31 he31 => ?_)
      · rw [hM31] at hR
        dsimp only [xbp] at hR
        refine lv_aload_n hx hb d_LC_now_34 rfl (lv_at hl 1 rfl) ?_
        refine lv_iload_n hx hb d_LC_now_35 rfl (lv_at hl 2 rfl) ?_
        refine xw_put (C := R_LC) (T := F_LC) (N := 9) (r := 0) (i := 0) (ent' := XE dA (xB s0) (xuI σ 0 0 7 d)) hx hb hts hi_LC t_LC t_LC_ok n_LC hown hK xInj hX hS (xA_in _ _ _) (by decide) rfl rfl 7 (by decide) (hts _ w_140) rfl rfl rfl rfl (Nat.le_of_ble_eq_true rfl) ((xe_uI dA (xB s0) σ 0 0 7 d).trans rfl) (xe_oI dA (xB s0) σ 0 0 7 d) d_LC_now_36 (fun H locs hX hS => ?_)
        refine lv_aload_n hx hb d_LC_now_39 rfl (lv_at hl 1 rfl) ?_
        refine lv_iload_n hx hb d_LC_now_40 rfl (lv_at hl 3 rfl) ?_
        refine xw_put (C := R_LC) (T := F_LC) (N := 9) (r := 0) (i := 0) (ent' := XE dA (xB s0) (xuI (xuI σ 0 0 7 d) 0 0 8 sh)) hx hb hts hi_LC t_LC t_LC_ok n_LC hown hK xInj hX hS (xA_in _ _ _) (by decide) rfl rfl 8 (by decide) (hts _ w_141) rfl rfl rfl rfl (Nat.le_of_ble_eq_true rfl) ((xe_uI dA (xB s0) (xuI σ 0 0 7 d) 0 0 8 sh).trans rfl) (xe_oI dA (xB s0) (xuI σ 0 0 7 d) 0 0 8 sh) d_LC_now_41 (fun H locs hX hS => ?_)
        subst hR
        refine W.widen (k := 2) (n := 12) (by decide) (by decide) ?_; exact xs_v hx hb hr hlocks hX hS d_LC_now_44
      · rw [hM31] at hR
        dsimp only [xbp] at hR
        subst hR
        refine xt_wid (k := 2) (n := 12) (by decide) (by decide) ?_
        exact xt_s hlocks hnt hE31 he31 (fun q h => by cases h)
    · rw [if_pos c16] at hR
      refine lv_aload_n hx hb d_LC_now_19 rfl (lv_at hl 0 rfl) ?_
      refine xw_get (C := R_LC) (T := F_LC) (N := 9) (r := 0) (i := 0) hx hb hts hi_LC hown hK hX (by decide) rfl rfl 8 (by decide) (hts _ w_141) rfl rfl d_LC_now_20 ?_
      refine lv_goto (tgt := 27) hx hb d_LC_now_23 (by decide) ?_
      refine lv_istore_n (lv' := [(3, .int (σ.1 0 0 8)), (0, .ref (xB s0 + XA 0 0)), (1, .int d), (2, .int sh)]) hx hb d_LC_now_27 rfl hl (by decide) rfl (fun ls hl => ?_)
      refine lv_iload_n hx hb d_LC_now_28 rfl (lv_at hl 3 rfl) ?_
      refine lv_iload_n hx hb d_LC_now_29 rfl (lv_at hl 0 rfl) ?_
      refine lv_iconst (v := 2) hx hb d_LC_now_30 (by decide) ?_
      refine xc_p (rest := []) (x_invS (argsL := [.int sh, .int (σ.1 0 0 8), .int (2 : Int32)]) hx hb hown (hts _ w_244) (hts _ w_245) (hts _ w_34) (x_code (hts _ w_246)) ⟨by decide, by decide⟩ rfl rfl rfl d_LC_now_31) (c_LC_requireRange h0 σ sh (σ.1 0 0 8) (2 : Int32)) (xs_cw h0 hW0 m_246) (hts _ w_34) ⟨rfl, rfl, Nat.le_of_ble_eq_true rfl, Nat.le_of_ble_eq_true rfl⟩ (hl.1.trans hml.symm) (by rw [hb]; exact d_LC_now_31) (Nat.le_of_ble_eq_true rfl) ⟨Nat.le_of_ble_eq_true rfl, Nat.le_of_ble_eq_true rfl⟩ hX ⟨hW0, xo_S hS⟩ (fun v31 hM31 => ?_) (fun E31 x31 H31 hM31 hE31 he31 => ?_)
      · rw [hM31] at hR
        dsimp only [xbp] at hR
        refine lv_aload_n hx hb d_LC_now_34 rfl (lv_at hl 1 rfl) ?_
        refine lv_iload_n hx hb d_LC_now_35 rfl (lv_at hl 2 rfl) ?_
        refine xw_put (C := R_LC) (T := F_LC) (N := 9) (r := 0) (i := 0) (ent' := XE dA (xB s0) (xuI σ 0 0 7 d)) hx hb hts hi_LC t_LC t_LC_ok n_LC hown hK xInj hX hS (xA_in _ _ _) (by decide) rfl rfl 7 (by decide) (hts _ w_140) rfl rfl rfl rfl (Nat.le_of_ble_eq_true rfl) ((xe_uI dA (xB s0) σ 0 0 7 d).trans rfl) (xe_oI dA (xB s0) σ 0 0 7 d) d_LC_now_36 (fun H locs hX hS => ?_)
        refine lv_aload_n hx hb d_LC_now_39 rfl (lv_at hl 1 rfl) ?_
        refine lv_iload_n hx hb d_LC_now_40 rfl (lv_at hl 3 rfl) ?_
        refine xw_put (C := R_LC) (T := F_LC) (N := 9) (r := 0) (i := 0) (ent' := XE dA (xB s0) (xuI (xuI σ 0 0 7 d) 0 0 8 sh)) hx hb hts hi_LC t_LC t_LC_ok n_LC hown hK xInj hX hS (xA_in _ _ _) (by decide) rfl rfl 8 (by decide) (hts _ w_141) rfl rfl rfl rfl (Nat.le_of_ble_eq_true rfl) ((xe_uI dA (xB s0) (xuI σ 0 0 7 d) 0 0 8 sh).trans rfl) (xe_oI dA (xB s0) (xuI σ 0 0 7 d) 0 0 8 sh) d_LC_now_41 (fun H locs hX hS => ?_)
        subst hR
        refine W.widen (k := 2) (n := 12) (by decide) (by decide) ?_; exact xs_v hx hb hr hlocks hX hS d_LC_now_44
      · rw [hM31] at hR
        dsimp only [xbp] at hR
        subst hR
        refine xt_wid (k := 2) (n := 12) (by decide) (by decide) ?_
        exact xt_s hlocks hnt hE31 he31 (fun q h => by cases h)
  · rw [hM8] at hR
    dsimp only [xbp] at hR
    subst hR
    refine xt_wid (k := 2) (n := 12) (by decide) (by decide) ?_
    exact xt_s hlocks hnt hE8 he8 (fun q h => by cases h)

abbrev rm_LC_ready : Room := { frames := 7, cells := 1, slots := 6, locals := 103 }
def S_LC_ready (σ : XS) (v : Int32) : Int32 ⊕ String := (xbp (S_LC_knownVehicle σ v) fun v2 => (if (σ.1 9 v2 9) = (σ.1 0 0 7) then (if (σ.1 9 v2 10) = (σ.1 0 0 8) then (if (S_VE_missingCell σ v2 ((σ.1 9 v2 5).toNatClampNeg) (0 : Int32)) = (-1 : Int32) then (if (S_VE_hasBrokenSeal σ v2) = 0 then (if (S_VE_needsPastItem σ v2 ((σ.1 9 v2 5).toNatClampNeg) (σ.1 0 0 7)) = 0 then (if (S_VE_needsWeakItem σ v2 ((σ.1 9 v2 5).toNatClampNeg)) = 0 then (if (S_VE_isBeyond σ v2) = 0 then .inl (0 : Int32) else .inl (6 : Int32)) else .inl (5 : Int32)) else .inl (4 : Int32)) else .inl (3 : Int32)) else .inl (2 : Int32)) else .inl (1 : Int32)) else .inl (1 : Int32)))
set_option maxHeartbeats 4000000 in
set_option maxRecDepth 100000 in
theorem c_LC_ready {l : Launch} {s0 : State} {A0 : Array Value} {D : va_G} {dA : Nat → ClassId} (h0 : XS0 l s0 A0 D dA) (σ : XS) (v : Int32) (hok : XOk σ) : XMet l y_LC_ready [cw_LC_ready] rm_LC_ready (XP D dA s0 σ [.ref (xB s0 + XA 0 0), .int v]) (XQp xv_i (S_LC_ready σ v)) 1 6 (fun _ => False) := by
  refine XMet.ofW (cc := b_LC_ready) (maxL := 4) (ret := (some .int)) (by decide) rfl ?_
  intro p e s m args below meth c s₁ Bd hml hv
  obtain ⟨rfl, hX, hO⟩ := hv
  have hx := Bd.exec
  have hb := Bd.bytes
  have hr := Bd.returns
  have hown : s.vm.findClass "LoadChecks" = some m.cls := findClass_of_methodNamed Bd.named
  have hlocks := Bd.notSynchronized
  have hnt : c.exceptionTable.isEmpty = true := Bd.noHandlers (atoms_spec (ws := [cw_LC_ready]) Bd.pre _ List.mem_cons_self)
  have hW0 := hO.1
  have hts := xs_w (args := ([.ref (xB s0 + XA 0 0), .int v] : List Value).toArray) h0 hW0
  have hK := xs_K h0 hW0
  have hl := lv_entry ([.ref (xB s0 + XA 0 0), .int v]) (n := 4) (Nat.le_of_ble_eq_true rfl)
  rw [lg_entry_eq]
  generalize (lg_sl ([.ref (xB s0 + XA 0 0), .int v]) ++ List.replicate (4 - (lg_sl ([.ref (xB s0 + XA 0 0), .int v])).length) Slot.unset).toArray = ls at hl ⊢
  have hl : lv_has ls 4 [(0, .ref (xB s0 + XA 0 0)), (1, .int v)] := hl
  generalize hR : S_LC_ready σ v = res
  unfold S_LC_ready at hR
  refine lv_aload_n hx hb d_LC_ready_0 rfl (lv_at hl 0 rfl) ?_
  refine lv_iload_n hx hb d_LC_ready_1 rfl (lv_at hl 1 rfl) ?_
  obtain ⟨cB2, hcB2, hoB2, hkB2⟩ := xw_recv (r := 0) (i := 0) hK hX (by decide) rfl rfl
  refine xc_p (rest := []) (x_invV (argsL := [.int v]) hx hb hown (hts _ w_290) (hts _ w_292) (hts _ w_1) (x_code (hts _ w_293)) ⟨by decide, by decide⟩ hcB2 hoB2 hkB2 rfl rfl rfl d_LC_ready_2) (c_LC_knownVehicle h0 σ v hok) (xs_cw h0 hW0 m_293) (hts _ w_34) ⟨rfl, rfl, Nat.le_of_ble_eq_true rfl, Nat.le_of_ble_eq_true rfl⟩ (hl.1.trans hml.symm) (by rw [hb]; exact d_LC_ready_2) (Nat.le_of_ble_eq_true rfl) ⟨Nat.le_of_ble_eq_true rfl, Nat.le_of_ble_eq_true rfl⟩ hX hO (fun v2 hM2 => ?_) (fun E2 x2 H2 hM2 hE2 he2 => ?_)
  · rw [hM2] at hR
    dsimp only [xbp] at hR
    have f2 := f_known hok hM2
    refine lv_astore_n (lv' := [(2, .ref (xB s0 + XA 9 v2)), (0, .ref (xB s0 + XA 0 0)), (1, .int v)]) hx hb d_LC_ready_5 rfl hl (by decide) rfl (fun ls hl => ?_)
    refine lv_aload_n hx hb d_LC_ready_6 rfl (lv_at hl 1 rfl) ?_
    refine xw_get (C := R_LC) (T := F_LC) (N := 9) (r := 0) (i := 0) hx hb hts hi_LC hown hK hX (by decide) rfl rfl 3 (by decide) (hts _ w_136) rfl rfl d_LC_ready_7 ?_
    refine lv_aload_n hx hb d_LC_ready_10 rfl (lv_at hl 0 rfl) ?_
    refine xw_getN (C := R_VE) (T := F_VE) (N := 13) (r := 9) (i := v2) hx hb hts hi_VE hown hK hX f2 rfl rfl 5 (by decide) (xs_N h0 hW0 m_92) rfl rfl d_LC_ready_11 ?_
    refine xw_aald (r := 4) (i := 0) hx hb hK hX (by decide) 3 rfl rfl rfl (j := (σ.1 9 v2 5)) (hok.2.1 _ f2) rfl d_LC_ready_14 ?_
    refine lv_astore_n (lv' := [(3, .ref (xB s0 + XA 5 ((σ.1 9 v2 5).toNatClampNeg))), (2, .ref (xB s0 + XA 9 v2)), (0, .ref (xB s0 + XA 0 0)), (1, .int v)]) hx hb d_LC_ready_15 rfl hl (by decide) rfl (fun ls hl => ?_)
    refine lv_aload_n hx hb d_LC_ready_16 rfl (lv_at hl 1 rfl) ?_
    refine xw_getN (C := R_VE) (T := F_VE) (N := 13) (r := 9) (i := v2) hx hb hts hi_VE hown hK hX f2 rfl rfl 9 (by decide) (xs_N h0 hW0 m_100) rfl rfl d_LC_ready_17 ?_
    refine lv_aload_n hx hb d_LC_ready_20 rfl (lv_at hl 2 rfl) ?_
    refine xw_get (C := R_LC) (T := F_LC) (N := 9) (r := 0) (i := 0) hx hb hts hi_LC hown hK hX (by decide) rfl rfl 7 (by decide) (hts _ w_140) rfl rfl d_LC_ready_21 ?_
    refine lv_icmp_ne (tgt := 38) hx hb d_LC_ready_24 (by decide) (fun c24 => ?_) (fun c24 => ?_)
    · rw [if_neg c24] at hR
      refine lv_iconst (v := 1) hx hb d_LC_ready_38 (by decide) ?_
      subst hR
      refine W.widen (k := 1) (n := 6) (by decide) (by decide) ?_; exact xr_i hx hb hr hlocks d_LC_ready_39
    · rw [if_pos c24] at hR
      refine lv_aload_n hx hb d_LC_ready_27 rfl (lv_at hl 1 rfl) ?_
      refine xw_getN (C := R_VE) (T := F_VE) (N := 13) (r := 9) (i := v2) hx hb hts hi_VE hown hK hX f2 rfl rfl 10 (by decide) (xs_N h0 hW0 m_102) rfl rfl d_LC_ready_28 ?_
      refine lv_aload_n hx hb d_LC_ready_31 rfl (lv_at hl 2 rfl) ?_
      refine xw_get (C := R_LC) (T := F_LC) (N := 9) (r := 0) (i := 0) hx hb hts hi_LC hown hK hX (by decide) rfl rfl 8 (by decide) (hts _ w_141) rfl rfl d_LC_ready_32 ?_
      refine lv_icmp_eq (tgt := 40) hx hb d_LC_ready_35 (by decide) (fun c35 => ?_) (fun c35 => ?_)
      · rw [if_pos c35] at hR
        refine lv_aload_n hx hb d_LC_ready_40 rfl (lv_at hl 1 rfl) ?_
        refine lv_aload_n hx hb d_LC_ready_41 rfl (lv_at hl 0 rfl) ?_
        refine lv_iconst (v := 0) hx hb d_LC_ready_42 (by decide) ?_
        obtain ⟨cB43, hcB43, hoB43, hkB43⟩ := xw_recv (r := 9) (i := v2) hK hX f2 rfl rfl
        refine xc_f (rest := []) (x_invVN (argsL := [.ref (xB s0 + XA 5 ((σ.1 9 v2 5).toNatClampNeg)), .int (0 : Int32)]) hx hb hown (xs_M h0 hW0 m_487) (hts _ w_489) (hts _ w_13) (x_code (hts _ w_490)) ⟨by decide, by decide⟩ hcB43 hoB43 hkB43 rfl rfl rfl d_LC_ready_43) (c_VE_missingCell h0 σ v2 ((σ.1 9 v2 5).toNatClampNeg) (0 : Int32) f2 (vp_lt (hok.2.1 _ f2))) (xs_cw h0 hW0 m_490) (hts _ w_36) ⟨rfl, rfl, Nat.le_of_ble_eq_true rfl, Nat.le_of_ble_eq_true rfl⟩ (hl.1.trans hml.symm) (by rw [hb]; exact d_LC_ready_43) (Nat.le_of_ble_eq_true rfl) ⟨Nat.le_of_ble_eq_true rfl, Nat.le_of_ble_eq_true rfl⟩ hX hO ?_
        refine lv_iconst (v := -1) hx hb d_LC_ready_46 (by decide) ?_
        refine lv_icmp_eq (tgt := 52) hx hb d_LC_ready_47 (by decide) (fun c47 => ?_) (fun c47 => ?_)
        · rw [if_pos c47] at hR
          refine lv_aload_n hx hb d_LC_ready_52 rfl (lv_at hl 1 rfl) ?_
          obtain ⟨cB53, hcB53, hoB53, hkB53⟩ := xw_recv (r := 9) (i := v2) hK hX f2 rfl rfl
          refine xc_f (rest := []) (x_invVN (argsL := []) hx hb hown (xs_M h0 hW0 m_492) (hts _ w_494) (hts _ w_14) (x_code (hts _ w_495)) ⟨by decide, by decide⟩ hcB53 hoB53 hkB53 rfl rfl rfl d_LC_ready_53) (c_VE_hasBrokenSeal h0 σ v2 f2) (xs_cw h0 hW0 m_495) (hts _ w_36) ⟨rfl, rfl, Nat.le_of_ble_eq_true rfl, Nat.le_of_ble_eq_true rfl⟩ (hl.1.trans hml.symm) (by rw [hb]; exact d_LC_ready_53) (Nat.le_of_ble_eq_true rfl) ⟨Nat.le_of_ble_eq_true rfl, Nat.le_of_ble_eq_true rfl⟩ hX hO ?_
          refine lv_if_eq (tgt := 61) hx hb d_LC_ready_56 (by decide) (fun c56 => ?_) (fun c56 => ?_)
          · rw [if_pos c56] at hR
            refine lv_aload_n hx hb d_LC_ready_61 rfl (lv_at hl 1 rfl) ?_
            refine lv_aload_n hx hb d_LC_ready_62 rfl (lv_at hl 0 rfl) ?_
            refine lv_aload_n hx hb d_LC_ready_63 rfl (lv_at hl 2 rfl) ?_
            refine xw_get (C := R_LC) (T := F_LC) (N := 9) (r := 0) (i := 0) hx hb hts hi_LC hown hK hX (by decide) rfl rfl 7 (by decide) (hts _ w_140) rfl rfl d_LC_ready_64 ?_
            obtain ⟨cB67, hcB67, hoB67, hkB67⟩ := xw_recv (r := 9) (i := v2) hK hX f2 rfl rfl
            refine xc_f (rest := []) (x_invVN (argsL := [.ref (xB s0 + XA 5 ((σ.1 9 v2 5).toNatClampNeg)), .int (σ.1 0 0 7)]) hx hb hown (xs_M h0 hW0 m_496) (hts _ w_498) (hts _ w_15) (x_code (hts _ w_499)) ⟨by decide, by decide⟩ hcB67 hoB67 hkB67 rfl rfl rfl d_LC_ready_67) (c_VE_needsPastItem h0 σ v2 ((σ.1 9 v2 5).toNatClampNeg) (σ.1 0 0 7) f2 (vp_lt (hok.2.1 _ f2))) (xs_cw h0 hW0 m_499) (hts _ w_36) ⟨rfl, rfl, Nat.le_of_ble_eq_true rfl, Nat.le_of_ble_eq_true rfl⟩ (hl.1.trans hml.symm) (by rw [hb]; exact d_LC_ready_67) (Nat.le_of_ble_eq_true rfl) ⟨Nat.le_of_ble_eq_true rfl, Nat.le_of_ble_eq_true rfl⟩ hX hO ?_
            refine lv_if_eq (tgt := 75) hx hb d_LC_ready_70 (by decide) (fun c70 => ?_) (fun c70 => ?_)
            · rw [if_pos c70] at hR
              refine lv_aload_n hx hb d_LC_ready_75 rfl (lv_at hl 1 rfl) ?_
              refine lv_aload_n hx hb d_LC_ready_76 rfl (lv_at hl 0 rfl) ?_
              refine lv_aload_n hx hb d_LC_ready_77 rfl (lv_at hl 2 rfl) ?_
              refine xw_get (C := R_LC) (T := F_LC) (N := 9) (r := 0) (i := 0) hx hb hts hi_LC hown hK hX (by decide) rfl rfl 1 (by decide) (hts _ w_134) rfl rfl d_LC_ready_78 ?_
              obtain ⟨cB81, hcB81, hoB81, hkB81⟩ := xw_recv (r := 9) (i := v2) hK hX f2 rfl rfl
              refine xc_f (rest := []) (x_invVN (argsL := [.ref (xB s0 + XA 5 ((σ.1 9 v2 5).toNatClampNeg)), .ref (xB s0 + XA 2 0)]) hx hb hown (xs_M h0 hW0 m_500) (hts _ w_502) (hts _ w_16) (x_code (hts _ w_503)) ⟨by decide, by decide⟩ hcB81 hoB81 hkB81 rfl rfl rfl d_LC_ready_81) (c_VE_needsWeakItem h0 σ v2 ((σ.1 9 v2 5).toNatClampNeg) f2 (vp_lt (hok.2.1 _ f2))) (xs_cw h0 hW0 m_503) (hts _ w_36) ⟨rfl, rfl, Nat.le_of_ble_eq_true rfl, Nat.le_of_ble_eq_true rfl⟩ (hl.1.trans hml.symm) (by rw [hb]; exact d_LC_ready_81) (Nat.le_of_ble_eq_true rfl) ⟨Nat.le_of_ble_eq_true rfl, Nat.le_of_ble_eq_true rfl⟩ hX hO ?_
              refine lv_if_eq (tgt := 89) hx hb d_LC_ready_84 (by decide) (fun c84 => ?_) (fun c84 => ?_)
              · rw [if_pos c84] at hR
                refine lv_aload_n hx hb d_LC_ready_89 rfl (lv_at hl 1 rfl) ?_
                obtain ⟨cB90, hcB90, hoB90, hkB90⟩ := xw_recv (r := 9) (i := v2) hK hX f2 rfl rfl
                refine xc_f (rest := []) (x_invVN (argsL := []) hx hb hown (xs_M h0 hW0 m_504) (hts _ w_506) (hts _ w_17) (x_code (hts _ w_507)) ⟨by decide, by decide⟩ hcB90 hoB90 hkB90 rfl rfl rfl d_LC_ready_90) (c_VE_isBeyond h0 σ v2 f2) (xs_cw h0 hW0 m_507) (hts _ w_36) ⟨rfl, rfl, Nat.le_of_ble_eq_true rfl, Nat.le_of_ble_eq_true rfl⟩ (hl.1.trans hml.symm) (by rw [hb]; exact d_LC_ready_90) (Nat.le_of_ble_eq_true rfl) ⟨Nat.le_of_ble_eq_true rfl, Nat.le_of_ble_eq_true rfl⟩ hX hO ?_
                refine lv_if_eq (tgt := 101) hx hb d_LC_ready_93 (by decide) (fun c93 => ?_) (fun c93 => ?_)
                · rw [if_pos c93] at hR
                  refine lv_iconst (v := 0) hx hb d_LC_ready_101 (by decide) ?_
                  subst hR
                  refine W.widen (k := 1) (n := 6) (by decide) (by decide) ?_; exact xr_i hx hb hr hlocks d_LC_ready_102
                · rw [if_neg c93] at hR
                  refine lv_bipush (v := 6) hx hb d_LC_ready_96 (by decide) ?_
                  refine lv_goto (tgt := 102) hx hb d_LC_ready_98 (by decide) ?_
                  subst hR
                  refine W.widen (k := 1) (n := 6) (by decide) (by decide) ?_; exact xr_i hx hb hr hlocks d_LC_ready_102
              · rw [if_neg c84] at hR
                refine lv_iconst (v := 5) hx hb d_LC_ready_87 (by decide) ?_
                subst hR
                refine W.widen (k := 1) (n := 6) (by decide) (by decide) ?_; exact xr_i hx hb hr hlocks d_LC_ready_88
            · rw [if_neg c70] at hR
              refine lv_iconst (v := 4) hx hb d_LC_ready_73 (by decide) ?_
              subst hR
              refine W.widen (k := 1) (n := 6) (by decide) (by decide) ?_; exact xr_i hx hb hr hlocks d_LC_ready_74
          · rw [if_neg c56] at hR
            refine lv_iconst (v := 3) hx hb d_LC_ready_59 (by decide) ?_
            subst hR
            refine W.widen (k := 1) (n := 6) (by decide) (by decide) ?_; exact xr_i hx hb hr hlocks d_LC_ready_60
        · rw [if_neg c47] at hR
          refine lv_iconst (v := 2) hx hb d_LC_ready_50 (by decide) ?_
          subst hR
          refine W.widen (k := 1) (n := 6) (by decide) (by decide) ?_; exact xr_i hx hb hr hlocks d_LC_ready_51
      · rw [if_neg c35] at hR
        refine lv_iconst (v := 1) hx hb d_LC_ready_38 (by decide) ?_
        subst hR
        refine W.widen (k := 1) (n := 6) (by decide) (by decide) ?_; exact xr_i hx hb hr hlocks d_LC_ready_39
  · rw [hM2] at hR
    dsimp only [xbp] at hR
    subst hR
    refine xt_wid (k := 1) (n := 6) (by decide) (by decide) ?_
    exact xt_p hlocks hnt hE2 he2

abbrev rm_LC_missing : Room := { frames := 7, cells := 2, slots := 12, locals := 103 }
def S_LC_missing (σ : XS) (v : Int32) (q : Int32) : Int32 ⊕ String := (xbp (S_LC_knownVehicle σ v) fun v2 => (if 0 ≤ q then (if (S_VE_missingCell σ v2 ((σ.1 9 v2 5).toNatClampNeg) q) < 0 then .inl (-1 : Int32) else (if (S_VE_missingCell σ v2 ((σ.1 9 v2 5).toNatClampNeg) q) < (240 : Int32) then .inl ((((10000 : Int32) * ((S_VE_missingCell σ v2 ((σ.1 9 v2 5).toNatClampNeg) q) / (30 : Int32))) + ((100 : Int32) * ((S_VE_missingCell σ v2 ((σ.1 9 v2 5).toNatClampNeg) q) - (S_VE_missingCell σ v2 ((σ.1 9 v2 5).toNatClampNeg) q) / (30 : Int32) * (30 : Int32)))) + (S_VE_lackOf σ v2 (S_VE_missingCell σ v2 ((σ.1 9 v2 5).toNatClampNeg) q) (σ.1 5 ((σ.1 9 v2 5).toNatClampNeg) (S_VE_missingCell σ v2 ((σ.1 9 v2 5).toNatClampNeg) q).toNatClampNeg))) else .inl (-1 : Int32))) else .inr "java/lang/IndexOutOfBoundsException"))
set_option maxHeartbeats 4000000 in
set_option maxRecDepth 100000 in
theorem c_LC_missing {l : Launch} {s0 : State} {A0 : Array Value} {D : va_G} {dA : Nat → ClassId} (h0 : XS0 l s0 A0 D dA) (σ : XS) (v : Int32) (q : Int32) (hok : XOk σ) : XMet l y_LC_missing [cw_LC_missing] rm_LC_missing (XP D dA s0 σ [.ref (xB s0 + XA 0 0), .int v, .int q]) (XQp xv_i (S_LC_missing σ v q)) 2 12 (fun _ => False) := by
  refine XMet.ofW (cc := b_LC_missing) (maxL := 6) (ret := (some .int)) (by decide) rfl ?_
  intro p e s m args below meth c s₁ Bd hml hv
  obtain ⟨rfl, hX, hO⟩ := hv
  have hx := Bd.exec
  have hb := Bd.bytes
  have hr := Bd.returns
  have hown : s.vm.findClass "LoadChecks" = some m.cls := findClass_of_methodNamed Bd.named
  have hlocks := Bd.notSynchronized
  have hnt : c.exceptionTable.isEmpty = true := Bd.noHandlers (atoms_spec (ws := [cw_LC_missing]) Bd.pre _ List.mem_cons_self)
  have hW0 := hO.1
  have hts := xs_w (args := ([.ref (xB s0 + XA 0 0), .int v, .int q] : List Value).toArray) h0 hW0
  have hK := xs_K h0 hW0
  have hl := lv_entry ([.ref (xB s0 + XA 0 0), .int v, .int q]) (n := 6) (Nat.le_of_ble_eq_true rfl)
  rw [lg_entry_eq]
  generalize (lg_sl ([.ref (xB s0 + XA 0 0), .int v, .int q]) ++ List.replicate (6 - (lg_sl ([.ref (xB s0 + XA 0 0), .int v, .int q])).length) Slot.unset).toArray = ls at hl ⊢
  have hl : lv_has ls 6 [(0, .ref (xB s0 + XA 0 0)), (1, .int v), (2, .int q)] := hl
  generalize hR : S_LC_missing σ v q = res
  unfold S_LC_missing at hR
  refine lv_aload_n hx hb d_LC_missing_0 rfl (lv_at hl 0 rfl) ?_
  refine lv_iload_n hx hb d_LC_missing_1 rfl (lv_at hl 1 rfl) ?_
  obtain ⟨cB2, hcB2, hoB2, hkB2⟩ := xw_recv (r := 0) (i := 0) hK hX (by decide) rfl rfl
  refine xc_p (rest := []) (x_invV (argsL := [.int v]) hx hb hown (hts _ w_290) (hts _ w_292) (hts _ w_1) (x_code (hts _ w_293)) ⟨by decide, by decide⟩ hcB2 hoB2 hkB2 rfl rfl rfl d_LC_missing_2) (c_LC_knownVehicle h0 σ v hok) (xs_cw h0 hW0 m_293) (hts _ w_34) ⟨rfl, rfl, Nat.le_of_ble_eq_true rfl, Nat.le_of_ble_eq_true rfl⟩ (hl.1.trans hml.symm) (by rw [hb]; exact d_LC_missing_2) (Nat.le_of_ble_eq_true rfl) ⟨Nat.le_of_ble_eq_true rfl, Nat.le_of_ble_eq_true rfl⟩ hX hO (fun v2 hM2 => ?_) (fun E2 x2 H2 hM2 hE2 he2 => ?_)
  · rw [hM2] at hR
    dsimp only [xbp] at hR
    have f2 := f_known hok hM2
    refine lv_astore_n (lv' := [(3, .ref (xB s0 + XA 9 v2)), (0, .ref (xB s0 + XA 0 0)), (1, .int v), (2, .int q)]) hx hb d_LC_missing_5 rfl hl (by decide) rfl (fun ls hl => ?_)
    refine lv_iload_n hx hb d_LC_missing_6 rfl (lv_at hl 3 rfl) ?_
    refine lv_if_ge (tgt := 20) hx hb d_LC_missing_7 (by decide) (fun c7 => ?_) (fun c7 => ?_)
    · rw [if_pos c7] at hR
      refine lv_aload_n hx hb d_LC_missing_20 rfl (lv_at hl 1 rfl) ?_
      refine xw_get (C := R_LC) (T := F_LC) (N := 9) (r := 0) (i := 0) hx hb hts hi_LC hown hK hX (by decide) rfl rfl 3 (by decide) (hts _ w_136) rfl rfl d_LC_missing_21 ?_
      refine lv_aload_n hx hb d_LC_missing_24 rfl (lv_at hl 0 rfl) ?_
      refine xw_getN (C := R_VE) (T := F_VE) (N := 13) (r := 9) (i := v2) hx hb hts hi_VE hown hK hX f2 rfl rfl 5 (by decide) (xs_N h0 hW0 m_92) rfl rfl d_LC_missing_25 ?_
      refine xw_aald (r := 4) (i := 0) hx hb hK hX (by decide) 3 rfl rfl rfl (j := (σ.1 9 v2 5)) (hok.2.1 _ f2) rfl d_LC_missing_28 ?_
      refine lv_astore (lv' := [(4, .ref (xB s0 + XA 5 ((σ.1 9 v2 5).toNatClampNeg))), (3, .ref (xB s0 + XA 9 v2)), (0, .ref (xB s0 + XA 0 0)), (1, .int v), (2, .int q)]) hx hb d_LC_missing_29 hl (by decide) rfl (fun ls hl => ?_)
      refine lv_aload_n hx hb d_LC_missing_31 rfl (lv_at hl 1 rfl) ?_
      refine lv_aload hx hb d_LC_missing_32 (lv_at hl 0 rfl) ?_
      refine lv_iload_n hx hb d_LC_missing_34 rfl (lv_at hl 4 rfl) ?_
      obtain ⟨cB35, hcB35, hoB35, hkB35⟩ := xw_recv (r := 9) (i := v2) hK hX f2 rfl rfl
      refine xc_f (rest := []) (x_invVN (argsL := [.ref (xB s0 + XA 5 ((σ.1 9 v2 5).toNatClampNeg)), .int q]) hx hb hown (xs_M h0 hW0 m_487) (hts _ w_489) (hts _ w_13) (x_code (hts _ w_490)) ⟨by decide, by decide⟩ hcB35 hoB35 hkB35 rfl rfl rfl d_LC_missing_35) (c_VE_missingCell h0 σ v2 ((σ.1 9 v2 5).toNatClampNeg) q f2 (vp_lt (hok.2.1 _ f2))) (xs_cw h0 hW0 m_490) (hts _ w_36) ⟨rfl, rfl, Nat.le_of_ble_eq_true rfl, Nat.le_of_ble_eq_true rfl⟩ (hl.1.trans hml.symm) (by rw [hb]; exact d_LC_missing_35) (Nat.le_of_ble_eq_true rfl) ⟨Nat.le_of_ble_eq_true rfl, Nat.le_of_ble_eq_true rfl⟩ hX hO ?_
      refine lv_istore (lv' := [(5, .int (S_VE_missingCell σ v2 ((σ.1 9 v2 5).toNatClampNeg) q)), (4, .ref (xB s0 + XA 5 ((σ.1 9 v2 5).toNatClampNeg))), (3, .ref (xB s0 + XA 9 v2)), (0, .ref (xB s0 + XA 0 0)), (1, .int v), (2, .int q)]) hx hb d_LC_missing_38 hl (by decide) rfl (fun ls hl => ?_)
      refine lv_iload hx hb d_LC_missing_40 (lv_at hl 0 rfl) ?_
      refine lv_if_lt (tgt := 53) hx hb d_LC_missing_42 (by decide) (fun c42 => ?_) (fun c42 => ?_)
      · rw [if_pos c42] at hR
        refine lv_iconst (v := -1) hx hb d_LC_missing_53 (by decide) ?_
        subst hR
        refine W.widen (k := 2) (n := 12) (by decide) (by decide) ?_; exact xr_i hx hb hr hlocks d_LC_missing_54
      · rw [if_neg c42] at hR
        refine lv_iload hx hb d_LC_missing_45 (lv_at hl 0 rfl) ?_
        refine lv_sipush (v := 240) hx hb d_LC_missing_47 (by decide) ?_
        refine lv_icmp_lt (tgt := 55) hx hb d_LC_missing_50 (by decide) (fun c50 => ?_) (fun c50 => ?_)
        · rw [if_pos c50] at hR
          refine lv_sipush (v := 10000) hx hb d_LC_missing_55 (by decide) ?_
          refine lv_iload hx hb d_LC_missing_58 (lv_at hl 0 rfl) ?_
          refine lv_bipush (v := 30) hx hb d_LC_missing_60 (by decide) ?_
          refine lv_idiv hx hb d_LC_missing_62 (by decide) ?_
          refine lv_imul hx hb d_LC_missing_63 ?_
          refine lv_bipush (v := 100) hx hb d_LC_missing_64 (by decide) ?_
          refine lv_iload hx hb d_LC_missing_66 (lv_at hl 0 rfl) ?_
          refine lv_bipush (v := 30) hx hb d_LC_missing_68 (by decide) ?_
          refine lv_irem hx hb d_LC_missing_70 (by decide) ?_
          refine lv_imul hx hb d_LC_missing_71 ?_
          refine lv_iadd hx hb d_LC_missing_72 ?_
          refine lv_aload_n hx hb d_LC_missing_73 rfl (lv_at hl 2 rfl) ?_
          refine lv_iload hx hb d_LC_missing_74 (lv_at hl 0 rfl) ?_
          refine lv_aload hx hb d_LC_missing_76 (lv_at hl 1 rfl) ?_
          refine lv_iload hx hb d_LC_missing_78 (lv_at hl 0 rfl) ?_
          refine xw_iald (r := 5) (i := (σ.1 9 v2 5).toNatClampNeg) hx hb hK hX (vp_lt (hok.2.1 _ f2)) 0 rfl rfl (j := (S_VE_missingCell σ v2 ((σ.1 9 v2 5).toNatClampNeg) q)) (o_msc c42 c50) d_LC_missing_80 ?_
          obtain ⟨cB81, hcB81, hoB81, hkB81⟩ := xw_recv (r := 9) (i := v2) hK hX f2 rfl rfl
          refine xc_f (rest := [.int (((10000 : Int32) * ((S_VE_missingCell σ v2 ((σ.1 9 v2 5).toNatClampNeg) q) / (30 : Int32))) + ((100 : Int32) * ((S_VE_missingCell σ v2 ((σ.1 9 v2 5).toNatClampNeg) q) - (S_VE_missingCell σ v2 ((σ.1 9 v2 5).toNatClampNeg) q) / (30 : Int32) * (30 : Int32))))]) (x_invVN (argsL := [.int (S_VE_missingCell σ v2 ((σ.1 9 v2 5).toNatClampNeg) q), .int (σ.1 5 ((σ.1 9 v2 5).toNatClampNeg) (S_VE_missingCell σ v2 ((σ.1 9 v2 5).toNatClampNeg) q).toNatClampNeg)]) hx hb hown (xs_M h0 hW0 m_421) (hts _ w_423) (hts _ w_11) (x_code (hts _ w_424)) ⟨by decide, by decide⟩ hcB81 hoB81 hkB81 rfl rfl rfl d_LC_missing_81) (c_VE_lackOf h0 σ v2 (S_VE_missingCell σ v2 ((σ.1 9 v2 5).toNatClampNeg) q) (σ.1 5 ((σ.1 9 v2 5).toNatClampNeg) (S_VE_missingCell σ v2 ((σ.1 9 v2 5).toNatClampNeg) q).toNatClampNeg) f2 (o_msc c42 c50)) (xs_cw h0 hW0 m_424) (hts _ w_36) ⟨rfl, rfl, Nat.le_of_ble_eq_true rfl, Nat.le_of_ble_eq_true rfl⟩ (hl.1.trans hml.symm) (by rw [hb]; exact d_LC_missing_81) (Nat.le_of_ble_eq_true rfl) ⟨Nat.le_of_ble_eq_true rfl, Nat.le_of_ble_eq_true rfl⟩ hX hO ?_
          refine lv_iadd hx hb d_LC_missing_84 ?_
          subst hR
          refine W.widen (k := 2) (n := 12) (by decide) (by decide) ?_; exact xr_i hx hb hr hlocks d_LC_missing_85
        · rw [if_neg c50] at hR
          refine lv_iconst (v := -1) hx hb d_LC_missing_53 (by decide) ?_
          subst hR
          refine W.widen (k := 2) (n := 12) (by decide) (by decide) ?_; exact xr_i hx hb hr hlocks d_LC_missing_54
    · rw [if_neg c7] at hR
      obtain ⟨qs, hqs⟩ := xs_str h0 hW0 (own := "LoadChecks") (k := 188) (tx := "below the first") (by decide +kernel); subst hR; refine W.widen (k := 1) (n := 6) (by decide) (by decide) ?_; exact x_throw hx hb h0.1 hown hlocks hnt (hl.1.trans hml.symm) (hts _ w_247) (hts _ w_43) hqs (x_own hO rfl (oa_IOB h0)) (by decide +kernel) (by decide +kernel) d_LC_missing_10 d_LC_missing_13 d_LC_missing_14 d_LC_missing_16 d_LC_missing_19 (Nat.le_of_ble_eq_true rfl) (Nat.le_of_ble_eq_true rfl) (Nat.le_of_ble_eq_true rfl) (Nat.le_of_ble_eq_true rfl) (fun x t h1 h2 => Or.inr ⟨_, x, rfl, rfl, h1, h2⟩)
  · rw [hM2] at hR
    dsimp only [xbp] at hR
    subst hR
    refine xt_wid (k := 2) (n := 12) (by decide) (by decide) ?_
    exact xt_p hlocks hnt hE2 he2

abbrev rm_LC_share : Room := { frames := 7, cells := 2, slots := 12, locals := 103 }
def L_LC_share : Nat → XS → Nat → Nat → Int32 → Int32 → Int32 → Int32 ⊕ String
  | 0, _, _, _, _, _, _ => .inr ""
  | n + 1, σ, i, kk, x4, x5, x6 => (if (240 : Int32) ≤ x6 then (if x4 = 0 then .inr "java/lang/ArithmeticException" else .inl (((1000 : Int32) * x5) / x4)) else (L_LC_share n σ i kk (x4 + (σ.1 5 kk x6.toNatClampNeg)) (x5 + (if (σ.1 5 kk x6.toNatClampNeg) < (σ.1 12 i x6.toNatClampNeg) then (σ.1 5 kk x6.toNatClampNeg) else (σ.1 12 i x6.toNatClampNeg))) (x6 + 1)))
def S_LC_share (σ : XS) (v : Int32) : Int32 ⊕ String := (xbp (S_LC_knownVehicle σ v) fun v2 => (L_LC_share 241 σ v2 ((σ.1 9 v2 5).toNatClampNeg) (0 : Int32) (0 : Int32) (0 : Int32)))
set_option maxHeartbeats 4000000 in
set_option maxRecDepth 100000 in
theorem l_LC_share {l : Launch} {s0 : State} {A0 : Array Value} {D : va_G} {dA : Nat → ClassId} (h0 : XS0 l s0 A0 D dA) {p : Program} {e : Env} {s : State} {m : MethodId} {args : Array Value} {below : List Frame} {meth : Method} {c : Code} (hx : p.tables.exec = Jvm.exec) (hb : c.code = b_LC_share) (hr : meth.sig.returnType = (some .int)) (hml : c.maxLocals = 7) (hown : s.vm.findClass "LoadChecks" = some m.cls) (hlocks : meth.locks = false) (hnt : c.exceptionTable.isEmpty = true) (hO : XO s0 s s.heap) :
    ∀ (n : Nat) (σ : XS) (i : Nat) (kk : Nat) (x4 : Int32) (x5 : Int32) (x6 : Int32) (k : Nat), x6 = nI k → k + n = 241 → k < 241 → i < 16 → kk < 6 → XWs D dA s0 σ s.heap → ∀ (ls : Array Slot), lv_has ls 7 [(2, .ref (xB s0 + XA 9 i)), (3, .ref (xB s0 + XA 5 kk)), (4, .int x4), (5, .int x5), (6, .int x6)] → ∀ res, L_LC_share n σ i kk x4 x5 x6 = res →
    W p l e rm_LC_share s m args below meth c s.heap [] 1 6 (XMQ below (XQp xv_i res) args s 2 12 (fun _ => False)) (F0 m 25 ls []) := by
  have hW0 := hO.1
  have hts := xs_w (args := args) h0 hW0
  have hK := xs_K h0 hW0
  intro n
  induction n with
  | zero =>
    intro σ i kk x4 x5 x6 k e1 h2 h3
    exact absurd h2 (by omega)
  | succ n ih =>
    intro σ i kk x4 x5 x6 k e_x6 hkn hkF hi_i hi_kk hX ls hl res hR
    rw [L_LC_share] at hR
    refine lv_iload hx hb d_LC_share_25 (lv_at hl 4 rfl) ?_
    refine lv_sipush (v := 240) hx hb d_LC_share_27 (by decide) ?_
    refine lv_icmp_ge (tgt := 67) hx hb d_LC_share_30 (by decide) (fun c30 => ?_) (fun c30 => ?_)
    · rw [if_pos c30] at hR
      refine lv_iload hx hb d_LC_share_67 (lv_at hl 2 rfl) ?_
      refine lv_if_ne (tgt := 82) hx hb d_LC_share_69 (by decide) (fun c69 => ?_) (fun c69 => ?_)
      · rw [if_neg c69] at hR
        refine lv_sipush (v := 1000) hx hb d_LC_share_82 (by decide) ?_
        refine lv_iload hx hb d_LC_share_85 (lv_at hl 3 rfl) ?_
        refine lv_imul hx hb d_LC_share_87 ?_
        refine lv_iload hx hb d_LC_share_88 (lv_at hl 2 rfl) ?_
        refine lv_idiv hx hb d_LC_share_90 c69 ?_
        subst hR
        refine W.widen (k := 2) (n := 12) (by decide) (by decide) ?_; exact xr_i hx hb hr hlocks d_LC_share_91
      · rw [if_pos c69] at hR
        obtain ⟨qs, hqs⟩ := xs_str h0 hW0 (own := "LoadChecks") (k := 193) (tx := "nothing is needed") (by decide +kernel); subst hR; refine W.widen (k := 1) (n := 6) (by decide) (by decide) ?_; exact x_throw hx hb h0.1 hown hlocks hnt (hl.1.trans hml.symm) (hts _ w_524) (hts _ w_47) hqs (x_own hO rfl (oa_ARE h0)) (by decide +kernel) (by decide +kernel) d_LC_share_72 d_LC_share_75 d_LC_share_76 d_LC_share_78 d_LC_share_81 (Nat.le_of_ble_eq_true rfl) (Nat.le_of_ble_eq_true rfl) (Nat.le_of_ble_eq_true rfl) (Nat.le_of_ble_eq_true rfl) (fun x t h1 h2 => Or.inr ⟨_, x, rfl, rfl, h1, h2⟩)
    · rw [if_neg c30] at hR
      have hk : k < 240 := x_klt (b := 240) rfl (by decide) (by omega) e_x6 c30
      have hcx : vp_in x6 240 := o_nI e_x6 hk (by decide)
      refine lv_iload hx hb d_LC_share_33 (lv_at hl 2 rfl) ?_
      refine lv_aload_n hx hb d_LC_share_35 rfl (lv_at hl 1 rfl) ?_
      refine lv_iload hx hb d_LC_share_36 (lv_at hl 4 rfl) ?_
      refine xw_iald (r := 5) (i := kk) hx hb hK hX hi_kk 0 rfl rfl (j := x6) hcx d_LC_share_38 ?_
      refine lv_iadd hx hb d_LC_share_39 ?_
      refine lv_istore (lv' := [(4, .int (x4 + (σ.1 5 kk x6.toNatClampNeg))), (2, .ref (xB s0 + XA 9 i)), (3, .ref (xB s0 + XA 5 kk)), (5, .int x5), (6, .int x6)]) hx hb d_LC_share_40 hl (by decide) rfl (fun ls hl => ?_)
      refine lv_iload hx hb d_LC_share_42 (lv_at hl 3 rfl) ?_
      refine lv_aload_n hx hb d_LC_share_44 rfl (lv_at hl 1 rfl) ?_
      refine xw_getN (C := R_VE) (T := F_VE) (N := 13) (r := 9) (i := i) hx hb hts hi_VE hown hK hX hi_i rfl rfl 2 (by decide) (xs_N h0 hW0 m_87) rfl rfl d_LC_share_45 ?_
      refine lv_iload hx hb d_LC_share_48 (lv_at hl 4 rfl) ?_
      refine xw_iald (r := 12) (i := i) hx hb hK hX hi_i 0 rfl rfl (j := x6) hcx d_LC_share_50 ?_
      refine lv_aload_n hx hb d_LC_share_51 rfl (lv_at hl 2 rfl) ?_
      refine lv_iload hx hb d_LC_share_52 (lv_at hl 4 rfl) ?_
      refine xw_iald (r := 5) (i := kk) hx hb hK hX hi_kk 0 rfl rfl (j := x6) hcx d_LC_share_54 ?_
      refine va_mmin hx hb (hml.trans hl.1.symm) hown (hts _ w_428) (hts _ w_429) (hts _ w_46) (hts _ w_430) (Nat.le_of_ble_eq_true rfl) (Nat.le_of_ble_eq_true rfl) (Nat.le_of_ble_eq_true rfl) (Nat.le_of_ble_eq_true rfl) d_LC_share_55 ?_
      refine lv_iadd hx hb d_LC_share_58 ?_
      refine lv_istore (lv' := [(5, .int (x5 + (if (σ.1 5 kk x6.toNatClampNeg) < (σ.1 12 i x6.toNatClampNeg) then (σ.1 5 kk x6.toNatClampNeg) else (σ.1 12 i x6.toNatClampNeg)))), (4, .int (x4 + (σ.1 5 kk x6.toNatClampNeg))), (2, .ref (xB s0 + XA 9 i)), (3, .ref (xB s0 + XA 5 kk)), (6, .int x6)]) hx hb d_LC_share_59 hl (by decide) rfl (fun ls hl => ?_)
      refine lv_iinc (v := (x6 + 1)) (lv' := [(6, .int (x6 + 1)), (5, .int (x5 + (if (σ.1 5 kk x6.toNatClampNeg) < (σ.1 12 i x6.toNatClampNeg) then (σ.1 5 kk x6.toNatClampNeg) else (σ.1 12 i x6.toNatClampNeg)))), (4, .int (x4 + (σ.1 5 kk x6.toNatClampNeg))), (2, .ref (xB s0 + XA 9 i)), (3, .ref (xB s0 + XA 5 kk))]) hx hb d_LC_share_61 hl (k := 4) rfl rfl (by decide) rfl (fun ls hl => ?_)
      refine lv_goto (tgt := 25) hx hb d_LC_share_64 (by decide) ?_
      exact ih σ i kk (x4 + (σ.1 5 kk x6.toNatClampNeg)) (x5 + (if (σ.1 5 kk x6.toNatClampNeg) < (σ.1 12 i x6.toNatClampNeg) then (σ.1 5 kk x6.toNatClampNeg) else (σ.1 12 i x6.toNatClampNeg))) (x6 + 1) (k + 1) (by rw [e_x6]; exact nI_1 k) (by omega) (by omega) hi_i hi_kk  hX ls (lv_sub hl [3, 4, 2, 1, 0] rfl) res hR
set_option maxHeartbeats 4000000 in
set_option maxRecDepth 100000 in
theorem c_LC_share {l : Launch} {s0 : State} {A0 : Array Value} {D : va_G} {dA : Nat → ClassId} (h0 : XS0 l s0 A0 D dA) (σ : XS) (v : Int32) (hok : XOk σ) : XMet l y_LC_share [cw_LC_share] rm_LC_share (XP D dA s0 σ [.ref (xB s0 + XA 0 0), .int v]) (XQp xv_i (S_LC_share σ v)) 2 12 (fun _ => False) := by
  refine XMet.ofW (cc := b_LC_share) (maxL := 7) (ret := (some .int)) (by decide) rfl ?_
  intro p e s m args below meth c s₁ Bd hml hv
  obtain ⟨rfl, hX, hO⟩ := hv
  have hx := Bd.exec
  have hb := Bd.bytes
  have hr := Bd.returns
  have hown : s.vm.findClass "LoadChecks" = some m.cls := findClass_of_methodNamed Bd.named
  have hlocks := Bd.notSynchronized
  have hnt : c.exceptionTable.isEmpty = true := Bd.noHandlers (atoms_spec (ws := [cw_LC_share]) Bd.pre _ List.mem_cons_self)
  have hW0 := hO.1
  have hts := xs_w (args := ([.ref (xB s0 + XA 0 0), .int v] : List Value).toArray) h0 hW0
  have hK := xs_K h0 hW0
  have hl := lv_entry ([.ref (xB s0 + XA 0 0), .int v]) (n := 7) (Nat.le_of_ble_eq_true rfl)
  rw [lg_entry_eq]
  generalize (lg_sl ([.ref (xB s0 + XA 0 0), .int v]) ++ List.replicate (7 - (lg_sl ([.ref (xB s0 + XA 0 0), .int v])).length) Slot.unset).toArray = ls at hl ⊢
  have hl : lv_has ls 7 [(0, .ref (xB s0 + XA 0 0)), (1, .int v)] := hl
  generalize hR : S_LC_share σ v = res
  unfold S_LC_share at hR
  refine lv_aload_n hx hb d_LC_share_0 rfl (lv_at hl 0 rfl) ?_
  refine lv_iload_n hx hb d_LC_share_1 rfl (lv_at hl 1 rfl) ?_
  obtain ⟨cB2, hcB2, hoB2, hkB2⟩ := xw_recv (r := 0) (i := 0) hK hX (by decide) rfl rfl
  refine xc_p (rest := []) (x_invV (argsL := [.int v]) hx hb hown (hts _ w_290) (hts _ w_292) (hts _ w_1) (x_code (hts _ w_293)) ⟨by decide, by decide⟩ hcB2 hoB2 hkB2 rfl rfl rfl d_LC_share_2) (c_LC_knownVehicle h0 σ v hok) (xs_cw h0 hW0 m_293) (hts _ w_34) ⟨rfl, rfl, Nat.le_of_ble_eq_true rfl, Nat.le_of_ble_eq_true rfl⟩ (hl.1.trans hml.symm) (by rw [hb]; exact d_LC_share_2) (Nat.le_of_ble_eq_true rfl) ⟨Nat.le_of_ble_eq_true rfl, Nat.le_of_ble_eq_true rfl⟩ hX hO (fun v2 hM2 => ?_) (fun E2 x2 H2 hM2 hE2 he2 => ?_)
  · rw [hM2] at hR
    dsimp only [xbp] at hR
    have f2 := f_known hok hM2
    refine lv_astore_n (lv' := [(2, .ref (xB s0 + XA 9 v2)), (0, .ref (xB s0 + XA 0 0)), (1, .int v)]) hx hb d_LC_share_5 rfl hl (by decide) rfl (fun ls hl => ?_)
    refine lv_aload_n hx hb d_LC_share_6 rfl (lv_at hl 1 rfl) ?_
    refine xw_get (C := R_LC) (T := F_LC) (N := 9) (r := 0) (i := 0) hx hb hts hi_LC hown hK hX (by decide) rfl rfl 3 (by decide) (hts _ w_136) rfl rfl d_LC_share_7 ?_
    refine lv_aload_n hx hb d_LC_share_10 rfl (lv_at hl 0 rfl) ?_
    refine xw_getN (C := R_VE) (T := F_VE) (N := 13) (r := 9) (i := v2) hx hb hts hi_VE hown hK hX f2 rfl rfl 5 (by decide) (xs_N h0 hW0 m_92) rfl rfl d_LC_share_11 ?_
    refine xw_aald (r := 4) (i := 0) hx hb hK hX (by decide) 3 rfl rfl rfl (j := (σ.1 9 v2 5)) (hok.2.1 _ f2) rfl d_LC_share_14 ?_
    refine lv_astore_n (lv' := [(3, .ref (xB s0 + XA 5 ((σ.1 9 v2 5).toNatClampNeg))), (2, .ref (xB s0 + XA 9 v2)), (0, .ref (xB s0 + XA 0 0)), (1, .int v)]) hx hb d_LC_share_15 rfl hl (by decide) rfl (fun ls hl => ?_)
    refine lv_iconst (v := 0) hx hb d_LC_share_16 (by decide) ?_
    refine lv_istore (lv' := [(4, .int (0 : Int32)), (3, .ref (xB s0 + XA 5 ((σ.1 9 v2 5).toNatClampNeg))), (2, .ref (xB s0 + XA 9 v2)), (0, .ref (xB s0 + XA 0 0)), (1, .int v)]) hx hb d_LC_share_17 hl (by decide) rfl (fun ls hl => ?_)
    refine lv_iconst (v := 0) hx hb d_LC_share_19 (by decide) ?_
    refine lv_istore (lv' := [(5, .int (0 : Int32)), (4, .int (0 : Int32)), (3, .ref (xB s0 + XA 5 ((σ.1 9 v2 5).toNatClampNeg))), (2, .ref (xB s0 + XA 9 v2)), (0, .ref (xB s0 + XA 0 0)), (1, .int v)]) hx hb d_LC_share_20 hl (by decide) rfl (fun ls hl => ?_)
    refine lv_iconst (v := 0) hx hb d_LC_share_22 (by decide) ?_
    refine lv_istore (lv' := [(6, .int (0 : Int32)), (5, .int (0 : Int32)), (4, .int (0 : Int32)), (3, .ref (xB s0 + XA 5 ((σ.1 9 v2 5).toNatClampNeg))), (2, .ref (xB s0 + XA 9 v2)), (0, .ref (xB s0 + XA 0 0)), (1, .int v)]) hx hb d_LC_share_23 hl (by decide) rfl (fun ls hl => ?_)
    refine W.widen (k := 1) (n := 6) (by decide) (by decide) ?_; exact l_LC_share h0 hx hb hr hml hown hlocks hnt hO 241 σ v2 ((σ.1 9 v2 5).toNatClampNeg) (0 : Int32) (0 : Int32) (0 : Int32) 0 nI_0.symm rfl (by decide) f2 (vp_lt (hok.2.1 _ f2))  hX ls (lv_sub hl [4, 3, 2, 1, 0] rfl) res hR
  · rw [hM2] at hR
    dsimp only [xbp] at hR
    subst hR
    refine xt_wid (k := 2) (n := 12) (by decide) (by decide) ?_
    exact xt_p hlocks hnt hE2 he2

abbrev rm_LC_axle : Room := { frames := 7, cells := 2, slots := 12, locals := 103 }
def S_LC_axle (σ : XS) (v : Int32) (q : Int32) : Int64 ⊕ String := (xbp (S_LC_knownVehicle σ v) fun v2 => (if q < 0 then .inr "java/lang/IllegalArgumentException" else (if q < (4 : Int32) then (if (2 : Int32) ≤ q then (if (q - q / (2 : Int32) * (2 : Int32)) = 0 then .inl ((S_VE_rearMoment σ v2) / (S_LC_commonDivisor σ (S_VE_rearMoment σ v2) ((σ.1 9 v2 6).toInt64))) else .inl ((σ.1 9 v2 6).toInt64 / (S_LC_commonDivisor σ (S_VE_rearMoment σ v2) ((σ.1 9 v2 6).toInt64)))) else (if (q - q / (2 : Int32) * (2 : Int32)) = 0 then .inl ((S_VE_frontMoment σ v2) / (S_LC_commonDivisor σ (S_VE_frontMoment σ v2) ((σ.1 9 v2 6).toInt64))) else .inl ((σ.1 9 v2 6).toInt64 / (S_LC_commonDivisor σ (S_VE_frontMoment σ v2) ((σ.1 9 v2 6).toInt64))))) else .inr "java/lang/IllegalArgumentException")))
set_option maxHeartbeats 4000000 in
set_option maxRecDepth 100000 in
theorem c_LC_axle {l : Launch} {s0 : State} {A0 : Array Value} {D : va_G} {dA : Nat → ClassId} (h0 : XS0 l s0 A0 D dA) (σ : XS) (v : Int32) (q : Int32) (hok : XOk σ) : XMet l y_LC_axle [cw_LC_axle] rm_LC_axle (XP D dA s0 σ [.ref (xB s0 + XA 0 0), .int v, .int q]) (XQp xv_l (S_LC_axle σ v q)) 2 12 (fun _ => False) := by
  refine XMet.ofW (cc := b_LC_axle) (maxL := 10) (ret := (some .long)) (by decide) rfl ?_
  intro p e s m args below meth c s₁ Bd hml hv
  obtain ⟨rfl, hX, hO⟩ := hv
  have hx := Bd.exec
  have hb := Bd.bytes
  have hr := Bd.returns
  have hown : s.vm.findClass "LoadChecks" = some m.cls := findClass_of_methodNamed Bd.named
  have hlocks := Bd.notSynchronized
  have hnt : c.exceptionTable.isEmpty = true := Bd.noHandlers (atoms_spec (ws := [cw_LC_axle]) Bd.pre _ List.mem_cons_self)
  have hW0 := hO.1
  have hts := xs_w (args := ([.ref (xB s0 + XA 0 0), .int v, .int q] : List Value).toArray) h0 hW0
  have hK := xs_K h0 hW0
  have hl := lv_entry ([.ref (xB s0 + XA 0 0), .int v, .int q]) (n := 10) (Nat.le_of_ble_eq_true rfl)
  rw [lg_entry_eq]
  generalize (lg_sl ([.ref (xB s0 + XA 0 0), .int v, .int q]) ++ List.replicate (10 - (lg_sl ([.ref (xB s0 + XA 0 0), .int v, .int q])).length) Slot.unset).toArray = ls at hl ⊢
  have hl : lv_has ls 10 [(0, .ref (xB s0 + XA 0 0)), (1, .int v), (2, .int q)] := hl
  generalize hR : S_LC_axle σ v q = res
  unfold S_LC_axle at hR
  refine lv_aload_n hx hb d_LC_axle_0 rfl (lv_at hl 0 rfl) ?_
  refine lv_iload_n hx hb d_LC_axle_1 rfl (lv_at hl 1 rfl) ?_
  obtain ⟨cB2, hcB2, hoB2, hkB2⟩ := xw_recv (r := 0) (i := 0) hK hX (by decide) rfl rfl
  refine xc_p (rest := []) (x_invV (argsL := [.int v]) hx hb hown (hts _ w_290) (hts _ w_292) (hts _ w_1) (x_code (hts _ w_293)) ⟨by decide, by decide⟩ hcB2 hoB2 hkB2 rfl rfl rfl d_LC_axle_2) (c_LC_knownVehicle h0 σ v hok) (xs_cw h0 hW0 m_293) (hts _ w_34) ⟨rfl, rfl, Nat.le_of_ble_eq_true rfl, Nat.le_of_ble_eq_true rfl⟩ (hl.1.trans hml.symm) (by rw [hb]; exact d_LC_axle_2) (Nat.le_of_ble_eq_true rfl) ⟨Nat.le_of_ble_eq_true rfl, Nat.le_of_ble_eq_true rfl⟩ hX hO (fun v2 hM2 => ?_) (fun E2 x2 H2 hM2 hE2 he2 => ?_)
  · rw [hM2] at hR
    dsimp only [xbp] at hR
    have f2 := f_known hok hM2
    refine lv_astore_n (lv' := [(3, .ref (xB s0 + XA 9 v2)), (0, .ref (xB s0 + XA 0 0)), (1, .int v), (2, .int q)]) hx hb d_LC_axle_5 rfl hl (by decide) rfl (fun ls hl => ?_)
    refine lv_iload_n hx hb d_LC_axle_6 rfl (lv_at hl 3 rfl) ?_
    refine lv_if_lt (tgt := 15) hx hb d_LC_axle_7 (by decide) (fun c7 => ?_) (fun c7 => ?_)
    · rw [if_pos c7] at hR
      obtain ⟨qs, hqs⟩ := xs_str h0 hW0 (own := "LoadChecks") (k := 196) (tx := "no such number of an axle") (by decide +kernel); subst hR; refine W.widen (k := 1) (n := 6) (by decide) (by decide) ?_; exact x_throw hx hb h0.1 hown hlocks hnt (hl.1.trans hml.symm) (hts _ w_174) (hts _ w_42) hqs (x_own hO rfl (oa_IAE h0)) (by decide +kernel) (by decide +kernel) d_LC_axle_15 d_LC_axle_18 d_LC_axle_19 d_LC_axle_21 d_LC_axle_24 (Nat.le_of_ble_eq_true rfl) (Nat.le_of_ble_eq_true rfl) (Nat.le_of_ble_eq_true rfl) (Nat.le_of_ble_eq_true rfl) (fun x t h1 h2 => Or.inr ⟨_, x, rfl, rfl, h1, h2⟩)
    · rw [if_neg c7] at hR
      refine lv_iload_n hx hb d_LC_axle_10 rfl (lv_at hl 3 rfl) ?_
      refine lv_iconst (v := 4) hx hb d_LC_axle_11 (by decide) ?_
      refine lv_icmp_lt (tgt := 25) hx hb d_LC_axle_12 (by decide) (fun c12 => ?_) (fun c12 => ?_)
      · rw [if_pos c12] at hR
        refine lv_iload_n hx hb d_LC_axle_25 rfl (lv_at hl 3 rfl) ?_
        refine lv_iconst (v := 2) hx hb d_LC_axle_26 (by decide) ?_
        refine lv_icmp_ge (tgt := 37) hx hb d_LC_axle_27 (by decide) (fun c27 => ?_) (fun c27 => ?_)
        · rw [if_pos c27] at hR
          refine lv_aload_n hx hb d_LC_axle_37 rfl (lv_at hl 0 rfl) ?_
          obtain ⟨cB38, hcB38, hoB38, hkB38⟩ := xw_recv (r := 9) (i := v2) hK hX f2 rfl rfl
          refine xc_f (rest := []) (x_invVN (argsL := []) hx hb hown (xs_M h0 hW0 m_549) (hts _ w_392) (hts _ w_9) (x_code (hts _ w_393)) ⟨by decide, by decide⟩ hcB38 hoB38 hkB38 rfl rfl rfl d_LC_axle_38) (c_VE_rearMoment h0 σ v2 f2) (xs_cw h0 hW0 m_393) (hts _ w_36) ⟨rfl, rfl, Nat.le_of_ble_eq_true rfl, Nat.le_of_ble_eq_true rfl⟩ (hl.1.trans hml.symm) (by rw [hb]; exact d_LC_axle_38) (Nat.le_of_ble_eq_true rfl) ⟨Nat.le_of_ble_eq_true rfl, Nat.le_of_ble_eq_true rfl⟩ hX hO ?_
          refine lv_lstore (lv' := [(4, .long (S_VE_rearMoment σ v2)), (3, .ref (xB s0 + XA 9 v2)), (0, .ref (xB s0 + XA 0 0)), (1, .int v), (2, .int q)]) hx hb d_LC_axle_41 hl (by decide) rfl (fun ls hl => ?_)
          refine lv_aload_n hx hb d_LC_axle_43 rfl (lv_at hl 1 rfl) ?_
          refine xw_getN (C := R_VE) (T := F_VE) (N := 13) (r := 9) (i := v2) hx hb hts hi_VE hown hK hX f2 rfl rfl 6 (by decide) (xs_N h0 hW0 m_94) rfl rfl d_LC_axle_44 ?_
          refine lv_i2l hx hb d_LC_axle_47 rfl ?_
          refine lv_lstore (lv' := [(6, .long ((σ.1 9 v2 6).toInt64)), (4, .long (S_VE_rearMoment σ v2)), (3, .ref (xB s0 + XA 9 v2)), (0, .ref (xB s0 + XA 0 0)), (1, .int v), (2, .int q)]) hx hb d_LC_axle_48 hl (by decide) rfl (fun ls hl => ?_)
          refine lv_lload hx hb d_LC_axle_50 (lv_at hl 1 rfl) ?_
          refine lv_lload hx hb d_LC_axle_52 (lv_at hl 0 rfl) ?_
          refine xc_f (rest := []) (x_invS (argsL := [.long (S_VE_rearMoment σ v2), .long ((σ.1 9 v2 6).toInt64)]) hx hb hown (hts _ w_550) (hts _ w_551) (hts _ w_34) (x_code (hts _ w_552)) ⟨by decide, by decide⟩ rfl rfl rfl d_LC_axle_54) (c_LC_commonDivisor h0 σ (S_VE_rearMoment σ v2) ((σ.1 9 v2 6).toInt64)) (xs_cw h0 hW0 m_552) (hts _ w_34) ⟨rfl, rfl, Nat.le_of_ble_eq_true rfl, Nat.le_of_ble_eq_true rfl⟩ (hl.1.trans hml.symm) (by rw [hb]; exact d_LC_axle_54) (Nat.le_of_ble_eq_true rfl) ⟨Nat.le_of_ble_eq_true rfl, Nat.le_of_ble_eq_true rfl⟩ hX hO ?_
          refine lv_lstore (lv' := [(8, .long (S_LC_commonDivisor σ (S_VE_rearMoment σ v2) ((σ.1 9 v2 6).toInt64))), (6, .long ((σ.1 9 v2 6).toInt64)), (4, .long (S_VE_rearMoment σ v2)), (3, .ref (xB s0 + XA 9 v2)), (0, .ref (xB s0 + XA 0 0)), (1, .int v), (2, .int q)]) hx hb d_LC_axle_57 hl (by decide) rfl (fun ls hl => ?_)
          refine lv_iload_n hx hb d_LC_axle_59 rfl (lv_at hl 6 rfl) ?_
          refine lv_iconst (v := 2) hx hb d_LC_axle_60 (by decide) ?_
          refine lv_irem hx hb d_LC_axle_61 (by decide) ?_
          refine lv_if_ne (tgt := 70) hx hb d_LC_axle_62 (by decide) (fun c62 => ?_) (fun c62 => ?_)
          · rw [if_neg c62] at hR
            refine lv_lload hx hb d_LC_axle_70 (lv_at hl 1 rfl) ?_
            refine lv_lload hx hb d_LC_axle_72 (lv_at hl 0 rfl) ?_
            refine lv_ldiv hx hb d_LC_axle_74 o_gcd ?_
            subst hR
            refine W.widen (k := 2) (n := 12) (by decide) (by decide) ?_; exact xr_l hx hb hr hlocks d_LC_axle_75
          · rw [if_pos c62] at hR
            refine lv_lload hx hb d_LC_axle_65 (lv_at hl 2 rfl) ?_
            refine lv_goto (tgt := 72) hx hb d_LC_axle_67 (by decide) ?_
            refine lv_lload hx hb d_LC_axle_72 (lv_at hl 0 rfl) ?_
            refine lv_ldiv hx hb d_LC_axle_74 o_gcd ?_
            subst hR
            refine W.widen (k := 2) (n := 12) (by decide) (by decide) ?_; exact xr_l hx hb hr hlocks d_LC_axle_75
        · rw [if_neg c27] at hR
          refine lv_aload_n hx hb d_LC_axle_30 rfl (lv_at hl 0 rfl) ?_
          obtain ⟨cB31, hcB31, hoB31, hkB31⟩ := xw_recv (r := 9) (i := v2) hK hX f2 rfl rfl
          refine xc_f (rest := []) (x_invVN (argsL := []) hx hb hown (xs_M h0 hW0 m_548) (hts _ w_384) (hts _ w_7) (x_code (hts _ w_385)) ⟨by decide, by decide⟩ hcB31 hoB31 hkB31 rfl rfl rfl d_LC_axle_31) (c_VE_frontMoment h0 σ v2 f2) (xs_cw h0 hW0 m_385) (hts _ w_36) ⟨rfl, rfl, Nat.le_of_ble_eq_true rfl, Nat.le_of_ble_eq_true rfl⟩ (hl.1.trans hml.symm) (by rw [hb]; exact d_LC_axle_31) (Nat.le_of_ble_eq_true rfl) ⟨Nat.le_of_ble_eq_true rfl, Nat.le_of_ble_eq_true rfl⟩ hX hO ?_
          refine lv_goto (tgt := 41) hx hb d_LC_axle_34 (by decide) ?_
          refine lv_lstore (lv' := [(4, .long (S_VE_frontMoment σ v2)), (3, .ref (xB s0 + XA 9 v2)), (0, .ref (xB s0 + XA 0 0)), (1, .int v), (2, .int q)]) hx hb d_LC_axle_41 hl (by decide) rfl (fun ls hl => ?_)
          refine lv_aload_n hx hb d_LC_axle_43 rfl (lv_at hl 1 rfl) ?_
          refine xw_getN (C := R_VE) (T := F_VE) (N := 13) (r := 9) (i := v2) hx hb hts hi_VE hown hK hX f2 rfl rfl 6 (by decide) (xs_N h0 hW0 m_94) rfl rfl d_LC_axle_44 ?_
          refine lv_i2l hx hb d_LC_axle_47 rfl ?_
          refine lv_lstore (lv' := [(6, .long ((σ.1 9 v2 6).toInt64)), (4, .long (S_VE_frontMoment σ v2)), (3, .ref (xB s0 + XA 9 v2)), (0, .ref (xB s0 + XA 0 0)), (1, .int v), (2, .int q)]) hx hb d_LC_axle_48 hl (by decide) rfl (fun ls hl => ?_)
          refine lv_lload hx hb d_LC_axle_50 (lv_at hl 1 rfl) ?_
          refine lv_lload hx hb d_LC_axle_52 (lv_at hl 0 rfl) ?_
          refine xc_f (rest := []) (x_invS (argsL := [.long (S_VE_frontMoment σ v2), .long ((σ.1 9 v2 6).toInt64)]) hx hb hown (hts _ w_550) (hts _ w_551) (hts _ w_34) (x_code (hts _ w_552)) ⟨by decide, by decide⟩ rfl rfl rfl d_LC_axle_54) (c_LC_commonDivisor h0 σ (S_VE_frontMoment σ v2) ((σ.1 9 v2 6).toInt64)) (xs_cw h0 hW0 m_552) (hts _ w_34) ⟨rfl, rfl, Nat.le_of_ble_eq_true rfl, Nat.le_of_ble_eq_true rfl⟩ (hl.1.trans hml.symm) (by rw [hb]; exact d_LC_axle_54) (Nat.le_of_ble_eq_true rfl) ⟨Nat.le_of_ble_eq_true rfl, Nat.le_of_ble_eq_true rfl⟩ hX hO ?_
          refine lv_lstore (lv' := [(8, .long (S_LC_commonDivisor σ (S_VE_frontMoment σ v2) ((σ.1 9 v2 6).toInt64))), (6, .long ((σ.1 9 v2 6).toInt64)), (4, .long (S_VE_frontMoment σ v2)), (3, .ref (xB s0 + XA 9 v2)), (0, .ref (xB s0 + XA 0 0)), (1, .int v), (2, .int q)]) hx hb d_LC_axle_57 hl (by decide) rfl (fun ls hl => ?_)
          refine lv_iload_n hx hb d_LC_axle_59 rfl (lv_at hl 6 rfl) ?_
          refine lv_iconst (v := 2) hx hb d_LC_axle_60 (by decide) ?_
          refine lv_irem hx hb d_LC_axle_61 (by decide) ?_
          refine lv_if_ne (tgt := 70) hx hb d_LC_axle_62 (by decide) (fun c62 => ?_) (fun c62 => ?_)
          · rw [if_neg c62] at hR
            refine lv_lload hx hb d_LC_axle_70 (lv_at hl 1 rfl) ?_
            refine lv_lload hx hb d_LC_axle_72 (lv_at hl 0 rfl) ?_
            refine lv_ldiv hx hb d_LC_axle_74 o_gcd ?_
            subst hR
            refine W.widen (k := 2) (n := 12) (by decide) (by decide) ?_; exact xr_l hx hb hr hlocks d_LC_axle_75
          · rw [if_pos c62] at hR
            refine lv_lload hx hb d_LC_axle_65 (lv_at hl 2 rfl) ?_
            refine lv_goto (tgt := 72) hx hb d_LC_axle_67 (by decide) ?_
            refine lv_lload hx hb d_LC_axle_72 (lv_at hl 0 rfl) ?_
            refine lv_ldiv hx hb d_LC_axle_74 o_gcd ?_
            subst hR
            refine W.widen (k := 2) (n := 12) (by decide) (by decide) ?_; exact xr_l hx hb hr hlocks d_LC_axle_75
      · rw [if_neg c12] at hR
        obtain ⟨qs, hqs⟩ := xs_str h0 hW0 (own := "LoadChecks") (k := 196) (tx := "no such number of an axle") (by decide +kernel); subst hR; refine W.widen (k := 1) (n := 6) (by decide) (by decide) ?_; exact x_throw hx hb h0.1 hown hlocks hnt (hl.1.trans hml.symm) (hts _ w_174) (hts _ w_42) hqs (x_own hO rfl (oa_IAE h0)) (by decide +kernel) (by decide +kernel) d_LC_axle_15 d_LC_axle_18 d_LC_axle_19 d_LC_axle_21 d_LC_axle_24 (Nat.le_of_ble_eq_true rfl) (Nat.le_of_ble_eq_true rfl) (Nat.le_of_ble_eq_true rfl) (Nat.le_of_ble_eq_true rfl) (fun x t h1 h2 => Or.inr ⟨_, x, rfl, rfl, h1, h2⟩)
  · rw [hM2] at hR
    dsimp only [xbp] at hR
    subst hR
    refine xt_wid (k := 2) (n := 12) (by decide) (by decide) ?_
    exact xt_p hlocks hnt hE2 he2

abbrev rm_LC_row : Room := { frames := 6, cells := 1, slots := 6, locals := 82 }
def S_LC_row (σ : XS) (a : Int32) (b : Int32) : Int32 ⊕ String := (if (S_RW_keeps σ a) = 0 then .inr "java/lang/IllegalArgumentException" else (if b < 0 then .inr "java/lang/IllegalArgumentException" else (if b < (3 : Int32) then .inl (S_RW_number σ a b) else .inr "java/lang/IllegalArgumentException")))
set_option maxHeartbeats 4000000 in
set_option maxRecDepth 100000 in
theorem c_LC_row {l : Launch} {s0 : State} {A0 : Array Value} {D : va_G} {dA : Nat → ClassId} (h0 : XS0 l s0 A0 D dA) (σ : XS) (a : Int32) (b : Int32)  : XMet l y_LC_row [cw_LC_row] rm_LC_row (XP D dA s0 σ [.ref (xB s0 + XA 0 0), .int a, .int b]) (XQp xv_i (S_LC_row σ a b)) 1 6 (fun _ => False) := by
  refine XMet.ofW (cc := b_LC_row) (maxL := 3) (ret := (some .int)) (by decide) rfl ?_
  intro p e s m args below meth c s₁ Bd hml hv
  obtain ⟨rfl, hX, hO⟩ := hv
  have hx := Bd.exec
  have hb := Bd.bytes
  have hr := Bd.returns
  have hown : s.vm.findClass "LoadChecks" = some m.cls := findClass_of_methodNamed Bd.named
  have hlocks := Bd.notSynchronized
  have hnt : c.exceptionTable.isEmpty = true := Bd.noHandlers (atoms_spec (ws := [cw_LC_row]) Bd.pre _ List.mem_cons_self)
  have hW0 := hO.1
  have hts := xs_w (args := ([.ref (xB s0 + XA 0 0), .int a, .int b] : List Value).toArray) h0 hW0
  have hK := xs_K h0 hW0
  have hl := lv_entry ([.ref (xB s0 + XA 0 0), .int a, .int b]) (n := 3) (Nat.le_of_ble_eq_true rfl)
  rw [lg_entry_eq]
  generalize (lg_sl ([.ref (xB s0 + XA 0 0), .int a, .int b]) ++ List.replicate (3 - (lg_sl ([.ref (xB s0 + XA 0 0), .int a, .int b])).length) Slot.unset).toArray = ls at hl ⊢
  have hl : lv_has ls 3 [(0, .ref (xB s0 + XA 0 0)), (1, .int a), (2, .int b)] := hl
  generalize hR : S_LC_row σ a b = res
  unfold S_LC_row at hR
  refine lv_aload_n hx hb d_LC_row_0 rfl (lv_at hl 0 rfl) ?_
  refine xw_get (C := R_LC) (T := F_LC) (N := 9) (r := 0) (i := 0) hx hb hts hi_LC hown hK hX (by decide) rfl rfl 5 (by decide) (hts _ w_138) rfl rfl d_LC_row_1 ?_
  refine lv_iload_n hx hb d_LC_row_4 rfl (lv_at hl 1 rfl) ?_
  obtain ⟨cB5, hcB5, hoB5, hkB5⟩ := xw_recv (r := 7) (i := 0) hK hX (by decide) rfl rfl
  refine xc_f (rest := []) (x_invVN (argsL := [.int a]) hx hb hown (xs_M h0 hW0 m_566) (hts _ w_568) (hts _ w_18) (x_code (hts _ w_569)) ⟨by decide, by decide⟩ hcB5 hoB5 hkB5 rfl rfl rfl d_LC_row_5) (c_RW_keeps h0 σ a) (xs_cw h0 hW0 m_569) (hts _ w_35) ⟨rfl, rfl, Nat.le_of_ble_eq_true rfl, Nat.le_of_ble_eq_true rfl⟩ (hl.1.trans hml.symm) (by rw [hb]; exact d_LC_row_5) (Nat.le_of_ble_eq_true rfl) ⟨Nat.le_of_ble_eq_true rfl, Nat.le_of_ble_eq_true rfl⟩ hX hO ?_
  refine lv_if_eq (tgt := 20) hx hb d_LC_row_8 (by decide) (fun c8 => ?_) (fun c8 => ?_)
  · rw [if_pos c8] at hR
    obtain ⟨qs, hqs⟩ := xs_str h0 hW0 (own := "LoadChecks") (k := 212) (tx := "no such row or number of it") (by decide +kernel); subst hR; refine W.widen (k := 0) (n := 0) (by decide) (by decide) ?_; exact x_throw hx hb h0.1 hown hlocks hnt (hl.1.trans hml.symm) (hts _ w_174) (hts _ w_42) hqs (x_own hO rfl (oa_IAE h0)) (by decide +kernel) (by decide +kernel) d_LC_row_20 d_LC_row_23 d_LC_row_24 d_LC_row_26 d_LC_row_29 (Nat.le_of_ble_eq_true rfl) (Nat.le_of_ble_eq_true rfl) (Nat.le_of_ble_eq_true rfl) (Nat.le_of_ble_eq_true rfl) (fun x t h1 h2 => Or.inr ⟨_, x, rfl, rfl, h1, h2⟩)
  · rw [if_neg c8] at hR
    refine lv_iload_n hx hb d_LC_row_11 rfl (lv_at hl 2 rfl) ?_
    refine lv_if_lt (tgt := 20) hx hb d_LC_row_12 (by decide) (fun c12 => ?_) (fun c12 => ?_)
    · rw [if_pos c12] at hR
      obtain ⟨qs, hqs⟩ := xs_str h0 hW0 (own := "LoadChecks") (k := 212) (tx := "no such row or number of it") (by decide +kernel); subst hR; refine W.widen (k := 0) (n := 0) (by decide) (by decide) ?_; exact x_throw hx hb h0.1 hown hlocks hnt (hl.1.trans hml.symm) (hts _ w_174) (hts _ w_42) hqs (x_own hO rfl (oa_IAE h0)) (by decide +kernel) (by decide +kernel) d_LC_row_20 d_LC_row_23 d_LC_row_24 d_LC_row_26 d_LC_row_29 (Nat.le_of_ble_eq_true rfl) (Nat.le_of_ble_eq_true rfl) (Nat.le_of_ble_eq_true rfl) (Nat.le_of_ble_eq_true rfl) (fun x t h1 h2 => Or.inr ⟨_, x, rfl, rfl, h1, h2⟩)
    · rw [if_neg c12] at hR
      refine lv_iload_n hx hb d_LC_row_15 rfl (lv_at hl 2 rfl) ?_
      refine lv_iconst (v := 3) hx hb d_LC_row_16 (by decide) ?_
      refine lv_icmp_lt (tgt := 30) hx hb d_LC_row_17 (by decide) (fun c17 => ?_) (fun c17 => ?_)
      · rw [if_pos c17] at hR
        refine lv_aload_n hx hb d_LC_row_30 rfl (lv_at hl 0 rfl) ?_
        refine xw_get (C := R_LC) (T := F_LC) (N := 9) (r := 0) (i := 0) hx hb hts hi_LC hown hK hX (by decide) rfl rfl 5 (by decide) (hts _ w_138) rfl rfl d_LC_row_31 ?_
        refine lv_iload_n hx hb d_LC_row_34 rfl (lv_at hl 1 rfl) ?_
        refine lv_iload_n hx hb d_LC_row_35 rfl (lv_at hl 2 rfl) ?_
        obtain ⟨cB36, hcB36, hoB36, hkB36⟩ := xw_recv (r := 7) (i := 0) hK hX (by decide) rfl rfl
        refine xc_f (rest := []) (x_invVN (argsL := [.int a, .int b]) hx hb hown (xs_M h0 hW0 m_571) (hts _ w_573) (hts _ w_19) (x_code (hts _ w_574)) ⟨by decide, by decide⟩ hcB36 hoB36 hkB36 rfl rfl rfl d_LC_row_36) (c_RW_number h0 σ a b (o_num c8 c12 c17)) (xs_cw h0 hW0 m_574) (hts _ w_35) ⟨rfl, rfl, Nat.le_of_ble_eq_true rfl, Nat.le_of_ble_eq_true rfl⟩ (hl.1.trans hml.symm) (by rw [hb]; exact d_LC_row_36) (Nat.le_of_ble_eq_true rfl) ⟨Nat.le_of_ble_eq_true rfl, Nat.le_of_ble_eq_true rfl⟩ hX hO ?_
        subst hR
        refine W.widen (k := 1) (n := 6) (by decide) (by decide) ?_; exact xr_i hx hb hr hlocks d_LC_row_39
      · rw [if_neg c17] at hR
        obtain ⟨qs, hqs⟩ := xs_str h0 hW0 (own := "LoadChecks") (k := 212) (tx := "no such row or number of it") (by decide +kernel); subst hR; refine W.widen (k := 0) (n := 0) (by decide) (by decide) ?_; exact x_throw hx hb h0.1 hown hlocks hnt (hl.1.trans hml.symm) (hts _ w_174) (hts _ w_42) hqs (x_own hO rfl (oa_IAE h0)) (by decide +kernel) (by decide +kernel) d_LC_row_20 d_LC_row_23 d_LC_row_24 d_LC_row_26 d_LC_row_29 (Nat.le_of_ble_eq_true rfl) (Nat.le_of_ble_eq_true rfl) (Nat.le_of_ble_eq_true rfl) (Nat.le_of_ble_eq_true rfl) (fun x t h1 h2 => Or.inr ⟨_, x, rfl, rfl, h1, h2⟩)

abbrev rm_LC_has : Room := { frames := 7, cells := 3, slots := 18, locals := 103 }
def S_LC_has (σ : XS) (v : Int32) (cup : Int32) (it : Int32) : Int32 ⊕ String := (xbp (S_LC_knownVehicle σ v) fun v2 => (xbp (S_LC_requireCupboard σ cup) fun _ => (xbp (S_LC_requireItem σ it) fun _ => .inl (σ.1 12 v2 (S_LC_cellOf σ cup it).toNatClampNeg))))
set_option maxHeartbeats 4000000 in
set_option maxRecDepth 100000 in
theorem c_LC_has {l : Launch} {s0 : State} {A0 : Array Value} {D : va_G} {dA : Nat → ClassId} (h0 : XS0 l s0 A0 D dA) (σ : XS) (v : Int32) (cup : Int32) (it : Int32) (hok : XOk σ) : XMet l y_LC_has [cw_LC_has] rm_LC_has (XP D dA s0 σ [.ref (xB s0 + XA 0 0), .int v, .int cup, .int it]) (XQp xv_i (S_LC_has σ v cup it)) 3 18 (fun _ => False) := by
  refine XMet.ofW (cc := b_LC_has) (maxL := 5) (ret := (some .int)) (by decide) rfl ?_
  intro p e s m args below meth c s₁ Bd hml hv
  obtain ⟨rfl, hX, hO⟩ := hv
  have hx := Bd.exec
  have hb := Bd.bytes
  have hr := Bd.returns
  have hown : s.vm.findClass "LoadChecks" = some m.cls := findClass_of_methodNamed Bd.named
  have hlocks := Bd.notSynchronized
  have hnt : c.exceptionTable.isEmpty = true := Bd.noHandlers (atoms_spec (ws := [cw_LC_has]) Bd.pre _ List.mem_cons_self)
  have hW0 := hO.1
  have hts := xs_w (args := ([.ref (xB s0 + XA 0 0), .int v, .int cup, .int it] : List Value).toArray) h0 hW0
  have hK := xs_K h0 hW0
  have hl := lv_entry ([.ref (xB s0 + XA 0 0), .int v, .int cup, .int it]) (n := 5) (Nat.le_of_ble_eq_true rfl)
  rw [lg_entry_eq]
  generalize (lg_sl ([.ref (xB s0 + XA 0 0), .int v, .int cup, .int it]) ++ List.replicate (5 - (lg_sl ([.ref (xB s0 + XA 0 0), .int v, .int cup, .int it])).length) Slot.unset).toArray = ls at hl ⊢
  have hl : lv_has ls 5 [(0, .ref (xB s0 + XA 0 0)), (1, .int v), (2, .int cup), (3, .int it)] := hl
  generalize hR : S_LC_has σ v cup it = res
  unfold S_LC_has at hR
  refine lv_aload_n hx hb d_LC_has_0 rfl (lv_at hl 0 rfl) ?_
  refine lv_iload_n hx hb d_LC_has_1 rfl (lv_at hl 1 rfl) ?_
  obtain ⟨cB2, hcB2, hoB2, hkB2⟩ := xw_recv (r := 0) (i := 0) hK hX (by decide) rfl rfl
  refine xc_p (rest := []) (x_invV (argsL := [.int v]) hx hb hown (hts _ w_290) (hts _ w_292) (hts _ w_1) (x_code (hts _ w_293)) ⟨by decide, by decide⟩ hcB2 hoB2 hkB2 rfl rfl rfl d_LC_has_2) (c_LC_knownVehicle h0 σ v hok) (xs_cw h0 hW0 m_293) (hts _ w_34) ⟨rfl, rfl, Nat.le_of_ble_eq_true rfl, Nat.le_of_ble_eq_true rfl⟩ (hl.1.trans hml.symm) (by rw [hb]; exact d_LC_has_2) (Nat.le_of_ble_eq_true rfl) ⟨Nat.le_of_ble_eq_true rfl, Nat.le_of_ble_eq_true rfl⟩ hX hO (fun v2 hM2 => ?_) (fun E2 x2 H2 hM2 hE2 he2 => ?_)
  · rw [hM2] at hR
    dsimp only [xbp] at hR
    have f2 := f_known hok hM2
    refine lv_astore (lv' := [(4, .ref (xB s0 + XA 9 v2)), (0, .ref (xB s0 + XA 0 0)), (1, .int v), (2, .int cup), (3, .int it)]) hx hb d_LC_has_5 hl (by decide) rfl (fun ls hl => ?_)
    refine lv_iload_n hx hb d_LC_has_7 rfl (lv_at hl 3 rfl) ?_
    refine xc_p (rest := []) (x_invS (argsL := [.int cup]) hx hb hown (hts _ w_303) (hts _ w_304) (hts _ w_34) (x_code (hts _ w_305)) ⟨by decide, by decide⟩ rfl rfl rfl d_LC_has_8) (c_LC_requireCupboard h0 σ cup) (xs_cw h0 hW0 m_305) (hts _ w_34) ⟨rfl, rfl, Nat.le_of_ble_eq_true rfl, Nat.le_of_ble_eq_true rfl⟩ (hl.1.trans hml.symm) (by rw [hb]; exact d_LC_has_8) (Nat.le_of_ble_eq_true rfl) ⟨Nat.le_of_ble_eq_true rfl, Nat.le_of_ble_eq_true rfl⟩ hX hO (fun v8 hM8 => ?_) (fun E8 x8 H8 hM8 hE8 he8 => ?_)
    · rw [hM8] at hR
      dsimp only [xbp] at hR
      have f8 := f_cup hM8
      refine lv_iload_n hx hb d_LC_has_11 rfl (lv_at hl 4 rfl) ?_
      refine xc_p (rest := []) (x_invS (argsL := [.int it]) hx hb hown (hts _ w_337) (hts _ w_338) (hts _ w_34) (x_code (hts _ w_339)) ⟨by decide, by decide⟩ rfl rfl rfl d_LC_has_12) (c_LC_requireItem h0 σ it) (xs_cw h0 hW0 m_339) (hts _ w_34) ⟨rfl, rfl, Nat.le_of_ble_eq_true rfl, Nat.le_of_ble_eq_true rfl⟩ (hl.1.trans hml.symm) (by rw [hb]; exact d_LC_has_12) (Nat.le_of_ble_eq_true rfl) ⟨Nat.le_of_ble_eq_true rfl, Nat.le_of_ble_eq_true rfl⟩ hX hO (fun v12 hM12 => ?_) (fun E12 x12 H12 hM12 hE12 he12 => ?_)
      · rw [hM12] at hR
        dsimp only [xbp] at hR
        have f12 := f_item hM12
        refine lv_aload hx hb d_LC_has_15 (lv_at hl 0 rfl) ?_
        refine xw_getN (C := R_VE) (T := F_VE) (N := 13) (r := 9) (i := v2) hx hb hts hi_VE hown hK hX f2 rfl rfl 2 (by decide) (xs_N h0 hW0 m_87) rfl rfl d_LC_has_17 ?_
        refine lv_iload_n hx hb d_LC_has_20 rfl (lv_at hl 3 rfl) ?_
        refine lv_iload_n hx hb d_LC_has_21 rfl (lv_at hl 4 rfl) ?_
        refine xc_f (rest := [.ref (xB s0 + XA 12 v2)]) (x_invS (argsL := [.int cup, .int it]) hx hb hown (hts _ w_358) (hts _ w_312) (hts _ w_34) (x_code (hts _ w_313)) ⟨by decide, by decide⟩ rfl rfl rfl d_LC_has_22) (c_LC_cellOf h0 σ cup it) (xs_cw h0 hW0 m_313) (hts _ w_34) ⟨rfl, rfl, Nat.le_of_ble_eq_true rfl, Nat.le_of_ble_eq_true rfl⟩ (hl.1.trans hml.symm) (by rw [hb]; exact d_LC_has_22) (Nat.le_of_ble_eq_true rfl) ⟨Nat.le_of_ble_eq_true rfl, Nat.le_of_ble_eq_true rfl⟩ hX hO ?_
        refine xw_iald (r := 12) (i := v2) hx hb hK hX f2 0 rfl rfl (j := (S_LC_cellOf σ cup it)) (o_cell f8 f12) d_LC_has_25 ?_
        subst hR
        refine W.widen (k := 3) (n := 18) (by decide) (by decide) ?_; exact xr_i hx hb hr hlocks d_LC_has_26
      · rw [hM12] at hR
        dsimp only [xbp] at hR
        subst hR
        refine xt_wid (k := 3) (n := 18) (by decide) (by decide) ?_
        exact xt_p hlocks hnt hE12 he12
    · rw [hM8] at hR
      dsimp only [xbp] at hR
      subst hR
      refine xt_wid (k := 3) (n := 18) (by decide) (by decide) ?_
      exact xt_p hlocks hnt hE8 he8
  · rw [hM2] at hR
    dsimp only [xbp] at hR
    subst hR
    refine xt_wid (k := 3) (n := 18) (by decide) (by decide) ?_
    exact xt_p hlocks hnt hE2 he2

abbrev rm_LC_stocked : Room := { frames := 7, cells := 1, slots := 6, locals := 102 }
def S_LC_stocked (σ : XS) (it : Int32) : Int32 ⊕ String := (xbp (S_LC_requireItem σ it) fun _ => .inl (σ.1 3 0 it.toNatClampNeg))
set_option maxHeartbeats 4000000 in
set_option maxRecDepth 100000 in
theorem c_LC_stocked {l : Launch} {s0 : State} {A0 : Array Value} {D : va_G} {dA : Nat → ClassId} (h0 : XS0 l s0 A0 D dA) (σ : XS) (it : Int32)  : XMet l y_LC_stocked [cw_LC_stocked] rm_LC_stocked (XP D dA s0 σ [.ref (xB s0 + XA 0 0), .int it]) (XQp xv_i (S_LC_stocked σ it)) 1 6 (fun _ => False) := by
  refine XMet.ofW (cc := b_LC_stocked) (maxL := 2) (ret := (some .int)) (by decide) rfl ?_
  intro p e s m args below meth c s₁ Bd hml hv
  obtain ⟨rfl, hX, hO⟩ := hv
  have hx := Bd.exec
  have hb := Bd.bytes
  have hr := Bd.returns
  have hown : s.vm.findClass "LoadChecks" = some m.cls := findClass_of_methodNamed Bd.named
  have hlocks := Bd.notSynchronized
  have hnt : c.exceptionTable.isEmpty = true := Bd.noHandlers (atoms_spec (ws := [cw_LC_stocked]) Bd.pre _ List.mem_cons_self)
  have hW0 := hO.1
  have hts := xs_w (args := ([.ref (xB s0 + XA 0 0), .int it] : List Value).toArray) h0 hW0
  have hK := xs_K h0 hW0
  have hl := lv_entry ([.ref (xB s0 + XA 0 0), .int it]) (n := 2) (Nat.le_of_ble_eq_true rfl)
  rw [lg_entry_eq]
  generalize (lg_sl ([.ref (xB s0 + XA 0 0), .int it]) ++ List.replicate (2 - (lg_sl ([.ref (xB s0 + XA 0 0), .int it])).length) Slot.unset).toArray = ls at hl ⊢
  have hl : lv_has ls 2 [(0, .ref (xB s0 + XA 0 0)), (1, .int it)] := hl
  generalize hR : S_LC_stocked σ it = res
  unfold S_LC_stocked at hR
  refine lv_iload_n hx hb d_LC_stocked_0 rfl (lv_at hl 1 rfl) ?_
  refine xc_p (rest := []) (x_invS (argsL := [.int it]) hx hb hown (hts _ w_337) (hts _ w_338) (hts _ w_34) (x_code (hts _ w_339)) ⟨by decide, by decide⟩ rfl rfl rfl d_LC_stocked_1) (c_LC_requireItem h0 σ it) (xs_cw h0 hW0 m_339) (hts _ w_34) ⟨rfl, rfl, Nat.le_of_ble_eq_true rfl, Nat.le_of_ble_eq_true rfl⟩ (hl.1.trans hml.symm) (by rw [hb]; exact d_LC_stocked_1) (Nat.le_of_ble_eq_true rfl) ⟨Nat.le_of_ble_eq_true rfl, Nat.le_of_ble_eq_true rfl⟩ hX hO (fun v1 hM1 => ?_) (fun E1 x1 H1 hM1 hE1 he1 => ?_)
  · rw [hM1] at hR
    dsimp only [xbp] at hR
    have f1 := f_item hM1
    refine lv_aload_n hx hb d_LC_stocked_4 rfl (lv_at hl 0 rfl) ?_
    refine xw_get (C := R_LC) (T := F_LC) (N := 9) (r := 0) (i := 0) hx hb hts hi_LC hown hK hX (by decide) rfl rfl 2 (by decide) (hts _ w_135) rfl rfl d_LC_stocked_5 ?_
    refine lv_iload_n hx hb d_LC_stocked_8 rfl (lv_at hl 1 rfl) ?_
    refine xw_iald (r := 3) (i := 0) hx hb hK hX (by decide) 0 rfl rfl (j := it) f1 d_LC_stocked_9 ?_
    subst hR
    refine W.widen (k := 1) (n := 6) (by decide) (by decide) ?_; exact xr_i hx hb hr hlocks d_LC_stocked_10
  · rw [hM1] at hR
    dsimp only [xbp] at hR
    subst hR
    refine xt_wid (k := 1) (n := 6) (by decide) (by decide) ?_
    exact xt_p hlocks hnt hE1 he1
end
