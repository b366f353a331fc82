-- ===== PART A: goes FIRST, ahead of the names: the tables' words, and 'selects' of the private methods out of them =====
/-- a private method of a class that the tables say can be made, by its rows of tables_1 -/
def lw_okq (q : MethodName × Nat) : Prop := (q.1.cls ≠ "java/lang/invoke/MethodHandle" ∧ q.1.cls ≠ "java/lang/invoke/VarHandle") ∧ Cond.instantiable q.1.cls q.2 ∈ tables_1 ∧ Cond.privateMethod q.1 ∈ tables_1 ∧ Cond.instanceMethod q.1 ∈ tables_1
theorem lw_p0 : lw_okq (⟨"java/lang/Throwable", "fillInStackTrace", "(I)Ljava/lang/Throwable;"⟩, 6) := ⟨⟨by decide +kernel, by decide +kernel⟩, List.mem_of_getElem? (i := 273) (by decide +kernel), List.mem_of_getElem? (i := 271) (by decide +kernel), List.mem_of_getElem? (i := 272) (by decide +kernel)⟩
theorem lw_p1 : lw_okq (⟨"ThinSheets", "canType", "(II)Z"⟩, 8) := ⟨⟨by decide +kernel, by decide +kernel⟩, List.mem_of_getElem? (i := 16) (by decide +kernel), List.mem_of_getElem? (i := 349) (by decide +kernel), List.mem_of_getElem? (i := 350) (by decide +kernel)⟩
theorem lw_p2 : lw_okq (⟨"ThinSheets", "bringTo", "(II)V"⟩, 8) := ⟨⟨by decide +kernel, by decide +kernel⟩, List.mem_of_getElem? (i := 16) (by decide +kernel), List.mem_of_getElem? (i := 364) (by decide +kernel), List.mem_of_getElem? (i := 365) (by decide +kernel)⟩
theorem lw_p3 : lw_okq (⟨"ThinSheets", "see", "(I)V"⟩, 8) := ⟨⟨by decide +kernel, by decide +kernel⟩, List.mem_of_getElem? (i := 16) (by decide +kernel), List.mem_of_getElem? (i := 373) (by decide +kernel), List.mem_of_getElem? (i := 374) (by decide +kernel)⟩
theorem lw_p4 : lw_okq (⟨"ThinSheets", "compareLetters", "(I)V"⟩, 8) := ⟨⟨by decide +kernel, by decide +kernel⟩, List.mem_of_getElem? (i := 16) (by decide +kernel), List.mem_of_getElem? (i := 377) (by decide +kernel), List.mem_of_getElem? (i := 378) (by decide +kernel)⟩
theorem lw_p5 : lw_okq (⟨"ThinSheets", "noteKnown", "(III)V"⟩, 8) := ⟨⟨by decide +kernel, by decide +kernel⟩, List.mem_of_getElem? (i := 16) (by decide +kernel), List.mem_of_getElem? (i := 381) (by decide +kernel), List.mem_of_getElem? (i := 382) (by decide +kernel)⟩
theorem lw_p6 : lw_okq (⟨"ThinSheets", "makeCopy", "(III)I"⟩, 8) := ⟨⟨by decide +kernel, by decide +kernel⟩, List.mem_of_getElem? (i := 16) (by decide +kernel), List.mem_of_getElem? (i := 405) (by decide +kernel), List.mem_of_getElem? (i := 406) (by decide +kernel)⟩
theorem lw_p7 : lw_okq (⟨"ThinSheets", "tellOf", "(II)V"⟩, 8) := ⟨⟨by decide +kernel, by decide +kernel⟩, List.mem_of_getElem? (i := 16) (by decide +kernel), List.mem_of_getElem? (i := 440) (by decide +kernel), List.mem_of_getElem? (i := 441) (by decide +kernel)⟩
theorem lw_p8 : lw_okq (⟨"ThinSheets", "seizeSheets", "(II)I"⟩, 8) := ⟨⟨by decide +kernel, by decide +kernel⟩, List.mem_of_getElem? (i := 16) (by decide +kernel), List.mem_of_getElem? (i := 485) (by decide +kernel), List.mem_of_getElem? (i := 486) (by decide +kernel)⟩
theorem lw_p9 : lw_okq (⟨"ThinSheets", "seizeMachines", "(I)V"⟩, 8) := ⟨⟨by decide +kernel, by decide +kernel⟩, List.mem_of_getElem? (i := 16) (by decide +kernel), List.mem_of_getElem? (i := 493) (by decide +kernel), List.mem_of_getElem? (i := 494) (by decide +kernel)⟩
theorem lw_p10 : lw_okq (⟨"ThinSheets", "openOne", "(I)V"⟩, 8) := ⟨⟨by decide +kernel, by decide +kernel⟩, List.mem_of_getElem? (i := 16) (by decide +kernel), List.mem_of_getElem? (i := 506) (by decide +kernel), List.mem_of_getElem? (i := 507) (by decide +kernel)⟩
theorem lw_p11 : lw_okq (⟨"ThinSheets", "nameInArchive", "(I)I"⟩, 8) := ⟨⟨by decide +kernel, by decide +kernel⟩, List.mem_of_getElem? (i := 16) (by decide +kernel), List.mem_of_getElem? (i := 518) (by decide +kernel), List.mem_of_getElem? (i := 519) (by decide +kernel)⟩
theorem lw_p12 : lw_okq (⟨"ThinSheets", "castVotes", "(II)V"⟩, 8) := ⟨⟨by decide +kernel, by decide +kernel⟩, List.mem_of_getElem? (i := 16) (by decide +kernel), List.mem_of_getElem? (i := 583) (by decide +kernel), List.mem_of_getElem? (i := 584) (by decide +kernel)⟩
theorem lw_p13 : lw_okq (⟨"ThinSheets", "countVotes", "(I)I"⟩, 8) := ⟨⟨by decide +kernel, by decide +kernel⟩, List.mem_of_getElem? (i := 16) (by decide +kernel), List.mem_of_getElem? (i := 592) (by decide +kernel), List.mem_of_getElem? (i := 593) (by decide +kernel)⟩
def lw_privs_1 : List (MethodName × Nat) := [(⟨"java/lang/Throwable", "fillInStackTrace", "(I)Ljava/lang/Throwable;"⟩, 6), (⟨"ThinSheets", "canType", "(II)Z"⟩, 8), (⟨"ThinSheets", "bringTo", "(II)V"⟩, 8), (⟨"ThinSheets", "see", "(I)V"⟩, 8), (⟨"ThinSheets", "compareLetters", "(I)V"⟩, 8), (⟨"ThinSheets", "noteKnown", "(III)V"⟩, 8), (⟨"ThinSheets", "makeCopy", "(III)I"⟩, 8), (⟨"ThinSheets", "tellOf", "(II)V"⟩, 8), (⟨"ThinSheets", "seizeSheets", "(II)I"⟩, 8), (⟨"ThinSheets", "seizeMachines", "(I)V"⟩, 8), (⟨"ThinSheets", "openOne", "(I)V"⟩, 8), (⟨"ThinSheets", "nameInArchive", "(I)I"⟩, 8), (⟨"ThinSheets", "castVotes", "(II)V"⟩, 8), (⟨"ThinSheets", "countVotes", "(I)I"⟩, 8)]
theorem lw_r1 : ∀ q ∈ lw_privs_1, lw_okq q := List.forall_mem_cons.mpr ⟨lw_p0, List.forall_mem_cons.mpr ⟨lw_p1, List.forall_mem_cons.mpr ⟨lw_p2, List.forall_mem_cons.mpr ⟨lw_p3, List.forall_mem_cons.mpr ⟨lw_p4, List.forall_mem_cons.mpr ⟨lw_p5, List.forall_mem_cons.mpr ⟨lw_p6, List.forall_mem_cons.mpr ⟨lw_p7, List.forall_mem_cons.mpr ⟨lw_p8, List.forall_mem_cons.mpr ⟨lw_p9, List.forall_mem_cons.mpr ⟨lw_p10, List.forall_mem_cons.mpr ⟨lw_p11, List.forall_mem_cons.mpr ⟨lw_p12, List.forall_mem_cons.mpr ⟨lw_p13, fun _ h => absurd h List.not_mem_nil⟩⟩⟩⟩⟩⟩⟩⟩⟩⟩⟩⟩⟩⟩
def lw_privs : List (MethodName × Nat) := lw_privs_1
def lw_tbl : List Cond := k2_sels lw_privs ++ tables_1
theorem lw_privs_ok : ∀ q ∈ lw_privs, lw_okq q := lw_r1
def RX0 : String := "ThinSheets$Archive"
def TX0 : u_T := fun k => match k with
  | 0 => ("ThinSheets$Archive", "isOpen", "Z", false)
  | 1 => ("ThinSheets$Archive", "count", "I", false)
  | 2 => ("ThinSheets$Archive", "nights", "[I", true)
  | 3 => ("ThinSheets$Archive", "kinds", "[I", true)
  | 4 => ("ThinSheets$Archive", "doers", "[I", true)
  | _ => ("ThinSheets$Archive", "subjects", "[I", true)
def tyX0 : Nat → FieldType := fun k => match k with
  | 0 => .boolean
  | 1 => .int
  | 2 => .array .int
  | 3 => .array .int
  | 4 => .array .int
  | _ => .array .int
abbrev wsX00 : List Cond := u_ws RX0 TX0 6
theorem nmX0 : ∀ a, a < 6 → ∀ b, b < 6 → a ≠ b → (TX0 a).2.1 ≠ (TX0 b).2.1 := by decide +kernel
theorem tyX0_ok : ∀ k, k < 6 → parseFieldDescriptor (TX0 k).2.2.1 = some (tyX0 k) := by decide +kernel
abbrev cX0_init : ByteArray := prog_2_method_1_code
def yX0_init : MethodName := ⟨RX0, "<init>", "()V"⟩
abbrev cX0_add : ByteArray := prog_2_method_2_code
def yX0_add : MethodName := ⟨RX0, "add", "(IIII)V"⟩
abbrev cX0_tellsKnown : ByteArray := prog_2_method_3_code
def yX0_tellsKnown : MethodName := ⟨RX0, "tellsKnown", "(I)Z"⟩
def RX1 : String := "ThinSheets$Machines"
def TX1 : u_T := fun k => match k with
  | 0 => ("ThinSheets$Machines", "holders", "[I", true)
  | 1 => ("ThinSheets$Machines", "noted", "[I", true)
  | 2 => ("ThinSheets$Machines", "seen", "[Z", true)
  | _ => ("ThinSheets$Machines", "seized", "[Z", true)
def tyX1 : Nat → FieldType := fun k => match k with
  | 0 => .array .int
  | 1 => .array .int
  | 2 => .array .boolean
  | _ => .array .boolean
abbrev wsX10 : List Cond := u_ws RX1 TX1 4
theorem nmX1 : ∀ a, a < 4 → ∀ b, b < 4 → a ≠ b → (TX1 a).2.1 ≠ (TX1 b).2.1 := by decide +kernel
theorem tyX1_ok : ∀ k, k < 4 → parseFieldDescriptor (TX1 k).2.2.1 = some (tyX1 k) := by decide +kernel
abbrev cX1_init : ByteArray := prog_3_method_1_code
def yX1_init : MethodName := ⟨RX1, "<init>", "()V"⟩
def RX2 : String := "ThinSheets$People"
def TX2 : u_T := fun k => match k with
  | 0 => ("ThinSheets$People", "arrested", "I", false)
  | 1 => ("ThinSheets$People", "informers", "I", false)
  | 2 => ("ThinSheets$People", "known", "I", false)
  | 3 => ("ThinSheets$People", "acquaintances", "[I", true)
  | 4 => ("ThinSheets$People", "strength", "[I", true)
  | 5 => ("ThinSheets$People", "arrestNights", "[I", true)
  | _ => ("ThinSheets$People", "isNamed", "[Z", true)
def tyX2 : Nat → FieldType := fun k => match k with
  | 0 => .int
  | 1 => .int
  | 2 => .int
  | 3 => .array .int
  | 4 => .array .int
  | 5 => .array .int
  | _ => .array .boolean
abbrev wsX20 : List Cond := u_ws RX2 TX2 7
theorem nmX2 : ∀ a, a < 7 → ∀ b, b < 7 → a ≠ b → (TX2 a).2.1 ≠ (TX2 b).2.1 := by decide +kernel
theorem tyX2_ok : ∀ k, k < 7 → parseFieldDescriptor (TX2 k).2.2.1 = some (tyX2 k) := by decide +kernel
abbrev cX2_init : ByteArray := prog_4_method_1_code
def yX2_init : MethodName := ⟨RX2, "<init>", "()V"⟩
abbrev cX2_isFree : ByteArray := prog_4_method_2_code
def yX2_isFree : MethodName := ⟨RX2, "isFree", "(I)Z"⟩
abbrev cX2_isInformer : ByteArray := prog_4_method_3_code
def yX2_isInformer : MethodName := ⟨RX2, "isInformer", "(I)Z"⟩
abbrev cX2_isListed : ByteArray := prog_4_method_4_code
def yX2_isListed : MethodName := ⟨RX2, "isListed", "(I)Z"⟩
abbrev cX2_areAcquainted : ByteArray := prog_4_method_5_code
def yX2_areAcquainted : MethodName := ⟨RX2, "areAcquainted", "(II)Z"⟩
abbrev cX2_acquaint : ByteArray := prog_4_method_6_code
def yX2_acquaint : MethodName := ⟨RX2, "acquaint", "(II)V"⟩
abbrev cX2_opensIn : ByteArray := prog_4_method_7_code
def yX2_opensIn : MethodName := ⟨RX2, "opensIn", "(II)Z"⟩
abbrev cX2_lowestUnknown : ByteArray := prog_4_method_8_code
def yX2_lowestUnknown : MethodName := ⟨RX2, "lowestUnknown", "(II)I"⟩
def RX3 : String := "ThinSheets$Sheets"
def TX3 : u_T := fun k => match k with
  | 0 => ("ThinSheets$Sheets", "count", "I", false)
  | 1 => ("ThinSheets$Sheets", "batches", "I", false)
  | 2 => ("ThinSheets$Sheets", "texts", "[I", true)
  | 3 => ("ThinSheets$Sheets", "batchOf", "[I", true)
  | 4 => ("ThinSheets$Sheets", "copies", "[I", true)
  | 5 => ("ThinSheets$Sheets", "sources", "[I", true)
  | 6 => ("ThinSheets$Sheets", "machines", "[I", true)
  | 7 => ("ThinSheets$Sheets", "holders", "[I", true)
  | 8 => ("ThinSheets$Sheets", "seized", "[Z", true)
  | 9 => ("ThinSheets$Sheets", "hours", "[I", true)
  | 10 => ("ThinSheets$Sheets", "everHad", "[I", true)
  | _ => ("ThinSheets$Sheets", "readings", "[[I", true)
def tyX3 : Nat → FieldType := fun k => match k with
  | 0 => .int
  | 1 => .int
  | 2 => .array .int
  | 3 => .array .int
  | 4 => .array .int
  | 5 => .array .int
  | 6 => .array .int
  | 7 => .array .int
  | 8 => .array .boolean
  | 9 => .array .int
  | 10 => .array .int
  | _ => .array (.array .int)
abbrev wsX30 : List Cond := u_ws RX3 TX3 12
theorem nmX3 : ∀ a, a < 12 → ∀ b, b < 12 → a ≠ b → (TX3 a).2.1 ≠ (TX3 b).2.1 := by decide +kernel
theorem tyX3_ok : ∀ k, k < 12 → parseFieldDescriptor (TX3 k).2.2.1 = some (tyX3 k) := by decide +kernel
abbrev cX3_init : ByteArray := prog_5_method_1_code
def yX3_init : MethodName := ⟨RX3, "<init>", "()V"⟩
abbrev cX3_add : ByteArray := prog_5_method_2_code
def yX3_add : MethodName := ⟨RX3, "add", "(IIII)I"⟩
abbrev cX3_anyOf : ByteArray := prog_5_method_3_code
def yX3_anyOf : MethodName := ⟨RX3, "anyOf", "(I)Z"⟩
abbrev cX3_couldBeParent : ByteArray := prog_5_method_4_code
def yX3_couldBeParent : MethodName := ⟨RX3, "couldBeParent", "(II)Z"⟩
abbrev cX3_canVote : ByteArray := prog_5_method_5_code
def yX3_canVote : MethodName := ⟨RX3, "canVote", "(III)Z"⟩
abbrev cX3_distance : ByteArray := prog_5_method_6_code
def yX3_distance : MethodName := ⟨RX3, "distance", "(II)I"⟩
abbrev cX3_distanceAt : ByteArray := prog_5_method_7_code
def yX3_distanceAt : MethodName := ⟨RX3, "distanceAt", "(II)I"⟩
def RX4 : String := "ThinSheets$Slips"
def TX4 : u_T := fun k => match k with
  | 0 => ("ThinSheets$Slips", "kinds", "[I", true)
  | _ => ("ThinSheets$Slips", "words", "[I", true)
def tyX4 : Nat → FieldType := fun k => match k with
  | 0 => .array .int
  | _ => .array .int
abbrev wsX40 : List Cond := u_ws RX4 TX4 2
theorem nmX4 : ∀ a, a < 2 → ∀ b, b < 2 → a ≠ b → (TX4 a).2.1 ≠ (TX4 b).2.1 := by decide +kernel
theorem tyX4_ok : ∀ k, k < 2 → parseFieldDescriptor (TX4 k).2.2.1 = some (tyX4 k) := by decide +kernel
abbrev cX4_init : ByteArray := prog_6_method_1_code
def yX4_init : MethodName := ⟨RX4, "<init>", "()V"⟩
abbrev cX4_forget : ByteArray := prog_6_method_2_code
def yX4_forget : MethodName := ⟨RX4, "forget", "()V"⟩
abbrev cX4_countPlaces : ByteArray := prog_6_method_3_code
def yX4_countPlaces : MethodName := ⟨RX4, "countPlaces", "()I"⟩
abbrev cX4_apply : ByteArray := prog_6_method_4_code
def yX4_apply : MethodName := ⟨RX4, "apply", "(II)I"⟩
def RX5 : String := "ThinSheets"
def TX5 : u_T := fun k => match k with
  | 0 => ("ThinSheets", "words", "[[I", true)
  | 1 => ("ThinSheets", "slips", "LThinSheets$Slips;", true)
  | 2 => ("ThinSheets", "sheets", "LThinSheets$Sheets;", true)
  | 3 => ("ThinSheets", "people", "LThinSheets$People;", true)
  | 4 => ("ThinSheets", "machines", "LThinSheets$Machines;", true)
  | 5 => ("ThinSheets", "archive", "LThinSheets$Archive;", true)
  | 6 => ("ThinSheets", "votes", "[I", true)
  | _ => ("ThinSheets", "night", "I", false)
def tyX5 : Nat → FieldType := fun k => match k with
  | 0 => .array (.array .int)
  | 1 => .object "ThinSheets$Slips"
  | 2 => .object "ThinSheets$Sheets"
  | 3 => .object "ThinSheets$People"
  | 4 => .object "ThinSheets$Machines"
  | 5 => .object "ThinSheets$Archive"
  | 6 => .array .int
  | _ => .int
abbrev wsX50 : List Cond := u_ws RX5 TX5 8
theorem nmX5 : ∀ a, a < 8 → ∀ b, b < 8 → a ≠ b → (TX5 a).2.1 ≠ (TX5 b).2.1 := by decide +kernel
theorem tyX5_ok : ∀ k, k < 8 → parseFieldDescriptor (TX5 k).2.2.1 = some (tyX5 k) := by decide +kernel
abbrev cX5_init : ByteArray := prog_1_method_1_code
def yX5_init : MethodName := ⟨RX5, "<init>", "()V"⟩
abbrev cX5_word : ByteArray := prog_1_method_2_code
def yX5_word : MethodName := ⟨RX5, "word", "(III)I"⟩
abbrev cX5_write : ByteArray := prog_1_method_3_code
def yX5_write : MethodName := ⟨RX5, "write", "(III)I"⟩
abbrev cX5_slip : ByteArray := prog_1_method_4_code
def yX5_slip : MethodName := ⟨RX5, "slip", "(III)I"⟩
abbrev cX5_type : ByteArray := prog_1_method_5_code
def yX5_type : MethodName := ⟨RX5, "type", "(III)I"⟩
abbrev cX5_reading : ByteArray := prog_1_method_6_code
def yX5_reading : MethodName := ⟨RX5, "reading", "(II)I"⟩
abbrev cX5_unlikely : ByteArray := prog_1_method_7_code
def yX5_unlikely : MethodName := ⟨RX5, "unlikely", "(II)I"⟩
abbrev cX5_likeliest : ByteArray := prog_1_method_8_code
def yX5_likeliest : MethodName := ⟨RX5, "likeliest", "(I)I"⟩
abbrev cX5_restored : ByteArray := prog_1_method_9_code
def yX5_restored : MethodName := ⟨RX5, "restored", "(II)I"⟩
abbrev cX5_sheetIs : ByteArray := prog_1_method_10_code
def yX5_sheetIs : MethodName := ⟨RX5, "sheetIs", "(II)I"⟩
abbrev cX5_meet : ByteArray := prog_1_method_11_code
def yX5_meet : MethodName := ⟨RX5, "meet", "(II)Z"⟩
abbrev cX5_give : ByteArray := prog_1_method_12_code
def yX5_give : MethodName := ⟨RX5, "give", "(II)I"⟩
abbrev cX5_hide : ByteArray := prog_1_method_13_code
def yX5_hide : MethodName := ⟨RX5, "hide", "(II)I"⟩
abbrev cX5_burn : ByteArray := prog_1_method_14_code
def yX5_burn : MethodName := ⟨RX5, "burn", "(I)V"⟩
abbrev cX5_whoHad : ByteArray := prog_1_method_15_code
def yX5_whoHad : MethodName := ⟨RX5, "whoHad", "(III)I"⟩
abbrev cX5_knows : ByteArray := prog_1_method_16_code
def yX5_knows : MethodName := ⟨RX5, "knows", "(I)I"⟩
abbrev cX5_lend : ByteArray := prog_1_method_17_code
def yX5_lend : MethodName := ⟨RX5, "lend", "(II)I"⟩
abbrev cX5_file : ByteArray := prog_1_method_18_code
def yX5_file : MethodName := ⟨RX5, "file", "(I)I"⟩
abbrev cX5_informer : ByteArray := prog_1_method_19_code
def yX5_informer : MethodName := ⟨RX5, "informer", "(I)I"⟩
abbrev cX5_strong : ByteArray := prog_1_method_20_code
def yX5_strong : MethodName := ⟨RX5, "strong", "(II)I"⟩
abbrev cX5_arrest : ByteArray := prog_1_method_21_code
def yX5_arrest : MethodName := ⟨RX5, "arrest", "(I)I"⟩
abbrev cX5_search : ByteArray := prog_1_method_22_code
def yX5_search : MethodName := ⟨RX5, "search", "(II)I"⟩
abbrev cX5_amnesty : ByteArray := prog_1_method_23_code
def yX5_amnesty : MethodName := ⟨RX5, "amnesty", "()I"⟩
abbrev cX5_isKnown : ByteArray := prog_1_method_24_code
def yX5_isKnown : MethodName := ⟨RX5, "isKnown", "(I)Z"⟩
abbrev cX5_isKnownAnew : ByteArray := prog_1_method_25_code
def yX5_isKnownAnew : MethodName := ⟨RX5, "isKnownAnew", "(I)Z"⟩
abbrev cX5_risk : ByteArray := prog_1_method_26_code
def yX5_risk : MethodName := ⟨RX5, "risk", "(II)I"⟩
abbrev cX5_pass : ByteArray := prog_1_method_27_code
def yX5_pass : MethodName := ⟨RX5, "pass", "(I)I"⟩
abbrev cX5_life : ByteArray := prog_1_method_28_code
def yX5_life : MethodName := ⟨RX5, "life", "(IZZ)V"⟩
abbrev cX5_open : ByteArray := prog_1_method_29_code
def yX5_open : MethodName := ⟨RX5, "open", "()I"⟩
abbrev cX5_line : ByteArray := prog_1_method_30_code
def yX5_line : MethodName := ⟨RX5, "line", "(II)I"⟩
abbrev cX5_needIndex : ByteArray := prog_1_method_31_code
def yX5_needIndex : MethodName := ⟨RX5, "needIndex", "(II)V"⟩
abbrev cX5_needArgument : ByteArray := prog_1_method_32_code
def yX5_needArgument : MethodName := ⟨RX5, "needArgument", "(Z)V"⟩
abbrev cX5_needState : ByteArray := prog_1_method_33_code
def yX5_needState : MethodName := ⟨RX5, "needState", "(Z)V"⟩
abbrev cX5_bit : ByteArray := prog_1_method_34_code
def yX5_bit : MethodName := ⟨RX5, "bit", "(I)I"⟩
abbrev cX5_canType : ByteArray := prog_1_method_35_code
def yX5_canType : MethodName := ⟨RX5, "canType", "(II)Z"⟩
abbrev cX5_makeCopy : ByteArray := prog_1_method_36_code
def yX5_makeCopy : MethodName := ⟨RX5, "makeCopy", "(III)I"⟩
abbrev cX5_bringTo : ByteArray := prog_1_method_37_code
def yX5_bringTo : MethodName := ⟨RX5, "bringTo", "(II)V"⟩
abbrev cX5_castVotes : ByteArray := prog_1_method_38_code
def yX5_castVotes : MethodName := ⟨RX5, "castVotes", "(II)V"⟩
abbrev cX5_countVotes : ByteArray := prog_1_method_39_code
def yX5_countVotes : MethodName := ⟨RX5, "countVotes", "(I)I"⟩
abbrev cX5_tellOf : ByteArray := prog_1_method_40_code
def yX5_tellOf : MethodName := ⟨RX5, "tellOf", "(II)V"⟩
abbrev cX5_noteKnown : ByteArray := prog_1_method_41_code
def yX5_noteKnown : MethodName := ⟨RX5, "noteKnown", "(III)V"⟩
abbrev cX5_see : ByteArray := prog_1_method_42_code
def yX5_see : MethodName := ⟨RX5, "see", "(I)V"⟩
abbrev cX5_compareLetters : ByteArray := prog_1_method_43_code
def yX5_compareLetters : MethodName := ⟨RX5, "compareLetters", "(I)V"⟩
abbrev cX5_seizeSheets : ByteArray := prog_1_method_44_code
def yX5_seizeSheets : MethodName := ⟨RX5, "seizeSheets", "(II)I"⟩
abbrev cX5_seizeMachines : ByteArray := prog_1_method_45_code
def yX5_seizeMachines : MethodName := ⟨RX5, "seizeMachines", "(I)V"⟩
abbrev cX5_openOne : ByteArray := prog_1_method_46_code
def yX5_openOne : MethodName := ⟨RX5, "openOne", "(I)V"⟩
abbrev cX5_nameInArchive : ByteArray := prog_1_method_47_code
def yX5_nameInArchive : MethodName := ⟨RX5, "nameInArchive", "(I)I"⟩
def RX6 : String := "ThinSheetsModel"
def TX6 : u_T := fun k => match k with
  | _ => ("", "", "", false)
def tyX6 : Nat → FieldType := fun k => match k with
  | _ => .int
abbrev wsX60 : List Cond := u_ws RX6 TX6 0
theorem nmX6 : ∀ a, a < 0 → ∀ b, b < 0 → a ≠ b → (TX6 a).2.1 ≠ (TX6 b).2.1 := by decide +kernel
theorem tyX6_ok : ∀ k, k < 0 → parseFieldDescriptor (TX6 k).2.2.1 = some (tyX6 k) := by decide +kernel
def RJx145de : String := "java/io/Serializable"
def TJx145de : u_T := fun k => match k with
  | _ => ("", "", "", false)
def tyJx145de : Nat → FieldType := fun k => match k with
  | _ => .int
abbrev wsJx145de0 : List Cond := u_ws RJx145de TJx145de 0
theorem nmJx145de : ∀ a, a < 0 → ∀ b, b < 0 → a ≠ b → (TJx145de a).2.1 ≠ (TJx145de b).2.1 := by decide +kernel
theorem tyJx145de_ok : ∀ k, k < 0 → parseFieldDescriptor (TJx145de k).2.2.1 = some (tyJx145de k) := by decide +kernel
def RJ6 : String := "java/lang/Integer"
def TJ6 : u_T := fun k => match k with
  | _ => ("", "", "", false)
def tyJ6 : Nat → FieldType := fun k => match k with
  | _ => .int
abbrev wsJ60 : List Cond := u_ws RJ6 TJ6 0
theorem nmJ6 : ∀ a, a < 0 → ∀ b, b < 0 → a ≠ b → (TJ6 a).2.1 ≠ (TJ6 b).2.1 := by decide +kernel
theorem tyJ6_ok : ∀ k, k < 0 → parseFieldDescriptor (TJ6 k).2.2.1 = some (tyJ6 k) := by decide +kernel
abbrev cJ6_bitCount_0f7a4 : ByteArray := prog_13_method_49_code
def yJ6_bitCount_0f7a4 : MethodName := ⟨RJ6, "bitCount", "(I)I"⟩
def RJ0 : String := "java/lang/String"
def TJ0 : u_T := fun k => match k with
  | _ => ("", "", "", false)
def tyJ0 : Nat → FieldType := fun k => match k with
  | _ => .int
abbrev wsJ00 : List Cond := u_ws RJ0 TJ0 0
theorem nmJ0 : ∀ a, a < 0 → ∀ b, b < 0 → a ≠ b → (TJ0 a).2.1 ≠ (TJ0 b).2.1 := by decide +kernel
theorem tyJ0_ok : ∀ k, k < 0 → parseFieldDescriptor (TJ0 k).2.2.1 = some (tyJ0 k) := by decide +kernel
def RJ7 : String := "java/util/Arrays"
def TJ7 : u_T := fun k => match k with
  | _ => ("", "", "", false)
def tyJ7 : Nat → FieldType := fun k => match k with
  | _ => .int
abbrev wsJ70 : List Cond := u_ws RJ7 TJ7 0
theorem nmJ7 : ∀ a, a < 0 → ∀ b, b < 0 → a ≠ b → (TJ7 a).2.1 ≠ (TJ7 b).2.1 := by decide +kernel
theorem tyJ7_ok : ∀ k, k < 0 → parseFieldDescriptor (TJ7 k).2.2.1 = some (tyJ7 k) := by decide +kernel
abbrev cJ7_fill_53178 : ByteArray := prog_17_method_103_code
def yJ7_fill_53178 : MethodName := ⟨RJ7, "fill", "([II)V"⟩
def RL : String := "ThinSheetsLaw"
abbrev cL_part : ByteArray := method_2_code
def yL_part : MethodName := ⟨RL, "part", "([III)I"⟩
abbrev cL_does : ByteArray := method_3_code
def yL_does : MethodName := ⟨RL, "does", "(LThinSheets;IIII)I"⟩
abbrev cL_burned : ByteArray := method_4_code
def yL_burned : MethodName := ⟨RL, "burned", "(LThinSheets;I)I"⟩
abbrev cL_unit : ByteArray := method_5_code
def yL_unit : MethodName := ⟨RL, "unit", "(I)I"⟩
abbrev cL_reading : ByteArray := method_6_code
def yL_reading : MethodName := ⟨RL, "reading", "([III)I"⟩
abbrev cL_reads : ByteArray := method_7_code
def yL_reads : MethodName := ⟨RL, "reads", "([IIII)V"⟩
abbrev cL_known : ByteArray := method_8_code
def yL_known : MethodName := ⟨RL, "known", "([I[IIII)V"⟩
abbrev cL_lines : ByteArray := method_9_code
def yL_lines : MethodName := ⟨RL, "lines", "([I[IIII)V"⟩
abbrev cL_looks : ByteArray := method_10_code
def yL_looks : MethodName := ⟨RL, "looks", "([I[I[II)V"⟩
abbrev cL_sees : ByteArray := method_11_code
def yL_sees : MethodName := ⟨RL, "sees", "([I[I[II)V"⟩
abbrev cL_comes : ByteArray := method_12_code
def yL_comes : MethodName := ⟨RL, "comes", "([I[I[I[I[III)V"⟩
abbrev cL_with : ByteArray := method_13_code
def yL_with : MethodName := ⟨RL, "with", "([II)I"⟩
abbrev cL_isFree : ByteArray := method_14_code
def yL_isFree : MethodName := ⟨RL, "isFree", "([II)Z"⟩
abbrev cL_unlikely : ByteArray := method_15_code
def yL_unlikely : MethodName := ⟨RL, "unlikely", "([III)I"⟩
abbrev cL_restored : ByteArray := method_16_code
def yL_restored : MethodName := ⟨RL, "restored", "([I[I[I[III)I"⟩
abbrev cL_isSo : ByteArray := method_17_code
def yL_isSo : MethodName := ⟨RL, "isSo", "(LThinSheets;[I[I[I[I[I[I[I[III)Z"⟩
abbrev cL_isSheet : ByteArray := method_18_code
def yL_isSheet : MethodName := ⟨RL, "isSheet", "(LThinSheets;[I[I[I[I[I[I[I[I[I[IIII)Z"⟩
abbrev cL_adds : ByteArray := method_19_code
def yL_adds : MethodName := ⟨RL, "adds", "([I[I[I[I[I[IIIIII)V"⟩
abbrev cL_isPerson : ByteArray := method_20_code
def yL_isPerson : MethodName := ⟨RL, "isPerson", "(LThinSheets;[I[I[I[I[I[I[IIII)Z"⟩
abbrev cL_count : ByteArray := method_21_code
def yL_count : MethodName := ⟨RL, "count", "(I)I"⟩
abbrev cL_seizes : ByteArray := method_22_code
def yL_seizes : MethodName := ⟨RL, "seizes", "([I[I[I[III)I"⟩
abbrev cL_isPolice : ByteArray := method_23_code
def yL_isPolice : MethodName := ⟨RL, "isPolice", "(LThinSheets;[I[I[I[I[I[IIII)Z"⟩
abbrev cL_law : ByteArray := code
def yL_law : MethodName := ⟨RL, "law", "([I)Z"⟩
abbrev vwCl : List vw_C := [(RX0, TX0, 6), (RX1, TX1, 4), (RX2, TX2, 7), (RX3, TX3, 12), (RX4, TX4, 2), (RX5, TX5, 8)]
