-- ===== PART A: goes FIRST, ahead of the names: the tables' words, and 'selects' of the private methods out of them =====
/-- a private method of a class that the tables say can be made, by its rows of tables_1 -/
def lw_okq (q : MethodName × Nat) : Prop := (q.1.cls ≠ "java/lang/invoke/MethodHandle" ∧ q.1.cls ≠ "java/lang/invoke/VarHandle") ∧ Cond.instantiable q.1.cls q.2 ∈ tables_1 ∧ Cond.privateMethod q.1 ∈ tables_1 ∧ Cond.instanceMethod q.1 ∈ tables_1
theorem lw_p0 : lw_okq (⟨"java/lang/Throwable", "fillInStackTrace", "(I)Ljava/lang/Throwable;"⟩, 6) := ⟨⟨by decide +kernel, by decide +kernel⟩, List.mem_of_getElem? (i := 284) (by decide +kernel), List.mem_of_getElem? (i := 282) (by decide +kernel), List.mem_of_getElem? (i := 283) (by decide +kernel)⟩
theorem lw_p1 : lw_okq (⟨"ThinSheets", "canType", "(II)Z"⟩, 8) := ⟨⟨by decide +kernel, by decide +kernel⟩, List.mem_of_getElem? (i := 17) (by decide +kernel), List.mem_of_getElem? (i := 363) (by decide +kernel), List.mem_of_getElem? (i := 364) (by decide +kernel)⟩
theorem lw_p2 : lw_okq (⟨"ThinSheets", "bringTo", "(II)V"⟩, 8) := ⟨⟨by decide +kernel, by decide +kernel⟩, List.mem_of_getElem? (i := 17) (by decide +kernel), List.mem_of_getElem? (i := 378) (by decide +kernel), List.mem_of_getElem? (i := 379) (by decide +kernel)⟩
theorem lw_p3 : lw_okq (⟨"ThinSheets", "see", "(I)V"⟩, 8) := ⟨⟨by decide +kernel, by decide +kernel⟩, List.mem_of_getElem? (i := 17) (by decide +kernel), List.mem_of_getElem? (i := 387) (by decide +kernel), List.mem_of_getElem? (i := 388) (by decide +kernel)⟩
theorem lw_p4 : lw_okq (⟨"ThinSheets", "compareLetters", "(I)V"⟩, 8) := ⟨⟨by decide +kernel, by decide +kernel⟩, List.mem_of_getElem? (i := 17) (by decide +kernel), List.mem_of_getElem? (i := 391) (by decide +kernel), List.mem_of_getElem? (i := 392) (by decide +kernel)⟩
theorem lw_p5 : lw_okq (⟨"ThinSheets", "noteKnown", "(III)V"⟩, 8) := ⟨⟨by decide +kernel, by decide +kernel⟩, List.mem_of_getElem? (i := 17) (by decide +kernel), List.mem_of_getElem? (i := 395) (by decide +kernel), List.mem_of_getElem? (i := 396) (by decide +kernel)⟩
theorem lw_p6 : lw_okq (⟨"ThinSheets", "makeCopy", "(III)I"⟩, 8) := ⟨⟨by decide +kernel, by decide +kernel⟩, List.mem_of_getElem? (i := 17) (by decide +kernel), List.mem_of_getElem? (i := 425) (by decide +kernel), List.mem_of_getElem? (i := 426) (by decide +kernel)⟩
theorem lw_p7 : lw_okq (⟨"ThinSheets", "castVotes", "(II)V"⟩, 8) := ⟨⟨by decide +kernel, by decide +kernel⟩, List.mem_of_getElem? (i := 17) (by decide +kernel), List.mem_of_getElem? (i := 476) (by decide +kernel), List.mem_of_getElem? (i := 477) (by decide +kernel)⟩
theorem lw_p8 : lw_okq (⟨"ThinSheets", "countVotes", "(I)I"⟩, 8) := ⟨⟨by decide +kernel, by decide +kernel⟩, List.mem_of_getElem? (i := 17) (by decide +kernel), List.mem_of_getElem? (i := 485) (by decide +kernel), List.mem_of_getElem? (i := 486) (by decide +kernel)⟩
theorem lw_p9 : lw_okq (⟨"ThinSheets", "tellOf", "(II)V"⟩, 8) := ⟨⟨by decide +kernel, by decide +kernel⟩, List.mem_of_getElem? (i := 17) (by decide +kernel), List.mem_of_getElem? (i := 511) (by decide +kernel), List.mem_of_getElem? (i := 512) (by decide +kernel)⟩
theorem lw_p10 : lw_okq (⟨"ThinSheets", "seizeSheets", "(II)I"⟩, 8) := ⟨⟨by decide +kernel, by decide +kernel⟩, List.mem_of_getElem? (i := 17) (by decide +kernel), List.mem_of_getElem? (i := 585) (by decide +kernel), List.mem_of_getElem? (i := 586) (by decide +kernel)⟩
theorem lw_p11 : lw_okq (⟨"ThinSheets", "seizeMachines", "(I)V"⟩, 8) := ⟨⟨by decide +kernel, by decide +kernel⟩, List.mem_of_getElem? (i := 17) (by decide +kernel), List.mem_of_getElem? (i := 596) (by decide +kernel), List.mem_of_getElem? (i := 597) (by decide +kernel)⟩
theorem lw_p12 : lw_okq (⟨"ThinSheets", "openOne", "(I)V"⟩, 8) := ⟨⟨by decide +kernel, by decide +kernel⟩, List.mem_of_getElem? (i := 17) (by decide +kernel), List.mem_of_getElem? (i := 641) (by decide +kernel), List.mem_of_getElem? (i := 642) (by decide +kernel)⟩
theorem lw_p13 : lw_okq (⟨"ThinSheets", "nameInArchive", "(I)I"⟩, 8) := ⟨⟨by decide +kernel, by decide +kernel⟩, List.mem_of_getElem? (i := 17) (by decide +kernel), List.mem_of_getElem? (i := 659) (by decide +kernel), List.mem_of_getElem? (i := 660) (by decide +kernel)⟩
theorem lw_p14 : lw_okq (⟨"ThinSheetsModel", "hasSheets", "(I)Z"⟩, 34) := ⟨⟨by decide +kernel, by decide +kernel⟩, List.mem_of_getElem? (i := 663) (by decide +kernel), List.mem_of_getElem? (i := 789) (by decide +kernel), List.mem_of_getElem? (i := 790) (by decide +kernel)⟩
theorem lw_p15 : lw_okq (⟨"ThinSheetsModel", "fails", "(I)Z"⟩, 34) := ⟨⟨by decide +kernel, by decide +kernel⟩, List.mem_of_getElem? (i := 663) (by decide +kernel), List.mem_of_getElem? (i := 793) (by decide +kernel), List.mem_of_getElem? (i := 794) (by decide +kernel)⟩
def lw_privs_1 : List (MethodName × Nat) := [(⟨"java/lang/Throwable", "fillInStackTrace", "(I)Ljava/lang/Throwable;"⟩, 6), (⟨"ThinSheets", "canType", "(II)Z"⟩, 8), (⟨"ThinSheets", "bringTo", "(II)V"⟩, 8), (⟨"ThinSheets", "see", "(I)V"⟩, 8), (⟨"ThinSheets", "compareLetters", "(I)V"⟩, 8), (⟨"ThinSheets", "noteKnown", "(III)V"⟩, 8), (⟨"ThinSheets", "makeCopy", "(III)I"⟩, 8), (⟨"ThinSheets", "castVotes", "(II)V"⟩, 8), (⟨"ThinSheets", "countVotes", "(I)I"⟩, 8), (⟨"ThinSheets", "tellOf", "(II)V"⟩, 8), (⟨"ThinSheets", "seizeSheets", "(II)I"⟩, 8), (⟨"ThinSheets", "seizeMachines", "(I)V"⟩, 8), (⟨"ThinSheets", "openOne", "(I)V"⟩, 8), (⟨"ThinSheets", "nameInArchive", "(I)I"⟩, 8), (⟨"ThinSheetsModel", "hasSheets", "(I)Z"⟩, 34), (⟨"ThinSheetsModel", "fails", "(I)Z"⟩, 34)]
theorem lw_r1 : ∀ q ∈ lw_privs_1, lw_okq q := List.forall_mem_cons.mpr ⟨lw_p0, List.forall_mem_cons.mpr ⟨lw_p1, List.forall_mem_cons.mpr ⟨lw_p2, List.forall_mem_cons.mpr ⟨lw_p3, List.forall_mem_cons.mpr ⟨lw_p4, List.forall_mem_cons.mpr ⟨lw_p5, List.forall_mem_cons.mpr ⟨lw_p6, List.forall_mem_cons.mpr ⟨lw_p7, List.forall_mem_cons.mpr ⟨lw_p8, List.forall_mem_cons.mpr ⟨lw_p9, List.forall_mem_cons.mpr ⟨lw_p10, List.forall_mem_cons.mpr ⟨lw_p11, List.forall_mem_cons.mpr ⟨lw_p12, List.forall_mem_cons.mpr ⟨lw_p13, List.forall_mem_cons.mpr ⟨lw_p14, List.forall_mem_cons.mpr ⟨lw_p15, fun _ h => absurd h List.not_mem_nil⟩⟩⟩⟩⟩⟩⟩⟩⟩⟩⟩⟩⟩⟩⟩⟩
theorem lw_p16 : lw_okq (⟨"ThinSheetsModel", "isFree", "(I)Z"⟩, 34) := ⟨⟨by decide +kernel, by decide +kernel⟩, List.mem_of_getElem? (i := 663) (by decide +kernel), List.mem_of_getElem? (i := 807) (by decide +kernel), List.mem_of_getElem? (i := 808) (by decide +kernel)⟩
theorem lw_p17 : lw_okq (⟨"ThinSheetsModel", "adds", "(IIIII)I"⟩, 34) := ⟨⟨by decide +kernel, by decide +kernel⟩, List.mem_of_getElem? (i := 663) (by decide +kernel), List.mem_of_getElem? (i := 814) (by decide +kernel), List.mem_of_getElem? (i := 815) (by decide +kernel)⟩
theorem lw_p18 : lw_okq (⟨"ThinSheetsModel", "comes", "(II)V"⟩, 34) := ⟨⟨by decide +kernel, by decide +kernel⟩, List.mem_of_getElem? (i := 663) (by decide +kernel), List.mem_of_getElem? (i := 818) (by decide +kernel), List.mem_of_getElem? (i := 819) (by decide +kernel)⟩
theorem lw_p19 : lw_okq (⟨"ThinSheetsModel", "sees", "(I)V"⟩, 34) := ⟨⟨by decide +kernel, by decide +kernel⟩, List.mem_of_getElem? (i := 663) (by decide +kernel), List.mem_of_getElem? (i := 822) (by decide +kernel), List.mem_of_getElem? (i := 823) (by decide +kernel)⟩
theorem lw_p20 : lw_okq (⟨"ThinSheetsModel", "looks", "(I)V"⟩, 34) := ⟨⟨by decide +kernel, by decide +kernel⟩, List.mem_of_getElem? (i := 663) (by decide +kernel), List.mem_of_getElem? (i := 826) (by decide +kernel), List.mem_of_getElem? (i := 827) (by decide +kernel)⟩
theorem lw_p21 : lw_okq (⟨"ThinSheetsModel", "becomes", "(III)V"⟩, 34) := ⟨⟨by decide +kernel, by decide +kernel⟩, List.mem_of_getElem? (i := 663) (by decide +kernel), List.mem_of_getElem? (i := 830) (by decide +kernel), List.mem_of_getElem? (i := 831) (by decide +kernel)⟩
theorem lw_p22 : lw_okq (⟨"ThinSheetsModel", "writes", "(III)V"⟩, 34) := ⟨⟨by decide +kernel, by decide +kernel⟩, List.mem_of_getElem? (i := 663) (by decide +kernel), List.mem_of_getElem? (i := 834) (by decide +kernel), List.mem_of_getElem? (i := 835) (by decide +kernel)⟩
theorem lw_p23 : lw_okq (⟨"ThinSheetsModel", "isSheet", "(I)Z"⟩, 34) := ⟨⟨by decide +kernel, by decide +kernel⟩, List.mem_of_getElem? (i := 663) (by decide +kernel), List.mem_of_getElem? (i := 846) (by decide +kernel), List.mem_of_getElem? (i := 847) (by decide +kernel)⟩
theorem lw_p24 : lw_okq (⟨"ThinSheetsModel", "isThere", "(I)Z"⟩, 34) := ⟨⟨by decide +kernel, by decide +kernel⟩, List.mem_of_getElem? (i := 663) (by decide +kernel), List.mem_of_getElem? (i := 850) (by decide +kernel), List.mem_of_getElem? (i := 851) (by decide +kernel)⟩
theorem lw_p25 : lw_okq (⟨"ThinSheetsModel", "copied", "(III)I"⟩, 34) := ⟨⟨by decide +kernel, by decide +kernel⟩, List.mem_of_getElem? (i := 663) (by decide +kernel), List.mem_of_getElem? (i := 854) (by decide +kernel), List.mem_of_getElem? (i := 855) (by decide +kernel)⟩
theorem lw_p26 : lw_okq (⟨"ThinSheetsModel", "unlike", "(II)I"⟩, 34) := ⟨⟨by decide +kernel, by decide +kernel⟩, List.mem_of_getElem? (i := 663) (by decide +kernel), List.mem_of_getElem? (i := 866) (by decide +kernel), List.mem_of_getElem? (i := 867) (by decide +kernel)⟩
theorem lw_p27 : lw_okq (⟨"ThinSheetsModel", "tells", "(II)V"⟩, 34) := ⟨⟨by decide +kernel, by decide +kernel⟩, List.mem_of_getElem? (i := 663) (by decide +kernel), List.mem_of_getElem? (i := 886) (by decide +kernel), List.mem_of_getElem? (i := 887) (by decide +kernel)⟩
theorem lw_p28 : lw_okq (⟨"ThinSheetsModel", "canTouch", "(I)Z"⟩, 34) := ⟨⟨by decide +kernel, by decide +kernel⟩, List.mem_of_getElem? (i := 663) (by decide +kernel), List.mem_of_getElem? (i := 898) (by decide +kernel), List.mem_of_getElem? (i := 899) (by decide +kernel)⟩
theorem lw_p29 : lw_okq (⟨"ThinSheetsModel", "seizes", "(II)I"⟩, 34) := ⟨⟨by decide +kernel, by decide +kernel⟩, List.mem_of_getElem? (i := 663) (by decide +kernel), List.mem_of_getElem? (i := 937) (by decide +kernel), List.mem_of_getElem? (i := 938) (by decide +kernel)⟩
theorem lw_p30 : lw_okq (⟨"ThinSheetsModel", "passes", "()V"⟩, 34) := ⟨⟨by decide +kernel, by decide +kernel⟩, List.mem_of_getElem? (i := 663) (by decide +kernel), List.mem_of_getElem? (i := 969) (by decide +kernel), List.mem_of_getElem? (i := 970) (by decide +kernel)⟩
theorem lw_p31 : lw_okq (⟨"ThinSheetsModel", "named", "(I)I"⟩, 34) := ⟨⟨by decide +kernel, by decide +kernel⟩, List.mem_of_getElem? (i := 663) (by decide +kernel), List.mem_of_getElem? (i := 985) (by decide +kernel), List.mem_of_getElem? (i := 986) (by decide +kernel)⟩
def lw_privs_2 : List (MethodName × Nat) := [(⟨"ThinSheetsModel", "isFree", "(I)Z"⟩, 34), (⟨"ThinSheetsModel", "adds", "(IIIII)I"⟩, 34), (⟨"ThinSheetsModel", "comes", "(II)V"⟩, 34), (⟨"ThinSheetsModel", "sees", "(I)V"⟩, 34), (⟨"ThinSheetsModel", "looks", "(I)V"⟩, 34), (⟨"ThinSheetsModel", "becomes", "(III)V"⟩, 34), (⟨"ThinSheetsModel", "writes", "(III)V"⟩, 34), (⟨"ThinSheetsModel", "isSheet", "(I)Z"⟩, 34), (⟨"ThinSheetsModel", "isThere", "(I)Z"⟩, 34), (⟨"ThinSheetsModel", "copied", "(III)I"⟩, 34), (⟨"ThinSheetsModel", "unlike", "(II)I"⟩, 34), (⟨"ThinSheetsModel", "tells", "(II)V"⟩, 34), (⟨"ThinSheetsModel", "canTouch", "(I)Z"⟩, 34), (⟨"ThinSheetsModel", "seizes", "(II)I"⟩, 34), (⟨"ThinSheetsModel", "passes", "()V"⟩, 34), (⟨"ThinSheetsModel", "named", "(I)I"⟩, 34)]
theorem lw_r2 : ∀ q ∈ lw_privs_2, lw_okq q := List.forall_mem_cons.mpr ⟨lw_p16, List.forall_mem_cons.mpr ⟨lw_p17, List.forall_mem_cons.mpr ⟨lw_p18, List.forall_mem_cons.mpr ⟨lw_p19, List.forall_mem_cons.mpr ⟨lw_p20, List.forall_mem_cons.mpr ⟨lw_p21, List.forall_mem_cons.mpr ⟨lw_p22, List.forall_mem_cons.mpr ⟨lw_p23, List.forall_mem_cons.mpr ⟨lw_p24, List.forall_mem_cons.mpr ⟨lw_p25, List.forall_mem_cons.mpr ⟨lw_p26, List.forall_mem_cons.mpr ⟨lw_p27, List.forall_mem_cons.mpr ⟨lw_p28, List.forall_mem_cons.mpr ⟨lw_p29, List.forall_mem_cons.mpr ⟨lw_p30, List.forall_mem_cons.mpr ⟨lw_p31, fun _ h => absurd h List.not_mem_nil⟩⟩⟩⟩⟩⟩⟩⟩⟩⟩⟩⟩⟩⟩⟩⟩
def lw_privs : List (MethodName × Nat) := lw_privs_1 ++ (lw_privs_2)
def lw_tbl : List Cond := k2_sels lw_privs ++ tables_1
theorem lw_privs_ok : ∀ q ∈ lw_privs, lw_okq q := by
  show ∀ q ∈ lw_privs_1 ++ (lw_privs_2), lw_okq q
  exact List.forall_mem_append.mpr ⟨lw_r1, lw_r2⟩
def RX0 : String := "ThinSheets$Archive"
def TX0 : u_T := fun k => match k with
  | 0 => ("ThinSheets$Archive", "isOpen", "Z", false)
  | 1 => ("ThinSheets$Archive", "count", "I", false)
  | 2 => ("ThinSheets$Archive", "nights", "[I", true)
  | 3 => ("ThinSheets$Archive", "kinds", "[I", true)
  | 4 => ("ThinSheets$Archive", "doers", "[I", true)
  | _ => ("ThinSheets$Archive", "subjects", "[I", true)
def tyX0 : Nat → FieldType := fun k => match k with
  | 0 => .boolean
  | 1 => .int
  | 2 => .array .int
  | 3 => .array .int
  | 4 => .array .int
  | _ => .array .int
abbrev wsX00 : List Cond := u_ws RX0 TX0 6
theorem nmX0 : ∀ a, a < 6 → ∀ b, b < 6 → a ≠ b → (TX0 a).2.1 ≠ (TX0 b).2.1 := by decide +kernel
theorem tyX0_ok : ∀ k, k < 6 → parseFieldDescriptor (TX0 k).2.2.1 = some (tyX0 k) := by decide +kernel
abbrev cX0_init : ByteArray := prog_2_method_1_code
def yX0_init : MethodName := ⟨RX0, "<init>", "()V"⟩
abbrev cX0_add : ByteArray := prog_2_method_2_code
def yX0_add : MethodName := ⟨RX0, "add", "(IIII)V"⟩
abbrev cX0_tellsKnown : ByteArray := prog_2_method_3_code
def yX0_tellsKnown : MethodName := ⟨RX0, "tellsKnown", "(I)Z"⟩
def RX1 : String := "ThinSheets$Machines"
def TX1 : u_T := fun k => match k with
  | 0 => ("ThinSheets$Machines", "holders", "[I", true)
  | 1 => ("ThinSheets$Machines", "noted", "[I", true)
  | 2 => ("ThinSheets$Machines", "seen", "[Z", true)
  | _ => ("ThinSheets$Machines", "seized", "[Z", true)
def tyX1 : Nat → FieldType := fun k => match k with
  | 0 => .array .int
  | 1 => .array .int
  | 2 => .array .boolean
  | _ => .array .boolean
abbrev wsX10 : List Cond := u_ws RX1 TX1 4
theorem nmX1 : ∀ a, a < 4 → ∀ b, b < 4 → a ≠ b → (TX1 a).2.1 ≠ (TX1 b).2.1 := by decide +kernel
theorem tyX1_ok : ∀ k, k < 4 → parseFieldDescriptor (TX1 k).2.2.1 = some (tyX1 k) := by decide +kernel
abbrev cX1_init : ByteArray := prog_3_method_1_code
def yX1_init : MethodName := ⟨RX1, "<init>", "()V"⟩
def RX2 : String := "ThinSheets$People"
def TX2 : u_T := fun k => match k with
  | 0 => ("ThinSheets$People", "arrested", "I", false)
  | 1 => ("ThinSheets$People", "informers", "I", false)
  | 2 => ("ThinSheets$People", "known", "I", false)
  | 3 => ("ThinSheets$People", "acquaintances", "[I", true)
  | 4 => ("ThinSheets$People", "strength", "[I", true)
  | 5 => ("ThinSheets$People", "arrestNights", "[I", true)
  | _ => ("ThinSheets$People", "isNamed", "[Z", true)
def tyX2 : Nat → FieldType := fun k => match k with
  | 0 => .int
  | 1 => .int
  | 2 => .int
  | 3 => .array .int
  | 4 => .array .int
  | 5 => .array .int
  | _ => .array .boolean
abbrev wsX20 : List Cond := u_ws RX2 TX2 7
theorem nmX2 : ∀ a, a < 7 → ∀ b, b < 7 → a ≠ b → (TX2 a).2.1 ≠ (TX2 b).2.1 := by decide +kernel
theorem tyX2_ok : ∀ k, k < 7 → parseFieldDescriptor (TX2 k).2.2.1 = some (tyX2 k) := by decide +kernel
abbrev cX2_init : ByteArray := prog_4_method_1_code
def yX2_init : MethodName := ⟨RX2, "<init>", "()V"⟩
abbrev cX2_isFree : ByteArray := prog_4_method_2_code
def yX2_isFree : MethodName := ⟨RX2, "isFree", "(I)Z"⟩
abbrev cX2_isInformer : ByteArray := prog_4_method_3_code
def yX2_isInformer : MethodName := ⟨RX2, "isInformer", "(I)Z"⟩
abbrev cX2_isListed : ByteArray := prog_4_method_4_code
def yX2_isListed : MethodName := ⟨RX2, "isListed", "(I)Z"⟩
abbrev cX2_areAcquainted : ByteArray := prog_4_method_5_code
def yX2_areAcquainted : MethodName := ⟨RX2, "areAcquainted", "(II)Z"⟩
abbrev cX2_acquaint : ByteArray := prog_4_method_6_code
def yX2_acquaint : MethodName := ⟨RX2, "acquaint", "(II)V"⟩
abbrev cX2_opensIn : ByteArray := prog_4_method_7_code
def yX2_opensIn : MethodName := ⟨RX2, "opensIn", "(II)Z"⟩
abbrev cX2_lowestUnknown : ByteArray := prog_4_method_8_code
def yX2_lowestUnknown : MethodName := ⟨RX2, "lowestUnknown", "(II)I"⟩
def RX3 : String := "ThinSheets$Sheets"
def TX3 : u_T := fun k => match k with
  | 0 => ("ThinSheets$Sheets", "count", "I", false)
  | 1 => ("ThinSheets$Sheets", "batches", "I", false)
  | 2 => ("ThinSheets$Sheets", "texts", "[I", true)
  | 3 => ("ThinSheets$Sheets", "batchOf", "[I", true)
  | 4 => ("ThinSheets$Sheets", "copies", "[I", true)
  | 5 => ("ThinSheets$Sheets", "sources", "[I", true)
  | 6 => ("ThinSheets$Sheets", "machines", "[I", true)
  | 7 => ("ThinSheets$Sheets", "holders", "[I", true)
  | 8 => ("ThinSheets$Sheets", "seized", "[Z", true)
  | 9 => ("ThinSheets$Sheets", "hours", "[I", true)
  | 10 => ("ThinSheets$Sheets", "everHad", "[I", true)
  | _ => ("ThinSheets$Sheets", "readings", "[[I", true)
def tyX3 : Nat → FieldType := fun k => match k with
  | 0 => .int
  | 1 => .int
  | 2 => .array .int
  | 3 => .array .int
  | 4 => .array .int
  | 5 => .array .int
  | 6 => .array .int
  | 7 => .array .int
  | 8 => .array .boolean
  | 9 => .array .int
  | 10 => .array .int
  | _ => .array (.array .int)
abbrev wsX30 : List Cond := u_ws RX3 TX3 12
theorem nmX3 : ∀ a, a < 12 → ∀ b, b < 12 → a ≠ b → (TX3 a).2.1 ≠ (TX3 b).2.1 := by decide +kernel
theorem tyX3_ok : ∀ k, k < 12 → parseFieldDescriptor (TX3 k).2.2.1 = some (tyX3 k) := by decide +kernel
abbrev cX3_init : ByteArray := prog_5_method_1_code
def yX3_init : MethodName := ⟨RX3, "<init>", "()V"⟩
abbrev cX3_add : ByteArray := prog_5_method_2_code
def yX3_add : MethodName := ⟨RX3, "add", "(IIII)I"⟩
abbrev cX3_anyOf : ByteArray := prog_5_method_3_code
def yX3_anyOf : MethodName := ⟨RX3, "anyOf", "(I)Z"⟩
abbrev cX3_couldBeParent : ByteArray := prog_5_method_4_code
def yX3_couldBeParent : MethodName := ⟨RX3, "couldBeParent", "(II)Z"⟩
abbrev cX3_canVote : ByteArray := prog_5_method_5_code
def yX3_canVote : MethodName := ⟨RX3, "canVote", "(III)Z"⟩
abbrev cX3_distance : ByteArray := prog_5_method_6_code
def yX3_distance : MethodName := ⟨RX3, "distance", "(II)I"⟩
abbrev cX3_distanceAt : ByteArray := prog_5_method_7_code
def yX3_distanceAt : MethodName := ⟨RX3, "distanceAt", "(II)I"⟩
def RX4 : String := "ThinSheets$Slips"
def TX4 : u_T := fun k => match k with
  | 0 => ("ThinSheets$Slips", "kinds", "[I", true)
  | _ => ("ThinSheets$Slips", "words", "[I", true)
def tyX4 : Nat → FieldType := fun k => match k with
  | 0 => .array .int
  | _ => .array .int
abbrev wsX40 : List Cond := u_ws RX4 TX4 2
theorem nmX4 : ∀ a, a < 2 → ∀ b, b < 2 → a ≠ b → (TX4 a).2.1 ≠ (TX4 b).2.1 := by decide +kernel
theorem tyX4_ok : ∀ k, k < 2 → parseFieldDescriptor (TX4 k).2.2.1 = some (tyX4 k) := by decide +kernel
abbrev cX4_init : ByteArray := prog_6_method_1_code
def yX4_init : MethodName := ⟨RX4, "<init>", "()V"⟩
abbrev cX4_forget : ByteArray := prog_6_method_2_code
def yX4_forget : MethodName := ⟨RX4, "forget", "()V"⟩
abbrev cX4_countPlaces : ByteArray := prog_6_method_3_code
def yX4_countPlaces : MethodName := ⟨RX4, "countPlaces", "()I"⟩
abbrev cX4_apply : ByteArray := prog_6_method_4_code
def yX4_apply : MethodName := ⟨RX4, "apply", "(II)I"⟩
def RX5 : String := "ThinSheets"
def TX5 : u_T := fun k => match k with
  | 0 => ("ThinSheets", "words", "[[I", true)
  | 1 => ("ThinSheets", "slips", "LThinSheets$Slips;", true)
  | 2 => ("ThinSheets", "sheets", "LThinSheets$Sheets;", true)
  | 3 => ("ThinSheets", "people", "LThinSheets$People;", true)
  | 4 => ("ThinSheets", "machines", "LThinSheets$Machines;", true)
  | 5 => ("ThinSheets", "archive", "LThinSheets$Archive;", true)
  | 6 => ("ThinSheets", "votes", "[I", true)
  | _ => ("ThinSheets", "night", "I", false)
def tyX5 : Nat → FieldType := fun k => match k with
  | 0 => .array (.array .int)
  | 1 => .object "ThinSheets$Slips"
  | 2 => .object "ThinSheets$Sheets"
  | 3 => .object "ThinSheets$People"
  | 4 => .object "ThinSheets$Machines"
  | 5 => .object "ThinSheets$Archive"
  | 6 => .array .int
  | _ => .int
abbrev wsX50 : List Cond := u_ws RX5 TX5 8
theorem nmX5 : ∀ a, a < 8 → ∀ b, b < 8 → a ≠ b → (TX5 a).2.1 ≠ (TX5 b).2.1 := by decide +kernel
theorem tyX5_ok : ∀ k, k < 8 → parseFieldDescriptor (TX5 k).2.2.1 = some (tyX5 k) := by decide +kernel
abbrev cX5_init : ByteArray := prog_1_method_1_code
def yX5_init : MethodName := ⟨RX5, "<init>", "()V"⟩
abbrev cX5_word : ByteArray := prog_1_method_2_code
def yX5_word : MethodName := ⟨RX5, "word", "(III)I"⟩
abbrev cX5_write : ByteArray := prog_1_method_3_code
def yX5_write : MethodName := ⟨RX5, "write", "(III)I"⟩
abbrev cX5_slip : ByteArray := prog_1_method_4_code
def yX5_slip : MethodName := ⟨RX5, "slip", "(III)I"⟩
abbrev cX5_type : ByteArray := prog_1_method_5_code
def yX5_type : MethodName := ⟨RX5, "type", "(III)I"⟩
abbrev cX5_reading : ByteArray := prog_1_method_6_code
def yX5_reading : MethodName := ⟨RX5, "reading", "(II)I"⟩
abbrev cX5_unlikely : ByteArray := prog_1_method_7_code
def yX5_unlikely : MethodName := ⟨RX5, "unlikely", "(II)I"⟩
abbrev cX5_likeliest : ByteArray := prog_1_method_8_code
def yX5_likeliest : MethodName := ⟨RX5, "likeliest", "(I)I"⟩
abbrev cX5_restored : ByteArray := prog_1_method_9_code
def yX5_restored : MethodName := ⟨RX5, "restored", "(II)I"⟩
abbrev cX5_sheetIs : ByteArray := prog_1_method_10_code
def yX5_sheetIs : MethodName := ⟨RX5, "sheetIs", "(II)I"⟩
abbrev cX5_meet : ByteArray := prog_1_method_11_code
def yX5_meet : MethodName := ⟨RX5, "meet", "(II)Z"⟩
abbrev cX5_give : ByteArray := prog_1_method_12_code
def yX5_give : MethodName := ⟨RX5, "give", "(II)I"⟩
abbrev cX5_hide : ByteArray := prog_1_method_13_code
def yX5_hide : MethodName := ⟨RX5, "hide", "(II)I"⟩
abbrev cX5_burn : ByteArray := prog_1_method_14_code
def yX5_burn : MethodName := ⟨RX5, "burn", "(I)V"⟩
abbrev cX5_whoHad : ByteArray := prog_1_method_15_code
def yX5_whoHad : MethodName := ⟨RX5, "whoHad", "(III)I"⟩
abbrev cX5_knows : ByteArray := prog_1_method_16_code
def yX5_knows : MethodName := ⟨RX5, "knows", "(I)I"⟩
abbrev cX5_lend : ByteArray := prog_1_method_17_code
def yX5_lend : MethodName := ⟨RX5, "lend", "(II)I"⟩
abbrev cX5_file : ByteArray := prog_1_method_18_code
def yX5_file : MethodName := ⟨RX5, "file", "(I)I"⟩
abbrev cX5_informer : ByteArray := prog_1_method_19_code
def yX5_informer : MethodName := ⟨RX5, "informer", "(I)I"⟩
abbrev cX5_strong : ByteArray := prog_1_method_20_code
def yX5_strong : MethodName := ⟨RX5, "strong", "(II)I"⟩
abbrev cX5_arrest : ByteArray := prog_1_method_21_code
def yX5_arrest : MethodName := ⟨RX5, "arrest", "(I)I"⟩
abbrev cX5_search : ByteArray := prog_1_method_22_code
def yX5_search : MethodName := ⟨RX5, "search", "(II)I"⟩
abbrev cX5_amnesty : ByteArray := prog_1_method_23_code
def yX5_amnesty : MethodName := ⟨RX5, "amnesty", "()I"⟩
abbrev cX5_isKnown : ByteArray := prog_1_method_24_code
def yX5_isKnown : MethodName := ⟨RX5, "isKnown", "(I)Z"⟩
abbrev cX5_isKnownAnew : ByteArray := prog_1_method_25_code
def yX5_isKnownAnew : MethodName := ⟨RX5, "isKnownAnew", "(I)Z"⟩
abbrev cX5_risk : ByteArray := prog_1_method_26_code
def yX5_risk : MethodName := ⟨RX5, "risk", "(II)I"⟩
abbrev cX5_pass : ByteArray := prog_1_method_27_code
def yX5_pass : MethodName := ⟨RX5, "pass", "(I)I"⟩
abbrev cX5_life : ByteArray := prog_1_method_28_code
def yX5_life : MethodName := ⟨RX5, "life", "(IZZ)V"⟩
abbrev cX5_open : ByteArray := prog_1_method_29_code
def yX5_open : MethodName := ⟨RX5, "open", "()I"⟩
abbrev cX5_line : ByteArray := prog_1_method_30_code
def yX5_line : MethodName := ⟨RX5, "line", "(II)I"⟩
abbrev cX5_needIndex : ByteArray := prog_1_method_31_code
def yX5_needIndex : MethodName := ⟨RX5, "needIndex", "(II)V"⟩
abbrev cX5_needArgument : ByteArray := prog_1_method_32_code
def yX5_needArgument : MethodName := ⟨RX5, "needArgument", "(Z)V"⟩
abbrev cX5_needState : ByteArray := prog_1_method_33_code
def yX5_needState : MethodName := ⟨RX5, "needState", "(Z)V"⟩
abbrev cX5_bit : ByteArray := prog_1_method_34_code
def yX5_bit : MethodName := ⟨RX5, "bit", "(I)I"⟩
abbrev cX5_canType : ByteArray := prog_1_method_35_code
def yX5_canType : MethodName := ⟨RX5, "canType", "(II)Z"⟩
abbrev cX5_makeCopy : ByteArray := prog_1_method_36_code
def yX5_makeCopy : MethodName := ⟨RX5, "makeCopy", "(III)I"⟩
abbrev cX5_bringTo : ByteArray := prog_1_method_37_code
def yX5_bringTo : MethodName := ⟨RX5, "bringTo", "(II)V"⟩
abbrev cX5_castVotes : ByteArray := prog_1_method_38_code
def yX5_castVotes : MethodName := ⟨RX5, "castVotes", "(II)V"⟩
abbrev cX5_countVotes : ByteArray := prog_1_method_39_code
def yX5_countVotes : MethodName := ⟨RX5, "countVotes", "(I)I"⟩
abbrev cX5_tellOf : ByteArray := prog_1_method_40_code
def yX5_tellOf : MethodName := ⟨RX5, "tellOf", "(II)V"⟩
abbrev cX5_noteKnown : ByteArray := prog_1_method_41_code
def yX5_noteKnown : MethodName := ⟨RX5, "noteKnown", "(III)V"⟩
abbrev cX5_see : ByteArray := prog_1_method_42_code
def yX5_see : MethodName := ⟨RX5, "see", "(I)V"⟩
abbrev cX5_compareLetters : ByteArray := prog_1_method_43_code
def yX5_compareLetters : MethodName := ⟨RX5, "compareLetters", "(I)V"⟩
abbrev cX5_seizeSheets : ByteArray := prog_1_method_44_code
def yX5_seizeSheets : MethodName := ⟨RX5, "seizeSheets", "(II)I"⟩
abbrev cX5_seizeMachines : ByteArray := prog_1_method_45_code
def yX5_seizeMachines : MethodName := ⟨RX5, "seizeMachines", "(I)V"⟩
abbrev cX5_openOne : ByteArray := prog_1_method_46_code
def yX5_openOne : MethodName := ⟨RX5, "openOne", "(I)V"⟩
abbrev cX5_nameInArchive : ByteArray := prog_1_method_47_code
def yX5_nameInArchive : MethodName := ⟨RX5, "nameInArchive", "(I)I"⟩
def RX6 : String := "ThinSheetsModel"
def TX6 : u_T := fun k => match k with
  | 0 => ("ThinSheetsModel", "night", "I", false)
  | 1 => ("ThinSheetsModel", "word", "[I", true)
  | 2 => ("ThinSheetsModel", "sheets", "I", false)
  | 3 => ("ThinSheetsModel", "batches", "I", false)
  | 4 => ("ThinSheetsModel", "text", "[I", true)
  | 5 => ("ThinSheetsModel", "reading", "[I", true)
  | 6 => ("ThinSheetsModel", "batch", "[I", true)
  | 7 => ("ThinSheetsModel", "copy", "[I", true)
  | 8 => ("ThinSheetsModel", "parent", "[I", true)
  | 9 => ("ThinSheetsModel", "machineOf", "[I", true)
  | 10 => ("ThinSheetsModel", "with", "[I", true)
  | 11 => ("ThinSheetsModel", "isSeized", "[Z", true)
  | 12 => ("ThinSheetsModel", "hours", "[I", true)
  | 13 => ("ThinSheetsModel", "had", "[I", true)
  | 14 => ("ThinSheetsModel", "slip", "[I", true)
  | 15 => ("ThinSheetsModel", "slipWord", "[I", true)
  | 16 => ("ThinSheetsModel", "knows", "[I", true)
  | 17 => ("ThinSheetsModel", "arrested", "I", false)
  | 18 => ("ThinSheetsModel", "informers", "I", false)
  | 19 => ("ThinSheetsModel", "known", "I", false)
  | 20 => ("ThinSheetsModel", "strong", "[I", true)
  | 21 => ("ThinSheetsModel", "since", "[I", true)
  | 22 => ("ThinSheetsModel", "alive", "I", false)
  | 23 => ("ThinSheetsModel", "consent", "I", false)
  | 24 => ("ThinSheetsModel", "at", "[I", true)
  | 25 => ("ThinSheetsModel", "noted", "[I", true)
  | 26 => ("ThinSheetsModel", "wasSeen", "[Z", true)
  | 27 => ("ThinSheetsModel", "isGone", "[Z", true)
  | 28 => ("ThinSheetsModel", "lines", "I", false)
  | 29 => ("ThinSheetsModel", "line", "[I", true)
  | 30 => ("ThinSheetsModel", "isOpen", "Z", false)
  | 31 => ("ThinSheetsModel", "votes", "[I", true)
  | 32 => ("ThinSheetsModel", "earliest", "[I", true)
  | _ => ("ThinSheetsModel", "thrown", "I", false)
def tyX6 : Nat → FieldType := fun k => match k with
  | 0 => .int
  | 1 => .array .int
  | 2 => .int
  | 3 => .int
  | 4 => .array .int
  | 5 => .array .int
  | 6 => .array .int
  | 7 => .array .int
  | 8 => .array .int
  | 9 => .array .int
  | 10 => .array .int
  | 11 => .array .boolean
  | 12 => .array .int
  | 13 => .array .int
  | 14 => .array .int
  | 15 => .array .int
  | 16 => .array .int
  | 17 => .int
  | 18 => .int
  | 19 => .int
  | 20 => .array .int
  | 21 => .array .int
  | 22 => .int
  | 23 => .int
  | 24 => .array .int
  | 25 => .array .int
  | 26 => .array .boolean
  | 27 => .array .boolean
  | 28 => .int
  | 29 => .array .int
  | 30 => .boolean
  | 31 => .array .int
  | 32 => .array .int
  | _ => .int
abbrev wsX60 : List Cond := u_ws RX6 TX6 34
theorem nmX6 : ∀ a, a < 34 → ∀ b, b < 34 → a ≠ b → (TX6 a).2.1 ≠ (TX6 b).2.1 := by decide +kernel
theorem tyX6_ok : ∀ k, k < 34 → parseFieldDescriptor (TX6 k).2.2.1 = some (tyX6 k) := by decide +kernel
abbrev cX6_init : ByteArray := prog_8_method_1_code
def yX6_init : MethodName := ⟨RX6, "<init>", "()V"⟩
abbrev cX6_thrown : ByteArray := prog_8_method_2_code
def yX6_thrown : MethodName := ⟨RX6, "thrown", "()I"⟩
abbrev cX6_fails : ByteArray := prog_8_method_3_code
def yX6_fails : MethodName := ⟨RX6, "fails", "(I)Z"⟩
abbrev cX6_isIn : ByteArray := prog_8_method_4_code
def yX6_isIn : MethodName := ⟨RX6, "isIn", "(III)Z"⟩
abbrev cX6_isText : ByteArray := prog_8_method_5_code
def yX6_isText : MethodName := ⟨RX6, "isText", "(I)Z"⟩
abbrev cX6_isPlace : ByteArray := prog_8_method_6_code
def yX6_isPlace : MethodName := ⟨RX6, "isPlace", "(I)Z"⟩
abbrev cX6_isPerson : ByteArray := prog_8_method_7_code
def yX6_isPerson : MethodName := ⟨RX6, "isPerson", "(I)Z"⟩
abbrev cX6_isMachine : ByteArray := prog_8_method_8_code
def yX6_isMachine : MethodName := ⟨RX6, "isMachine", "(I)Z"⟩
abbrev cX6_isSheet : ByteArray := prog_8_method_9_code
def yX6_isSheet : MethodName := ⟨RX6, "isSheet", "(I)Z"⟩
abbrev cX6_holds : ByteArray := prog_8_method_10_code
def yX6_holds : MethodName := ⟨RX6, "holds", "(II)Z"⟩
abbrev cX6_isFree : ByteArray := prog_8_method_11_code
def yX6_isFree : MethodName := ⟨RX6, "isFree", "(I)Z"⟩
abbrev cX6_writes : ByteArray := prog_8_method_12_code
def yX6_writes : MethodName := ⟨RX6, "writes", "(III)V"⟩
abbrev cX6_becomes : ByteArray := prog_8_method_13_code
def yX6_becomes : MethodName := ⟨RX6, "becomes", "(III)V"⟩
abbrev cX6_looks : ByteArray := prog_8_method_14_code
def yX6_looks : MethodName := ⟨RX6, "looks", "(I)V"⟩
abbrev cX6_sees : ByteArray := prog_8_method_15_code
def yX6_sees : MethodName := ⟨RX6, "sees", "(I)V"⟩
abbrev cX6_comes : ByteArray := prog_8_method_16_code
def yX6_comes : MethodName := ⟨RX6, "comes", "(II)V"⟩
abbrev cX6_hasSheets : ByteArray := prog_8_method_17_code
def yX6_hasSheets : MethodName := ⟨RX6, "hasSheets", "(I)Z"⟩
abbrev cX6_word : ByteArray := prog_8_method_18_code
def yX6_word : MethodName := ⟨RX6, "word", "(III)I"⟩
abbrev cX6_adds : ByteArray := prog_8_method_19_code
def yX6_adds : MethodName := ⟨RX6, "adds", "(IIIII)I"⟩
abbrev cX6_write : ByteArray := prog_8_method_20_code
def yX6_write : MethodName := ⟨RX6, "write", "(III)I"⟩
abbrev cX6_slip : ByteArray := prog_8_method_21_code
def yX6_slip : MethodName := ⟨RX6, "slip", "(III)I"⟩
abbrev cX6_copied : ByteArray := prog_8_method_22_code
def yX6_copied : MethodName := ⟨RX6, "copied", "(III)I"⟩
abbrev cX6_isThere : ByteArray := prog_8_method_23_code
def yX6_isThere : MethodName := ⟨RX6, "isThere", "(I)Z"⟩
abbrev cX6_type : ByteArray := prog_8_method_24_code
def yX6_type : MethodName := ⟨RX6, "type", "(III)I"⟩
abbrev cX6_reading : ByteArray := prog_8_method_25_code
def yX6_reading : MethodName := ⟨RX6, "reading", "(II)I"⟩
abbrev cX6_unlike : ByteArray := prog_8_method_26_code
def yX6_unlike : MethodName := ⟨RX6, "unlike", "(II)I"⟩
abbrev cX6_unlikely : ByteArray := prog_8_method_27_code
def yX6_unlikely : MethodName := ⟨RX6, "unlikely", "(II)I"⟩
abbrev cX6_likeliest : ByteArray := prog_8_method_28_code
def yX6_likeliest : MethodName := ⟨RX6, "likeliest", "(I)I"⟩
abbrev cX6_restored : ByteArray := prog_8_method_29_code
def yX6_restored : MethodName := ⟨RX6, "restored", "(II)I"⟩
abbrev cX6_sheetIs : ByteArray := prog_8_method_30_code
def yX6_sheetIs : MethodName := ⟨RX6, "sheetIs", "(II)I"⟩
abbrev cX6_tells : ByteArray := prog_8_method_31_code
def yX6_tells : MethodName := ⟨RX6, "tells", "(II)V"⟩
abbrev cX6_meet : ByteArray := prog_8_method_32_code
def yX6_meet : MethodName := ⟨RX6, "meet", "(II)Z"⟩
abbrev cX6_give : ByteArray := prog_8_method_33_code
def yX6_give : MethodName := ⟨RX6, "give", "(II)I"⟩
abbrev cX6_canTouch : ByteArray := prog_8_method_34_code
def yX6_canTouch : MethodName := ⟨RX6, "canTouch", "(I)Z"⟩
abbrev cX6_hide : ByteArray := prog_8_method_35_code
def yX6_hide : MethodName := ⟨RX6, "hide", "(II)I"⟩
abbrev cX6_burn : ByteArray := prog_8_method_36_code
def yX6_burn : MethodName := ⟨RX6, "burn", "(I)V"⟩
abbrev cX6_whoHad : ByteArray := prog_8_method_37_code
def yX6_whoHad : MethodName := ⟨RX6, "whoHad", "(III)I"⟩
abbrev cX6_knows : ByteArray := prog_8_method_38_code
def yX6_knows : MethodName := ⟨RX6, "knows", "(I)I"⟩
abbrev cX6_lend : ByteArray := prog_8_method_39_code
def yX6_lend : MethodName := ⟨RX6, "lend", "(II)I"⟩
abbrev cX6_file : ByteArray := prog_8_method_40_code
def yX6_file : MethodName := ⟨RX6, "file", "(I)I"⟩
abbrev cX6_count : ByteArray := prog_8_method_41_code
def yX6_count : MethodName := ⟨RX6, "count", "(I)I"⟩
abbrev cX6_informer : ByteArray := prog_8_method_42_code
def yX6_informer : MethodName := ⟨RX6, "informer", "(I)I"⟩
abbrev cX6_strong : ByteArray := prog_8_method_43_code
def yX6_strong : MethodName := ⟨RX6, "strong", "(II)I"⟩
abbrev cX6_seizes : ByteArray := prog_8_method_44_code
def yX6_seizes : MethodName := ⟨RX6, "seizes", "(II)I"⟩
abbrev cX6_arrest : ByteArray := prog_8_method_45_code
def yX6_arrest : MethodName := ⟨RX6, "arrest", "(I)I"⟩
abbrev cX6_search : ByteArray := prog_8_method_46_code
def yX6_search : MethodName := ⟨RX6, "search", "(II)I"⟩
abbrev cX6_amnesty : ByteArray := prog_8_method_47_code
def yX6_amnesty : MethodName := ⟨RX6, "amnesty", "()I"⟩
abbrev cX6_isKnown : ByteArray := prog_8_method_48_code
def yX6_isKnown : MethodName := ⟨RX6, "isKnown", "(I)Z"⟩
abbrev cX6_isKnownAnew : ByteArray := prog_8_method_49_code
def yX6_isKnownAnew : MethodName := ⟨RX6, "isKnownAnew", "(I)Z"⟩
abbrev cX6_lowest : ByteArray := prog_8_method_50_code
def yX6_lowest : MethodName := ⟨RX6, "lowest", "(I)I"⟩
abbrev cX6_risk : ByteArray := prog_8_method_51_code
def yX6_risk : MethodName := ⟨RX6, "risk", "(II)I"⟩
abbrev cX6_passes : ByteArray := prog_8_method_52_code
def yX6_passes : MethodName := ⟨RX6, "passes", "()V"⟩
abbrev cX6_pass : ByteArray := prog_8_method_53_code
def yX6_pass : MethodName := ⟨RX6, "pass", "(I)I"⟩
abbrev cX6_life : ByteArray := prog_8_method_54_code
def yX6_life : MethodName := ⟨RX6, "life", "(IZZ)V"⟩
abbrev cX6_open : ByteArray := prog_8_method_55_code
def yX6_open : MethodName := ⟨RX6, "open", "()I"⟩
abbrev cX6_named : ByteArray := prog_8_method_56_code
def yX6_named : MethodName := ⟨RX6, "named", "(I)I"⟩
abbrev cX6_line : ByteArray := prog_8_method_57_code
def yX6_line : MethodName := ⟨RX6, "line", "(II)I"⟩
def RJx145de : String := "java/io/Serializable"
def TJx145de : u_T := fun k => match k with
  | _ => ("", "", "", false)
def tyJx145de : Nat → FieldType := fun k => match k with
  | _ => .int
abbrev wsJx145de0 : List Cond := u_ws RJx145de TJx145de 0
theorem nmJx145de : ∀ a, a < 0 → ∀ b, b < 0 → a ≠ b → (TJx145de a).2.1 ≠ (TJx145de b).2.1 := by decide +kernel
theorem tyJx145de_ok : ∀ k, k < 0 → parseFieldDescriptor (TJx145de k).2.2.1 = some (tyJx145de k) := by decide +kernel
def RJ6 : String := "java/lang/Integer"
def TJ6 : u_T := fun k => match k with
  | _ => ("", "", "", false)
def tyJ6 : Nat → FieldType := fun k => match k with
  | _ => .int
abbrev wsJ60 : List Cond := u_ws RJ6 TJ6 0
theorem nmJ6 : ∀ a, a < 0 → ∀ b, b < 0 → a ≠ b → (TJ6 a).2.1 ≠ (TJ6 b).2.1 := by decide +kernel
theorem tyJ6_ok : ∀ k, k < 0 → parseFieldDescriptor (TJ6 k).2.2.1 = some (tyJ6 k) := by decide +kernel
abbrev cJ6_bitCount_0f7a4 : ByteArray := prog_13_method_49_code
def yJ6_bitCount_0f7a4 : MethodName := ⟨RJ6, "bitCount", "(I)I"⟩
def RJ0 : String := "java/lang/String"
def TJ0 : u_T := fun k => match k with
  | _ => ("", "", "", false)
def tyJ0 : Nat → FieldType := fun k => match k with
  | _ => .int
abbrev wsJ00 : List Cond := u_ws RJ0 TJ0 0
theorem nmJ0 : ∀ a, a < 0 → ∀ b, b < 0 → a ≠ b → (TJ0 a).2.1 ≠ (TJ0 b).2.1 := by decide +kernel
theorem tyJ0_ok : ∀ k, k < 0 → parseFieldDescriptor (TJ0 k).2.2.1 = some (tyJ0 k) := by decide +kernel
def RJ7 : String := "java/util/Arrays"
def TJ7 : u_T := fun k => match k with
  | _ => ("", "", "", false)
def tyJ7 : Nat → FieldType := fun k => match k with
  | _ => .int
abbrev wsJ70 : List Cond := u_ws RJ7 TJ7 0
theorem nmJ7 : ∀ a, a < 0 → ∀ b, b < 0 → a ≠ b → (TJ7 a).2.1 ≠ (TJ7 b).2.1 := by decide +kernel
theorem tyJ7_ok : ∀ k, k < 0 → parseFieldDescriptor (TJ7 k).2.2.1 = some (tyJ7 k) := by decide +kernel
abbrev cJ7_fill_53178 : ByteArray := prog_17_method_103_code
def yJ7_fill_53178 : MethodName := ⟨RJ7, "fill", "([II)V"⟩
def RL : String := "ThinSheetsLaw"
abbrev cL_word : ByteArray := method_3_code
def yL_word : MethodName := ⟨RL, "word", "(LThinSheets;III[J)I"⟩
abbrev cL_write : ByteArray := method_4_code
def yL_write : MethodName := ⟨RL, "write", "(LThinSheets;III[J)I"⟩
abbrev cL_slip : ByteArray := method_5_code
def yL_slip : MethodName := ⟨RL, "slip", "(LThinSheets;III[J)I"⟩
abbrev cL_type : ByteArray := method_6_code
def yL_type : MethodName := ⟨RL, "type", "(LThinSheets;III[J)I"⟩
abbrev cL_reading : ByteArray := method_7_code
def yL_reading : MethodName := ⟨RL, "reading", "(LThinSheets;II[J)I"⟩
abbrev cL_unlikely : ByteArray := method_8_code
def yL_unlikely : MethodName := ⟨RL, "unlikely", "(LThinSheets;II[J)I"⟩
abbrev cL_likeliest : ByteArray := method_9_code
def yL_likeliest : MethodName := ⟨RL, "likeliest", "(LThinSheets;I[J)I"⟩
abbrev cL_restored : ByteArray := method_10_code
def yL_restored : MethodName := ⟨RL, "restored", "(LThinSheets;II[J)I"⟩
abbrev cL_sheetIs : ByteArray := method_11_code
def yL_sheetIs : MethodName := ⟨RL, "sheetIs", "(LThinSheets;II[J)I"⟩
abbrev cL_meet : ByteArray := method_12_code
def yL_meet : MethodName := ⟨RL, "meet", "(LThinSheets;II[J)I"⟩
abbrev cL_give : ByteArray := method_13_code
def yL_give : MethodName := ⟨RL, "give", "(LThinSheets;II[J)I"⟩
abbrev cL_hide : ByteArray := method_14_code
def yL_hide : MethodName := ⟨RL, "hide", "(LThinSheets;II[J)I"⟩
abbrev cL_burn : ByteArray := method_15_code
def yL_burn : MethodName := ⟨RL, "burn", "(LThinSheets;I)I"⟩
abbrev cL_whoHad : ByteArray := method_16_code
def yL_whoHad : MethodName := ⟨RL, "whoHad", "(LThinSheets;III[J)I"⟩
abbrev cL_knows : ByteArray := method_17_code
def yL_knows : MethodName := ⟨RL, "knows", "(LThinSheets;I[J)I"⟩
abbrev cL_lend : ByteArray := method_18_code
def yL_lend : MethodName := ⟨RL, "lend", "(LThinSheets;II[J)I"⟩
abbrev cL_file : ByteArray := method_19_code
def yL_file : MethodName := ⟨RL, "file", "(LThinSheets;I[J)I"⟩
abbrev cL_informer : ByteArray := method_20_code
def yL_informer : MethodName := ⟨RL, "informer", "(LThinSheets;I[J)I"⟩
abbrev cL_strong : ByteArray := method_21_code
def yL_strong : MethodName := ⟨RL, "strong", "(LThinSheets;II[J)I"⟩
abbrev cL_arrest : ByteArray := method_22_code
def yL_arrest : MethodName := ⟨RL, "arrest", "(LThinSheets;I[J)I"⟩
abbrev cL_search : ByteArray := method_23_code
def yL_search : MethodName := ⟨RL, "search", "(LThinSheets;II[J)I"⟩
abbrev cL_isKnown : ByteArray := method_24_code
def yL_isKnown : MethodName := ⟨RL, "isKnown", "(LThinSheets;I[J)I"⟩
abbrev cL_isKnownAnew : ByteArray := method_25_code
def yL_isKnownAnew : MethodName := ⟨RL, "isKnownAnew", "(LThinSheets;I[J)I"⟩
abbrev cL_risk : ByteArray := method_26_code
def yL_risk : MethodName := ⟨RL, "risk", "(LThinSheets;II[J)I"⟩
abbrev cL_pass : ByteArray := method_27_code
def yL_pass : MethodName := ⟨RL, "pass", "(LThinSheets;I[J)I"⟩
abbrev cL_life : ByteArray := method_28_code
def yL_life : MethodName := ⟨RL, "life", "(LThinSheets;IZZ)I"⟩
abbrev cL_line : ByteArray := method_29_code
def yL_line : MethodName := ⟨RL, "line", "(LThinSheets;II[J)I"⟩
abbrev cL_law : ByteArray := code
def yL_law : MethodName := ⟨RL, "law", "([I)Z"⟩
abbrev vwCl : List vw_C := [(RX0, TX0, 6), (RX1, TX1, 4), (RX2, TX2, 7), (RX3, TX3, 12), (RX4, TX4, 2), (RX5, TX5, 8), (RX6, TX6, 34)]
