-- ===== PART A: goes FIRST, ahead of the names: the tables' words, and 'selects' of the private methods out of them =====
/-- a private method of a class that the tables say can be made, by its rows of tables_1 -/
def lw_okq (q : MethodName × Nat) : Prop := (q.1.cls ≠ "java/lang/invoke/MethodHandle" ∧ q.1.cls ≠ "java/lang/invoke/VarHandle") ∧ Cond.instantiable q.1.cls q.2 ∈ tables_1 ∧ Cond.privateMethod q.1 ∈ tables_1 ∧ Cond.instanceMethod q.1 ∈ tables_1
theorem lw_p0 : lw_okq (⟨"SealedStores$History", "spare", "()I"⟩, 3) := ⟨⟨by decide +kernel, by decide +kernel⟩, List.mem_of_getElem? (i := 179) (by decide +kernel), List.mem_of_getElem? (i := 259) (by decide +kernel), List.mem_of_getElem? (i := 260) (by decide +kernel)⟩
theorem lw_p1 : lw_okq (⟨"SealedStores$Ship", "putSeal", "(I)V"⟩, 9) := ⟨⟨by decide +kernel, by decide +kernel⟩, List.mem_of_getElem? (i := 20) (by decide +kernel), List.mem_of_getElem? (i := 298) (by decide +kernel), List.mem_of_getElem? (i := 299) (by decide +kernel)⟩
theorem lw_p2 : lw_okq (⟨"SealedStores$Ship", "sealByOfficer", "(I)V"⟩, 9) := ⟨⟨by decide +kernel, by decide +kernel⟩, List.mem_of_getElem? (i := 20) (by decide +kernel), List.mem_of_getElem? (i := 352) (by decide +kernel), List.mem_of_getElem? (i := 353) (by decide +kernel)⟩
theorem lw_p3 : lw_okq (⟨"SealedStores$Ship", "release", "(III)J"⟩, 9) := ⟨⟨by decide +kernel, by decide +kernel⟩, List.mem_of_getElem? (i := 20) (by decide +kernel), List.mem_of_getElem? (i := 396) (by decide +kernel), List.mem_of_getElem? (i := 397) (by decide +kernel)⟩
theorem lw_p4 : lw_okq (⟨"SealedStores$Ship", "taxesOf", "(I)J"⟩, 9) := ⟨⟨by decide +kernel, by decide +kernel⟩, List.mem_of_getElem? (i := 20) (by decide +kernel), List.mem_of_getElem? (i := 449) (by decide +kernel), List.mem_of_getElem? (i := 450) (by decide +kernel)⟩
theorem lw_p5 : lw_okq (⟨"SealedStores$Ship", "sealOpenLockers", "()I"⟩, 9) := ⟨⟨by decide +kernel, by decide +kernel⟩, List.mem_of_getElem? (i := 20) (by decide +kernel), List.mem_of_getElem? (i := 465) (by decide +kernel), List.mem_of_getElem? (i := 466) (by decide +kernel)⟩
theorem lw_p6 : lw_okq (⟨"SealedStores$Ship", "openLockers", "()I"⟩, 9) := ⟨⟨by decide +kernel, by decide +kernel⟩, List.mem_of_getElem? (i := 20) (by decide +kernel), List.mem_of_getElem? (i := 469) (by decide +kernel), List.mem_of_getElem? (i := 470) (by decide +kernel)⟩
theorem lw_p7 : lw_okq (⟨"SealedStores$Ship", "runOutBonds", "()J"⟩, 9) := ⟨⟨by decide +kernel, by decide +kernel⟩, List.mem_of_getElem? (i := 20) (by decide +kernel), List.mem_of_getElem? (i := 481) (by decide +kernel), List.mem_of_getElem? (i := 482) (by decide +kernel)⟩
theorem lw_p8 : lw_okq (⟨"SealedStores$Lockers", "takeLowestFirst", "([III)I"⟩, 5) := ⟨⟨by decide +kernel, by decide +kernel⟩, List.mem_of_getElem? (i := 26) (by decide +kernel), List.mem_of_getElem? (i := 491) (by decide +kernel), List.mem_of_getElem? (i := 492) (by decide +kernel)⟩
theorem lw_p9 : lw_okq (⟨"SealedStores$OrderLog", "readOrder", "()Z"⟩, 9) := ⟨⟨by decide +kernel, by decide +kernel⟩, List.mem_of_getElem? (i := 199) (by decide +kernel), List.mem_of_getElem? (i := 581) (by decide +kernel), List.mem_of_getElem? (i := 582) (by decide +kernel)⟩
theorem lw_p10 : lw_okq (⟨"SealedStores$OrderLog", "readSign", "(C)Z"⟩, 9) := ⟨⟨by decide +kernel, by decide +kernel⟩, List.mem_of_getElem? (i := 199) (by decide +kernel), List.mem_of_getElem? (i := 588) (by decide +kernel), List.mem_of_getElem? (i := 589) (by decide +kernel)⟩
theorem lw_p11 : lw_okq (⟨"SealedStores$OrderLog", "readNumber", "(I)Z"⟩, 9) := ⟨⟨by decide +kernel, by decide +kernel⟩, List.mem_of_getElem? (i := 199) (by decide +kernel), List.mem_of_getElem? (i := 592) (by decide +kernel), List.mem_of_getElem? (i := 593) (by decide +kernel)⟩
theorem lw_p12 : lw_okq (⟨"SealedStores$OrderLog", "noteFault", "(III)V"⟩, 9) := ⟨⟨by decide +kernel, by decide +kernel⟩, List.mem_of_getElem? (i := 199) (by decide +kernel), List.mem_of_getElem? (i := 596) (by decide +kernel), List.mem_of_getElem? (i := 597) (by decide +kernel)⟩
theorem lw_p13 : lw_okq (⟨"SealedStores$OrderLog", "doOrder", "(LSealedStores$Ship;)I"⟩, 9) := ⟨⟨by decide +kernel, by decide +kernel⟩, List.mem_of_getElem? (i := 199) (by decide +kernel), List.mem_of_getElem? (i := 600) (by decide +kernel), List.mem_of_getElem? (i := 601) (by decide +kernel)⟩
def lw_privs_1 : List (MethodName × Nat) := [(⟨"SealedStores$History", "spare", "()I"⟩, 3), (⟨"SealedStores$Ship", "putSeal", "(I)V"⟩, 9), (⟨"SealedStores$Ship", "sealByOfficer", "(I)V"⟩, 9), (⟨"SealedStores$Ship", "release", "(III)J"⟩, 9), (⟨"SealedStores$Ship", "taxesOf", "(I)J"⟩, 9), (⟨"SealedStores$Ship", "sealOpenLockers", "()I"⟩, 9), (⟨"SealedStores$Ship", "openLockers", "()I"⟩, 9), (⟨"SealedStores$Ship", "runOutBonds", "()J"⟩, 9), (⟨"SealedStores$Lockers", "takeLowestFirst", "([III)I"⟩, 5), (⟨"SealedStores$OrderLog", "readOrder", "()Z"⟩, 9), (⟨"SealedStores$OrderLog", "readSign", "(C)Z"⟩, 9), (⟨"SealedStores$OrderLog", "readNumber", "(I)Z"⟩, 9), (⟨"SealedStores$OrderLog", "noteFault", "(III)V"⟩, 9), (⟨"SealedStores$OrderLog", "doOrder", "(LSealedStores$Ship;)I"⟩, 9)]
theorem lw_r1 : ∀ q ∈ lw_privs_1, lw_okq q := List.forall_mem_cons.mpr ⟨lw_p0, List.forall_mem_cons.mpr ⟨lw_p1, List.forall_mem_cons.mpr ⟨lw_p2, List.forall_mem_cons.mpr ⟨lw_p3, List.forall_mem_cons.mpr ⟨lw_p4, List.forall_mem_cons.mpr ⟨lw_p5, List.forall_mem_cons.mpr ⟨lw_p6, List.forall_mem_cons.mpr ⟨lw_p7, List.forall_mem_cons.mpr ⟨lw_p8, List.forall_mem_cons.mpr ⟨lw_p9, List.forall_mem_cons.mpr ⟨lw_p10, List.forall_mem_cons.mpr ⟨lw_p11, List.forall_mem_cons.mpr ⟨lw_p12, List.forall_mem_cons.mpr ⟨lw_p13, fun _ h => absurd h List.not_mem_nil⟩⟩⟩⟩⟩⟩⟩⟩⟩⟩⟩⟩⟩⟩
def lw_privs : List (MethodName × Nat) := lw_privs_1
def lw_tbl : List Cond := k2_sels lw_privs ++ tables_1
theorem lw_privs_ok : ∀ q ∈ lw_privs, lw_okq q := lw_r1
def RX0 : String := "SealedStores$Bonds"
def TX0 : u_T := fun k => match k with
  | 0 => ("SealedStores$Bonds", "number", "I", false)
  | 1 => ("SealedStores$Bonds", "amountMade", "J", false)
  | 2 => ("SealedStores$Bonds", "good", "[I", true)
  | 3 => ("SealedStores$Bonds", "made", "[I", true)
  | 4 => ("SealedStores$Bonds", "left", "[I", true)
  | 5 => ("SealedStores$Bonds", "duty", "[I", true)
  | _ => ("SealedStores$Bonds", "due", "[I", true)
def tyX0 : Nat → FieldType := fun k => match k with
  | 0 => .int
  | 1 => .long
  | 2 => .array .int
  | 3 => .array .int
  | 4 => .array .int
  | 5 => .array .int
  | _ => .array .int
abbrev wsX00 : List Cond := u_ws RX0 TX0 7
theorem nmX0 : ∀ a, a < 7 → ∀ b, b < 7 → a ≠ b → (TX0 a).2.1 ≠ (TX0 b).2.1 := by decide +kernel
theorem tyX0_ok : ∀ k, k < 7 → parseFieldDescriptor (TX0 k).2.2.1 = some (tyX0 k) := by decide +kernel
abbrev cX0_init : ByteArray := prog_2_method_1_code
def yX0_init : MethodName := ⟨RX0, "<init>", "()V"⟩
abbrev cX0_become : ByteArray := prog_2_method_2_code
def yX0_become : MethodName := ⟨RX0, "become", "(LSealedStores$Bonds;)V"⟩
abbrev cX0_add : ByteArray := prog_2_method_3_code
def yX0_add : MethodName := ⟨RX0, "add", "(IIII)I"⟩
abbrev cX0_held : ByteArray := prog_2_method_4_code
def yX0_held : MethodName := ⟨RX0, "held", "(I)J"⟩
abbrev cX0_heldByAll : ByteArray := prog_2_method_5_code
def yX0_heldByAll : MethodName := ⟨RX0, "heldByAll", "()J"⟩
abbrev cX0_withUnits : ByteArray := prog_2_method_6_code
def yX0_withUnits : MethodName := ⟨RX0, "withUnits", "()I"⟩
abbrev cX0_loaded : ByteArray := prog_2_method_7_code
def yX0_loaded : MethodName := ⟨RX0, "loaded", "(I)I"⟩
abbrev cX0_leftOf : ByteArray := prog_2_method_8_code
def yX0_leftOf : MethodName := ⟨RX0, "leftOf", "(I)I"⟩
abbrev cX0_nextAfter : ByteArray := prog_2_method_9_code
def yX0_nextAfter : MethodName := ⟨RX0, "nextAfter", "(II)I"⟩
abbrev cX0_amountOf : ByteArray := prog_2_method_10_code
def yX0_amountOf : MethodName := ⟨RX0, "amountOf", "(IIZ)J"⟩
def RX1 : String := "SealedStores$History"
def TX1 : u_T := fun k => match k with
  | 0 => ("SealedStores$History", "number", "I", false)
  | 1 => ("SealedStores$History", "latest", "I", false)
  | _ => ("SealedStores$History", "states", "[LSealedStores$Ship;", true)
def tyX1 : Nat → FieldType := fun k => match k with
  | 0 => .int
  | 1 => .int
  | _ => .array (.object "SealedStores$Ship")
abbrev wsX10 : List Cond := u_ws RX1 TX1 3
theorem nmX1 : ∀ a, a < 3 → ∀ b, b < 3 → a ≠ b → (TX1 a).2.1 ≠ (TX1 b).2.1 := by decide +kernel
theorem tyX1_ok : ∀ k, k < 3 → parseFieldDescriptor (TX1 k).2.2.1 = some (tyX1 k) := by decide +kernel
abbrev cX1_init : ByteArray := prog_3_method_1_code
def yX1_init : MethodName := ⟨RX1, "<init>", "()V"⟩
abbrev cX1_prepare : ByteArray := prog_3_method_2_code
def yX1_prepare : MethodName := ⟨RX1, "prepare", "(LSealedStores$Ship;)V"⟩
abbrev cX1_finish : ByteArray := prog_3_method_3_code
def yX1_finish : MethodName := ⟨RX1, "finish", "(I)I"⟩
abbrev cX1_restore : ByteArray := prog_3_method_4_code
def yX1_restore : MethodName := ⟨RX1, "restore", "(LSealedStores$Ship;)I"⟩
abbrev cX1_spare : ByteArray := prog_3_method_5_code
def yX1_spare : MethodName := ⟨RX1, "spare", "()I"⟩
def RX2 : String := "SealedStores$Lockers"
def TX2 : u_T := fun k => match k with
  | 0 => ("SealedStores$Lockers", "number", "I", false)
  | 1 => ("SealedStores$Lockers", "state", "[I", true)
  | 2 => ("SealedStores$Lockers", "seal", "[I", true)
  | 3 => ("SealedStores$Lockers", "units", "[I", true)
  | _ => ("SealedStores$Lockers", "missing", "[I", true)
def tyX2 : Nat → FieldType := fun k => match k with
  | 0 => .int
  | 1 => .array .int
  | 2 => .array .int
  | 3 => .array .int
  | _ => .array .int
abbrev wsX20 : List Cond := u_ws RX2 TX2 5
theorem nmX2 : ∀ a, a < 5 → ∀ b, b < 5 → a ≠ b → (TX2 a).2.1 ≠ (TX2 b).2.1 := by decide +kernel
theorem tyX2_ok : ∀ k, k < 5 → parseFieldDescriptor (TX2 k).2.2.1 = some (tyX2 k) := by decide +kernel
abbrev cX2_init : ByteArray := prog_4_method_1_code
def yX2_init : MethodName := ⟨RX2, "<init>", "()V"⟩
abbrev cX2_become : ByteArray := prog_4_method_2_code
def yX2_become : MethodName := ⟨RX2, "become", "(LSealedStores$Lockers;)V"⟩
abbrev cX2_place : ByteArray := prog_4_method_3_code
def yX2_place : MethodName := ⟨RX2, "place", "(II)I"⟩
abbrev cX2_inState : ByteArray := prog_4_method_4_code
def yX2_inState : MethodName := ⟨RX2, "inState", "(I)I"⟩
abbrev cX2_sumOfLocker : ByteArray := prog_4_method_5_code
def yX2_sumOfLocker : MethodName := ⟨RX2, "sumOfLocker", "([II)I"⟩
abbrev cX2_sumOfGood : ByteArray := prog_4_method_6_code
def yX2_sumOfGood : MethodName := ⟨RX2, "sumOfGood", "([II)I"⟩
abbrev cX2_takeFromAny : ByteArray := prog_4_method_7_code
def yX2_takeFromAny : MethodName := ⟨RX2, "takeFromAny", "(II)V"⟩
abbrev cX2_takeLowestFirst : ByteArray := prog_4_method_8_code
def yX2_takeLowestFirst : MethodName := ⟨RX2, "takeLowestFirst", "([III)I"⟩
def RX3 : String := "SealedStores$OrderLog"
def TX3 : u_T := fun k => match k with
  | 0 => ("SealedStores$OrderLog", "length", "I", false)
  | 1 => ("SealedStores$OrderLog", "faultPosition", "I", false)
  | 2 => ("SealedStores$OrderLog", "faultReason", "I", false)
  | 3 => ("SealedStores$OrderLog", "faultCause", "I", false)
  | 4 => ("SealedStores$OrderLog", "ordersDone", "I", false)
  | 5 => ("SealedStores$OrderLog", "position", "I", false)
  | 6 => ("SealedStores$OrderLog", "kind", "C", false)
  | 7 => ("SealedStores$OrderLog", "numbers", "[I", true)
  | _ => ("SealedStores$OrderLog", "signs", "[C", true)
def tyX3 : Nat → FieldType := fun k => match k with
  | 0 => .int
  | 1 => .int
  | 2 => .int
  | 3 => .int
  | 4 => .int
  | 5 => .int
  | 6 => .char
  | 7 => .array .int
  | _ => .array .char
abbrev wsX30 : List Cond := u_ws RX3 TX3 9
theorem nmX3 : ∀ a, a < 9 → ∀ b, b < 9 → a ≠ b → (TX3 a).2.1 ≠ (TX3 b).2.1 := by decide +kernel
theorem tyX3_ok : ∀ k, k < 9 → parseFieldDescriptor (TX3 k).2.2.1 = some (tyX3 k) := by decide +kernel
abbrev cX3_init : ByteArray := prog_5_method_1_code
def yX3_init : MethodName := ⟨RX3, "<init>", "()V"⟩
abbrev cX3_append : ByteArray := prog_5_method_2_code
def yX3_append : MethodName := ⟨RX3, "append", "(I)I"⟩
abbrev cX3_tryOn : ByteArray := prog_5_method_4_code
def yX3_tryOn : MethodName := ⟨RX3, "tryOn", "(LSealedStores$Ship;LSealedStores$Ship;)V"⟩
abbrev cX3_noteFault : ByteArray := prog_5_method_5_code
def yX3_noteFault : MethodName := ⟨RX3, "noteFault", "(III)V"⟩
abbrev cX3_readOrder : ByteArray := prog_5_method_6_code
def yX3_readOrder : MethodName := ⟨RX3, "readOrder", "()Z"⟩
abbrev cX3_numbersOf : ByteArray := prog_5_method_7_code
def yX3_numbersOf : MethodName := ⟨RX3, "numbersOf", "(C)I"⟩
abbrev cX3_readSign : ByteArray := prog_5_method_8_code
def yX3_readSign : MethodName := ⟨RX3, "readSign", "(C)Z"⟩
abbrev cX3_readNumber : ByteArray := prog_5_method_9_code
def yX3_readNumber : MethodName := ⟨RX3, "readNumber", "(I)Z"⟩
abbrev cX3_doOrder : ByteArray := prog_5_method_10_code
def yX3_doOrder : MethodName := ⟨RX3, "doOrder", "(LSealedStores$Ship;)I"⟩
def RX4 : String := "SealedStores$Releases"
def TX4 : u_T := fun k => match k with
  | 0 => ("SealedStores$Releases", "fines", "J", false)
  | 1 => ("SealedStores$Releases", "units", "[I", true)
  | _ => ("SealedStores$Releases", "cents", "[J", true)
def tyX4 : Nat → FieldType := fun k => match k with
  | 0 => .long
  | 1 => .array .int
  | _ => .array .long
abbrev wsX40 : List Cond := u_ws RX4 TX4 3
theorem nmX4 : ∀ a, a < 3 → ∀ b, b < 3 → a ≠ b → (TX4 a).2.1 ≠ (TX4 b).2.1 := by decide +kernel
theorem tyX4_ok : ∀ k, k < 3 → parseFieldDescriptor (TX4 k).2.2.1 = some (tyX4 k) := by decide +kernel
abbrev cX4_init : ByteArray := prog_6_method_1_code
def yX4_init : MethodName := ⟨RX4, "<init>", "()V"⟩
abbrev cX4_become : ByteArray := prog_6_method_2_code
def yX4_become : MethodName := ⟨RX4, "become", "(LSealedStores$Releases;)V"⟩
abbrev cX4_place : ByteArray := prog_6_method_3_code
def yX4_place : MethodName := ⟨RX4, "place", "(II)I"⟩
abbrev cX4_add : ByteArray := prog_6_method_4_code
def yX4_add : MethodName := ⟨RX4, "add", "(IIIJ)V"⟩
def RX5 : String := "SealedStores$Seals"
def TX5 : u_T := fun k => match k with
  | 0 => ("SealedStores$Seals", "used", "I", false)
  | 1 => ("SealedStores$Seals", "locker", "[I", true)
  | 2 => ("SealedStores$Seals", "day", "[I", true)
  | _ => ("SealedStores$Seals", "fate", "[I", true)
def tyX5 : Nat → FieldType := fun k => match k with
  | 0 => .int
  | 1 => .array .int
  | 2 => .array .int
  | _ => .array .int
abbrev wsX50 : List Cond := u_ws RX5 TX5 4
theorem nmX5 : ∀ a, a < 4 → ∀ b, b < 4 → a ≠ b → (TX5 a).2.1 ≠ (TX5 b).2.1 := by decide +kernel
theorem tyX5_ok : ∀ k, k < 4 → parseFieldDescriptor (TX5 k).2.2.1 = some (tyX5 k) := by decide +kernel
abbrev cX5_init : ByteArray := prog_7_method_1_code
def yX5_init : MethodName := ⟨RX5, "<init>", "()V"⟩
abbrev cX5_become : ByteArray := prog_7_method_2_code
def yX5_become : MethodName := ⟨RX5, "become", "(LSealedStores$Seals;)V"⟩
abbrev cX5_left : ByteArray := prog_7_method_3_code
def yX5_left : MethodName := ⟨RX5, "left", "()I"⟩
abbrev cX5_putOn : ByteArray := prog_7_method_4_code
def yX5_putOn : MethodName := ⟨RX5, "putOn", "(II)I"⟩
abbrev cX5_end : ByteArray := prog_7_method_5_code
def yX5_end : MethodName := ⟨RX5, "end", "(II)V"⟩
def RX6 : String := "SealedStores$Ship"
def TX6 : u_T := fun k => match k with
  | 0 => ("SealedStores$Ship", "zone", "I", false)
  | 1 => ("SealedStores$Ship", "day", "I", false)
  | 2 => ("SealedStores$Ship", "goods", "I", false)
  | 3 => ("SealedStores$Ship", "duties", "[I", true)
  | 4 => ("SealedStores$Ship", "settings", "[I", true)
  | 5 => ("SealedStores$Ship", "lockers", "LSealedStores$Lockers;", true)
  | 6 => ("SealedStores$Ship", "seals", "LSealedStores$Seals;", true)
  | 7 => ("SealedStores$Ship", "bonds", "LSealedStores$Bonds;", true)
  | _ => ("SealedStores$Ship", "releases", "LSealedStores$Releases;", true)
def tyX6 : Nat → FieldType := fun k => match k with
  | 0 => .int
  | 1 => .int
  | 2 => .int
  | 3 => .array .int
  | 4 => .array .int
  | 5 => .object "SealedStores$Lockers"
  | 6 => .object "SealedStores$Seals"
  | 7 => .object "SealedStores$Bonds"
  | _ => .object "SealedStores$Releases"
abbrev wsX60 : List Cond := u_ws RX6 TX6 9
theorem nmX6 : ∀ a, a < 9 → ∀ b, b < 9 → a ≠ b → (TX6 a).2.1 ≠ (TX6 b).2.1 := by decide +kernel
theorem tyX6_ok : ∀ k, k < 9 → parseFieldDescriptor (TX6 k).2.2.1 = some (tyX6 k) := by decide +kernel
abbrev cX6_init : ByteArray := prog_8_method_1_code
def yX6_init : MethodName := ⟨RX6, "<init>", "()V"⟩
abbrev cX6_become : ByteArray := prog_8_method_2_code
def yX6_become : MethodName := ⟨RX6, "become", "(LSealedStores$Ship;)V"⟩
abbrev cX6_hasLocker : ByteArray := prog_8_method_3_code
def yX6_hasLocker : MethodName := ⟨RX6, "hasLocker", "(I)Z"⟩
abbrev cX6_hasGood : ByteArray := prog_8_method_4_code
def yX6_hasGood : MethodName := ⟨RX6, "hasGood", "(I)Z"⟩
abbrev cX6_isDuty : ByteArray := prog_8_method_5_code
def yX6_isDuty : MethodName := ⟨RX6, "isDuty", "(I)Z"⟩
abbrev cX6_canMove : ByteArray := prog_8_method_6_code
def yX6_canMove : MethodName := ⟨RX6, "canMove", "(III)Z"⟩
abbrev cX6_addLocker : ByteArray := prog_8_method_7_code
def yX6_addLocker : MethodName := ⟨RX6, "addLocker", "()I"⟩
abbrev cX6_addGood : ByteArray := prog_8_method_8_code
def yX6_addGood : MethodName := ⟨RX6, "addGood", "(I)I"⟩
abbrev cX6_changeDuty : ByteArray := prog_8_method_9_code
def yX6_changeDuty : MethodName := ⟨RX6, "changeDuty", "(II)I"⟩
abbrev cX6_loadUnits : ByteArray := prog_8_method_10_code
def yX6_loadUnits : MethodName := ⟨RX6, "loadUnits", "(III)I"⟩
abbrev cX6_useUnits : ByteArray := prog_8_method_11_code
def yX6_useUnits : MethodName := ⟨RX6, "useUnits", "(III)I"⟩
abbrev cX6_returnUnits : ByteArray := prog_8_method_12_code
def yX6_returnUnits : MethodName := ⟨RX6, "returnUnits", "(III)I"⟩
abbrev cX6_breakUnits : ByteArray := prog_8_method_13_code
def yX6_breakUnits : MethodName := ⟨RX6, "breakUnits", "(IIII)I"⟩
abbrev cX6_tearSeal : ByteArray := prog_8_method_14_code
def yX6_tearSeal : MethodName := ⟨RX6, "tearSeal", "(I)I"⟩
abbrev cX6_countLocker : ByteArray := prog_8_method_15_code
def yX6_countLocker : MethodName := ⟨RX6, "countLocker", "(I)I"⟩
abbrev cX6_crossTo : ByteArray := prog_8_method_16_code
def yX6_crossTo : MethodName := ⟨RX6, "crossTo", "(I)I"⟩
abbrev cX6_passDays : ByteArray := prog_8_method_17_code
def yX6_passDays : MethodName := ⟨RX6, "passDays", "(I)I"⟩
abbrev cX6_changeSetting : ByteArray := prog_8_method_18_code
def yX6_changeSetting : MethodName := ⟨RX6, "changeSetting", "(II)I"⟩
abbrev cX6_toPayForAll : ByteArray := prog_8_method_19_code
def yX6_toPayForAll : MethodName := ⟨RX6, "toPayForAll", "()J"⟩
abbrev cX6_release : ByteArray := prog_8_method_20_code
def yX6_release : MethodName := ⟨RX6, "release", "(III)J"⟩
abbrev cX6_taxesOf : ByteArray := prog_8_method_21_code
def yX6_taxesOf : MethodName := ⟨RX6, "taxesOf", "(I)J"⟩
abbrev cX6_runOutBonds : ByteArray := prog_8_method_22_code
def yX6_runOutBonds : MethodName := ⟨RX6, "runOutBonds", "()J"⟩
abbrev cX6_putSeal : ByteArray := prog_8_method_23_code
def yX6_putSeal : MethodName := ⟨RX6, "putSeal", "(I)V"⟩
abbrev cX6_sealByOfficer : ByteArray := prog_8_method_24_code
def yX6_sealByOfficer : MethodName := ⟨RX6, "sealByOfficer", "(I)V"⟩
abbrev cX6_sealOpenLockers : ByteArray := prog_8_method_25_code
def yX6_sealOpenLockers : MethodName := ⟨RX6, "sealOpenLockers", "()I"⟩
abbrev cX6_openLockers : ByteArray := prog_8_method_26_code
def yX6_openLockers : MethodName := ⟨RX6, "openLockers", "()I"⟩
def RX7 : String := "SealedStores"
def TX7 : u_T := fun k => match k with
  | 0 => ("SealedStores", "ship", "LSealedStores$Ship;", true)
  | 1 => ("SealedStores", "trial", "LSealedStores$Ship;", true)
  | 2 => ("SealedStores", "history", "LSealedStores$History;", true)
  | _ => ("SealedStores", "log", "LSealedStores$OrderLog;", true)
def tyX7 : Nat → FieldType := fun k => match k with
  | 0 => .object "SealedStores$Ship"
  | 1 => .object "SealedStores$Ship"
  | 2 => .object "SealedStores$History"
  | _ => .object "SealedStores$OrderLog"
abbrev wsX70 : List Cond := u_ws RX7 TX7 4
theorem nmX7 : ∀ a, a < 4 → ∀ b, b < 4 → a ≠ b → (TX7 a).2.1 ≠ (TX7 b).2.1 := by decide +kernel
theorem tyX7_ok : ∀ k, k < 4 → parseFieldDescriptor (TX7 k).2.2.1 = some (tyX7 k) := by decide +kernel
abbrev cX7_init : ByteArray := prog_1_method_1_code
def yX7_init : MethodName := ⟨RX7, "<init>", "()V"⟩
abbrev cX7_locker : ByteArray := prog_1_method_2_code
def yX7_locker : MethodName := ⟨RX7, "locker", "()I"⟩
abbrev cX7_good : ByteArray := prog_1_method_3_code
def yX7_good : MethodName := ⟨RX7, "good", "(I)I"⟩
abbrev cX7_duty : ByteArray := prog_1_method_4_code
def yX7_duty : MethodName := ⟨RX7, "duty", "(II)I"⟩
abbrev cX7_load : ByteArray := prog_1_method_5_code
def yX7_load : MethodName := ⟨RX7, "load", "(III)I"⟩
abbrev cX7_lockerOf : ByteArray := prog_1_method_6_code
def yX7_lockerOf : MethodName := ⟨RX7, "lockerOf", "(II)I"⟩
abbrev cX7_missing : ByteArray := prog_1_method_7_code
def yX7_missing : MethodName := ⟨RX7, "missing", "(II)I"⟩
abbrev cX7_seal : ByteArray := prog_1_method_8_code
def yX7_seal : MethodName := ⟨RX7, "seal", "(II)I"⟩
abbrev cX7_bond : ByteArray := prog_1_method_9_code
def yX7_bond : MethodName := ⟨RX7, "bond", "(II)I"⟩
abbrev cX7_nextBond : ByteArray := prog_1_method_10_code
def yX7_nextBond : MethodName := ⟨RX7, "nextBond", "(I)I"⟩
abbrev cX7_use : ByteArray := prog_1_method_11_code
def yX7_use : MethodName := ⟨RX7, "use", "(III)I"⟩
abbrev cX7_bring : ByteArray := prog_1_method_12_code
def yX7_bring : MethodName := ⟨RX7, "bring", "(III)I"⟩
abbrev cX7_smash : ByteArray := prog_1_method_13_code
def yX7_smash : MethodName := ⟨RX7, "smash", "(IIII)I"⟩
abbrev cX7_tear : ByteArray := prog_1_method_14_code
def yX7_tear : MethodName := ⟨RX7, "tear", "(I)I"⟩
abbrev cX7_inspect : ByteArray := prog_1_method_15_code
def yX7_inspect : MethodName := ⟨RX7, "inspect", "(I)I"⟩
abbrev cX7_cross : ByteArray := prog_1_method_16_code
def yX7_cross : MethodName := ⟨RX7, "cross", "(I)I"⟩
abbrev cX7_pass : ByteArray := prog_1_method_17_code
def yX7_pass : MethodName := ⟨RX7, "pass", "(I)I"⟩
abbrev cX7_set : ByteArray := prog_1_method_18_code
def yX7_set : MethodName := ⟨RX7, "set", "(II)I"⟩
abbrev cX7_account : ByteArray := prog_1_method_19_code
def yX7_account : MethodName := ⟨RX7, "account", "(II)I"⟩
abbrev cX7_cents : ByteArray := prog_1_method_20_code
def yX7_cents : MethodName := ⟨RX7, "cents", "(I)I"⟩
abbrev cX7_count : ByteArray := prog_1_method_21_code
def yX7_count : MethodName := ⟨RX7, "count", "(I)I"⟩
abbrev cX7_undo : ByteArray := prog_1_method_22_code
def yX7_undo : MethodName := ⟨RX7, "undo", "()I"⟩
abbrev cX7_worth : ByteArray := prog_1_method_23_code
def yX7_worth : MethodName := ⟨RX7, "worth", "(II)I"⟩
abbrev cX7_toPay : ByteArray := prog_1_method_24_code
def yX7_toPay : MethodName := ⟨RX7, "toPay", "()I"⟩
abbrev cX7_runsOut : ByteArray := prog_1_method_25_code
def yX7_runsOut : MethodName := ⟨RX7, "runsOut", "()I"⟩
abbrev cX7_type : ByteArray := prog_1_method_26_code
def yX7_type : MethodName := ⟨RX7, "type", "(I)I"⟩
abbrev cX7_fault : ByteArray := prog_1_method_28_code
def yX7_fault : MethodName := ⟨RX7, "fault", "(I)I"⟩
abbrev cX7_centsOrLimit : ByteArray := prog_1_method_30_code
def yX7_centsOrLimit : MethodName := ⟨RX7, "centsOrLimit", "(J)I"⟩
def RX8 : String := "SealedStoresModel"
def TX8 : u_T := fun k => match k with
  | _ => ("", "", "", false)
def tyX8 : Nat → FieldType := fun k => match k with
  | _ => .int
abbrev wsX80 : List Cond := u_ws RX8 TX8 0
theorem nmX8 : ∀ a, a < 0 → ∀ b, b < 0 → a ≠ b → (TX8 a).2.1 ≠ (TX8 b).2.1 := by decide +kernel
theorem tyX8_ok : ∀ k, k < 0 → parseFieldDescriptor (TX8 k).2.2.1 = some (tyX8 k) := by decide +kernel
def RL : String := "SealedStoresLaw"
abbrev cL_cell : ByteArray := method_2_code
def yL_cell : MethodName := ⟨RL, "cell", "([II)I"⟩
abbrev cL_low : ByteArray := method_3_code
def yL_low : MethodName := ⟨RL, "low", "(II)I"⟩
abbrev cL_print : ByteArray := method_4_code
def yL_print : MethodName := ⟨RL, "print", "(LSealedStores;)J"⟩
abbrev cL_refused : ByteArray := method_5_code
def yL_refused : MethodName := ⟨RL, "refused", "(LSealedStores;)Z"⟩
abbrev cL_addsUp : ByteArray := method_6_code
def yL_addsUp : MethodName := ⟨RL, "addsUp", "(LSealedStores;)Z"⟩
abbrev cL_isAhead : ByteArray := method_7_code
def yL_isAhead : MethodName := ⟨RL, "isAhead", "(LSealedStores;)Z"⟩
abbrev cL_law : ByteArray := code
def yL_law : MethodName := ⟨RL, "law", "([I)Z"⟩
abbrev vwCl : List vw_C := [(RX0, TX0, 7), (RX1, TX1, 3), (RX2, TX2, 5), (RX3, TX3, 9), (RX4, TX4, 3), (RX5, TX5, 4), (RX6, TX6, 9), (RX7, TX7, 4)]
