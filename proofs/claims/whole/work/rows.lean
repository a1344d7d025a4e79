section
-- ===== PART A: goes FIRST, ahead of the names: the tables' words, and 'selects' of the private methods out of them =====
/-- a private method of a class that the tables say can be made, by its rows of tables_1 -/
def lw_okq (q : MethodName × Nat) : Prop := (q.1.cls ≠ "java/lang/invoke/MethodHandle" ∧ q.1.cls ≠ "java/lang/invoke/VarHandle") ∧ Cond.instantiable q.1.cls q.2 ∈ tables_1 ∧ Cond.privateMethod q.1 ∈ tables_1 ∧ Cond.instanceMethod q.1 ∈ tables_1
theorem lw_p0 : lw_okq (⟨"TestsFromUse$Shortener", "leaveOut", "(LTestsFromUse$Row;)Z"⟩, 3) := ⟨⟨by decide +kernel, by decide +kernel⟩, List.mem_of_getElem? (i := 139) (by decide +kernel), List.mem_of_getElem? (i := 387) (by decide +kernel), List.mem_of_getElem? (i := 388) (by decide +kernel)⟩
theorem lw_p1 : lw_okq (⟨"TestsFromUse$Shortener", "endsAlike", "(LTestsFromUse$Row;II)Z"⟩, 3) := ⟨⟨by decide +kernel, by decide +kernel⟩, List.mem_of_getElem? (i := 139) (by decide +kernel), List.mem_of_getElem? (i := 392) (by decide +kernel), List.mem_of_getElem? (i := 393) (by decide +kernel)⟩
theorem lw_p2 : lw_okq (⟨"TestsFromUse", "firstDifference", "(LTestsFromUse$MadeTest;)I"⟩, 5) := ⟨⟨by decide +kernel, by decide +kernel⟩, List.mem_of_getElem? (i := 13) (by decide +kernel), List.mem_of_getElem? (i := 449) (by decide +kernel), List.mem_of_getElem? (i := 450) (by decide +kernel)⟩
theorem lw_p3 : lw_okq (⟨"TestsFromUse", "resultNow", "(LTestsFromUse$MadeTest;I)I"⟩, 5) := ⟨⟨by decide +kernel, by decide +kernel⟩, List.mem_of_getElem? (i := 13) (by decide +kernel), List.mem_of_getElem? (i := 471) (by decide +kernel), List.mem_of_getElem? (i := 472) (by decide +kernel)⟩
theorem lw_p4 : lw_okq (⟨"TestsFromUse$Suite", "metByHeap", "(I)I"⟩, 3) := ⟨⟨by decide +kernel, by decide +kernel⟩, List.mem_of_getElem? (i := 71) (by decide +kernel), List.mem_of_getElem? (i := 513) (by decide +kernel), List.mem_of_getElem? (i := 514) (by decide +kernel)⟩
theorem lw_p5 : lw_okq (⟨"TestsFromUse", "differencesOfLog", "()I"⟩, 5) := ⟨⟨by decide +kernel, by decide +kernel⟩, List.mem_of_getElem? (i := 13) (by decide +kernel), List.mem_of_getElem? (i := 545) (by decide +kernel), List.mem_of_getElem? (i := 546) (by decide +kernel)⟩
theorem lw_p6 : lw_okq (⟨"TestsFromUseModel", "tells", "(IIII)V"⟩, 22) := ⟨⟨by decide +kernel, by decide +kernel⟩, List.mem_of_getElem? (i := 553) (by decide +kernel), List.mem_of_getElem? (i := 640) (by decide +kernel), List.mem_of_getElem? (i := 641) (by decide +kernel)⟩
theorem lw_p7 : lw_okq (⟨"TestsFromUseModel", "isThere", "(I)Z"⟩, 22) := ⟨⟨by decide +kernel, by decide +kernel⟩, List.mem_of_getElem? (i := 553) (by decide +kernel), List.mem_of_getElem? (i := 648) (by decide +kernel), List.mem_of_getElem? (i := 649) (by decide +kernel)⟩
theorem lw_p8 : lw_okq (⟨"TestsFromUseModel", "goes", "(II)I"⟩, 22) := ⟨⟨by decide +kernel, by decide +kernel⟩, List.mem_of_getElem? (i := 553) (by decide +kernel), List.mem_of_getElem? (i := 656) (by decide +kernel), List.mem_of_getElem? (i := 657) (by decide +kernel)⟩
theorem lw_p9 : lw_okq (⟨"TestsFromUseModel", "holds", "(I)Z"⟩, 22) := ⟨⟨by decide +kernel, by decide +kernel⟩, List.mem_of_getElem? (i := 553) (by decide +kernel), List.mem_of_getElem? (i := 660) (by decide +kernel), List.mem_of_getElem? (i := 661) (by decide +kernel)⟩
theorem lw_p10 : lw_okq (⟨"TestsFromUseModel", "shrinks", "(I)V"⟩, 22) := ⟨⟨by decide +kernel, by decide +kernel⟩, List.mem_of_getElem? (i := 553) (by decide +kernel), List.mem_of_getElem? (i := 676) (by decide +kernel), List.mem_of_getElem? (i := 677) (by decide +kernel)⟩
theorem lw_p11 : lw_okq (⟨"TestsFromUseModel", "ends", "(I)I"⟩, 22) := ⟨⟨by decide +kernel, by decide +kernel⟩, List.mem_of_getElem? (i := 553) (by decide +kernel), List.mem_of_getElem? (i := 680) (by decide +kernel), List.mem_of_getElem? (i := 681) (by decide +kernel)⟩
theorem lw_p12 : lw_okq (⟨"TestsFromUseModel", "begins", "()V"⟩, 22) := ⟨⟨by decide +kernel, by decide +kernel⟩, List.mem_of_getElem? (i := 553) (by decide +kernel), List.mem_of_getElem? (i := 684) (by decide +kernel), List.mem_of_getElem? (i := 685) (by decide +kernel)⟩
theorem lw_p13 : lw_okq (⟨"TestsFromUseModel", "isLike", "(II)Z"⟩, 22) := ⟨⟨by decide +kernel, by decide +kernel⟩, List.mem_of_getElem? (i := 553) (by decide +kernel), List.mem_of_getElem? (i := 688) (by decide +kernel), List.mem_of_getElem? (i := 689) (by decide +kernel)⟩
theorem lw_p14 : lw_okq (⟨"TestsFromUseModel", "isTest", "(I)Z"⟩, 22) := ⟨⟨by decide +kernel, by decide +kernel⟩, List.mem_of_getElem? (i := 553) (by decide +kernel), List.mem_of_getElem? (i := 696) (by decide +kernel), List.mem_of_getElem? (i := 697) (by decide +kernel)⟩
theorem lw_p15 : lw_okq (⟨"TestsFromUseModel", "meets", "(I)I"⟩, 22) := ⟨⟨by decide +kernel, by decide +kernel⟩, List.mem_of_getElem? (i := 553) (by decide +kernel), List.mem_of_getElem? (i := 714) (by decide +kernel), List.mem_of_getElem? (i := 715) (by decide +kernel)⟩
def lw_privs_1 : List (MethodName × Nat) := [(⟨"TestsFromUse$Shortener", "leaveOut", "(LTestsFromUse$Row;)Z"⟩, 3), (⟨"TestsFromUse$Shortener", "endsAlike", "(LTestsFromUse$Row;II)Z"⟩, 3), (⟨"TestsFromUse", "firstDifference", "(LTestsFromUse$MadeTest;)I"⟩, 5), (⟨"TestsFromUse", "resultNow", "(LTestsFromUse$MadeTest;I)I"⟩, 5), (⟨"TestsFromUse$Suite", "metByHeap", "(I)I"⟩, 3), (⟨"TestsFromUse", "differencesOfLog", "()I"⟩, 5), (⟨"TestsFromUseModel", "tells", "(IIII)V"⟩, 22), (⟨"TestsFromUseModel", "isThere", "(I)Z"⟩, 22), (⟨"TestsFromUseModel", "goes", "(II)I"⟩, 22), (⟨"TestsFromUseModel", "holds", "(I)Z"⟩, 22), (⟨"TestsFromUseModel", "shrinks", "(I)V"⟩, 22), (⟨"TestsFromUseModel", "ends", "(I)I"⟩, 22), (⟨"TestsFromUseModel", "begins", "()V"⟩, 22), (⟨"TestsFromUseModel", "isLike", "(II)Z"⟩, 22), (⟨"TestsFromUseModel", "isTest", "(I)Z"⟩, 22), (⟨"TestsFromUseModel", "meets", "(I)I"⟩, 22)]
theorem lw_r1 : ∀ q ∈ lw_privs_1, lw_okq q := List.forall_mem_cons.mpr ⟨lw_p0, List.forall_mem_cons.mpr ⟨lw_p1, List.forall_mem_cons.mpr ⟨lw_p2, List.forall_mem_cons.mpr ⟨lw_p3, List.forall_mem_cons.mpr ⟨lw_p4, List.forall_mem_cons.mpr ⟨lw_p5, List.forall_mem_cons.mpr ⟨lw_p6, List.forall_mem_cons.mpr ⟨lw_p7, List.forall_mem_cons.mpr ⟨lw_p8, List.forall_mem_cons.mpr ⟨lw_p9, List.forall_mem_cons.mpr ⟨lw_p10, List.forall_mem_cons.mpr ⟨lw_p11, List.forall_mem_cons.mpr ⟨lw_p12, List.forall_mem_cons.mpr ⟨lw_p13, List.forall_mem_cons.mpr ⟨lw_p14, List.forall_mem_cons.mpr ⟨lw_p15, fun _ h => absurd h List.not_mem_nil⟩⟩⟩⟩⟩⟩⟩⟩⟩⟩⟩⟩⟩⟩⟩⟩
theorem lw_p16 : lw_okq (⟨"TestsFromUseModel", "givesNow", "(II)I"⟩, 22) := ⟨⟨by decide +kernel, by decide +kernel⟩, List.mem_of_getElem? (i := 553) (by decide +kernel), List.mem_of_getElem? (i := 722) (by decide +kernel), List.mem_of_getElem? (i := 723) (by decide +kernel)⟩
def lw_privs_2 : List (MethodName × Nat) := [(⟨"TestsFromUseModel", "givesNow", "(II)I"⟩, 22)]
theorem lw_r2 : ∀ q ∈ lw_privs_2, lw_okq q := List.forall_mem_cons.mpr ⟨lw_p16, fun _ h => absurd h List.not_mem_nil⟩
def lw_privs : List (MethodName × Nat) := lw_privs_1 ++ (lw_privs_2)
def lw_tbl : List Cond := k2_sels lw_privs ++ tables_1
theorem lw_privs_ok : ∀ q ∈ lw_privs, lw_okq q := by
  show ∀ q ∈ lw_privs_1 ++ (lw_privs_2), lw_okq q
  exact List.forall_mem_append.mpr ⟨lw_r1, lw_r2⟩
end
section
def RX0 : String := "TestsFromUse$Branch"
def TX0 : u_T := fun k => match k with
  | 0 => ("TestsFromUse$Branch", "watched", "I", true)
  | 1 => ("TestsFromUse$Branch", "how", "I", true)
  | 2 => ("TestsFromUse$Branch", "value", "I", true)
  | 3 => ("TestsFromUse$Branch", "target", "I", true)
  | 4 => ("TestsFromUse$Branch", "timesItself", "I", true)
  | 5 => ("TestsFromUse$Branch", "timesNumber", "I", true)
  | 6 => ("TestsFromUse$Branch", "added", "I", true)
  | _ => ("TestsFromUse$Branch", "shown", "I", true)
def tyX0 : Nat → FieldType := fun k => match k with
  | 0 => .int
  | 1 => .int
  | 2 => .int
  | 3 => .int
  | 4 => .int
  | 5 => .int
  | 6 => .int
  | _ => .int
abbrev wsX00 : List Cond := u_ws RX0 TX0 8
theorem nmX0 : ∀ a, a < 8 → ∀ b, b < 8 → a ≠ b → (TX0 a).2.1 ≠ (TX0 b).2.1 := by decide +kernel
theorem tyX0_ok : ∀ k, k < 8 → parseFieldDescriptor (TX0 k).2.2.1 = some (tyX0 k) := by decide +kernel
abbrev cX0_init : ByteArray := prog_2_method_1_code
def yX0_init : MethodName := ⟨RX0, "<init>", "(III)V"⟩
abbrev cX0_canBe : ByteArray := prog_2_method_2_code
def yX0_canBe : MethodName := ⟨RX0, "canBe", "(III)Z"⟩
abbrev cX0_isCondition : ByteArray := prog_2_method_3_code
def yX0_isCondition : MethodName := ⟨RX0, "isCondition", "(I)Z"⟩
abbrev cX0_isEffect : ByteArray := prog_2_method_4_code
def yX0_isEffect : MethodName := ⟨RX0, "isEffect", "(I)Z"⟩
abbrev cX0_holds : ByteArray := prog_2_method_5_code
def yX0_holds : MethodName := ⟨RX0, "holds", "(I)Z"⟩
abbrev cX0_stateBehind : ByteArray := prog_2_method_6_code
def yX0_stateBehind : MethodName := ⟨RX0, "stateBehind", "(II)I"⟩
abbrev cX0_resultIn : ByteArray := prog_2_method_7_code
def yX0_resultIn : MethodName := ⟨RX0, "resultIn", "(I)I"⟩
def RX1 : String := "TestsFromUse$Log"
def TX1 : u_T := fun k => match k with
  | 0 => ("TestsFromUse$Log", "row", "LTestsFromUse$Row;", true)
  | 1 => ("TestsFromUse$Log", "taken", "[I", true)
  | _ => ("TestsFromUse$Log", "state", "I", false)
def tyX1 : Nat → FieldType := fun k => match k with
  | 0 => .object "TestsFromUse$Row"
  | 1 => .array .int
  | _ => .int
abbrev wsX10 : List Cond := u_ws RX1 TX1 3
theorem nmX1 : ∀ a, a < 3 → ∀ b, b < 3 → a ≠ b → (TX1 a).2.1 ≠ (TX1 b).2.1 := by decide +kernel
theorem tyX1_ok : ∀ k, k < 3 → parseFieldDescriptor (TX1 k).2.2.1 = some (tyX1 k) := by decide +kernel
abbrev cX1_init : ByteArray := prog_3_method_1_code
def yX1_init : MethodName := ⟨RX1, "<init>", "()V"⟩
abbrev cX1_size : ByteArray := prog_3_method_2_code
def yX1_size : MethodName := ⟨RX1, "size", "()I"⟩
abbrev cX1_add : ByteArray := prog_3_method_3_code
def yX1_add : MethodName := ⟨RX1, "add", "(ILTestsFromUse$Machine;)I"⟩
abbrev cX1_clear : ByteArray := prog_3_method_4_code
def yX1_clear : MethodName := ⟨RX1, "clear", "()I"⟩
abbrev cX1_tell : ByteArray := prog_3_method_5_code
def yX1_tell : MethodName := ⟨RX1, "tell", "(II)I"⟩
def RX2 : String := "TestsFromUse$Machine"
def TX2 : u_T := fun k => match k with
  | 0 => ("TestsFromUse$Machine", "branches", "[LTestsFromUse$Branch;", true)
  | _ => ("TestsFromUse$Machine", "sizes", "[I", true)
def tyX2 : Nat → FieldType := fun k => match k with
  | 0 => .array (.object "TestsFromUse$Branch")
  | _ => .array .int
abbrev wsX20 : List Cond := u_ws RX2 TX2 2
theorem nmX2 : ∀ a, a < 2 → ∀ b, b < 2 → a ≠ b → (TX2 a).2.1 ≠ (TX2 b).2.1 := by decide +kernel
theorem tyX2_ok : ∀ k, k < 2 → parseFieldDescriptor (TX2 k).2.2.1 = some (tyX2 k) := by decide +kernel
abbrev cX2_init : ByteArray := prog_4_method_1_code
def yX2_init : MethodName := ⟨RX2, "<init>", "()V"⟩
abbrev cX2_hasRoom : ByteArray := prog_4_method_2_code
def yX2_hasRoom : MethodName := ⟨RX2, "hasRoom", "(I)Z"⟩
abbrev cX2_has : ByteArray := prog_4_method_3_code
def yX2_has : MethodName := ⟨RX2, "has", "(I)Z"⟩
abbrev cX2_add : ByteArray := prog_4_method_4_code
def yX2_add : MethodName := ⟨RX2, "add", "(ILTestsFromUse$Branch;)I"⟩
abbrev cX2_put : ByteArray := prog_4_method_5_code
def yX2_put : MethodName := ⟨RX2, "put", "(ILTestsFromUse$Branch;)V"⟩
abbrev cX2_allBits : ByteArray := prog_4_method_6_code
def yX2_allBits : MethodName := ⟨RX2, "allBits", "()I"⟩
abbrev cX2_takenBy : ByteArray := prog_4_method_7_code
def yX2_takenBy : MethodName := ⟨RX2, "takenBy", "(II)I"⟩
abbrev cX2_stateBehind : ByteArray := prog_4_method_8_code
def yX2_stateBehind : MethodName := ⟨RX2, "stateBehind", "(III)I"⟩
abbrev cX2_resultOf : ByteArray := prog_4_method_9_code
def yX2_resultOf : MethodName := ⟨RX2, "resultOf", "(II)I"⟩
def RX3 : String := "TestsFromUse$MadeTest"
def TX3 : u_T := fun k => match k with
  | 0 => ("TestsFromUse$MadeTest", "row", "LTestsFromUse$Row;", true)
  | 1 => ("TestsFromUse$MadeTest", "met", "I", false)
  | 2 => ("TestsFromUse$MadeTest", "touched", "Z", false)
  | _ => ("TestsFromUse$MadeTest", "broken", "Z", false)
def tyX3 : Nat → FieldType := fun k => match k with
  | 0 => .object "TestsFromUse$Row"
  | 1 => .int
  | 2 => .boolean
  | _ => .boolean
abbrev wsX30 : List Cond := u_ws RX3 TX3 4
theorem nmX3 : ∀ a, a < 4 → ∀ b, b < 4 → a ≠ b → (TX3 a).2.1 ≠ (TX3 b).2.1 := by decide +kernel
theorem tyX3_ok : ∀ k, k < 4 → parseFieldDescriptor (TX3 k).2.2.1 = some (tyX3 k) := by decide +kernel
abbrev cX3_init : ByteArray := prog_5_method_1_code
def yX3_init : MethodName := ⟨RX3, "<init>", "()V"⟩
abbrev cX3_settle : ByteArray := prog_5_method_2_code
def yX3_settle : MethodName := ⟨RX3, "settle", "(LTestsFromUse$Replay;)V"⟩
def RX4 : String := "TestsFromUse$Replay"
def TX4 : u_T := fun k => match k with
  | 0 => ("TestsFromUse$Replay", "machine", "LTestsFromUse$Machine;", true)
  | 1 => ("TestsFromUse$Replay", "results", "[I", true)
  | 2 => ("TestsFromUse$Replay", "size", "I", false)
  | 3 => ("TestsFromUse$Replay", "met", "I", false)
  | _ => ("TestsFromUse$Replay", "lastTaken", "I", false)
def tyX4 : Nat → FieldType := fun k => match k with
  | 0 => .object "TestsFromUse$Machine"
  | 1 => .array .int
  | 2 => .int
  | 3 => .int
  | _ => .int
abbrev wsX40 : List Cond := u_ws RX4 TX4 5
theorem nmX4 : ∀ a, a < 5 → ∀ b, b < 5 → a ≠ b → (TX4 a).2.1 ≠ (TX4 b).2.1 := by decide +kernel
theorem tyX4_ok : ∀ k, k < 5 → parseFieldDescriptor (TX4 k).2.2.1 = some (tyX4 k) := by decide +kernel
abbrev cX4_init : ByteArray := prog_6_method_1_code
def yX4_init : MethodName := ⟨RX4, "<init>", "(LTestsFromUse$Machine;)V"⟩
abbrev cX4_play : ByteArray := prog_6_method_2_code
def yX4_play : MethodName := ⟨RX4, "play", "(LTestsFromUse$Row;)V"⟩
abbrev cX4_meets : ByteArray := prog_6_method_3_code
def yX4_meets : MethodName := ⟨RX4, "meets", "(LTestsFromUse$Row;)I"⟩
abbrev cX4_met : ByteArray := prog_6_method_4_code
def yX4_met : MethodName := ⟨RX4, "met", "()I"⟩
abbrev cX4_lastTaken : ByteArray := prog_6_method_5_code
def yX4_lastTaken : MethodName := ⟨RX4, "lastTaken", "()I"⟩
abbrev cX4_lastResult : ByteArray := prog_6_method_6_code
def yX4_lastResult : MethodName := ⟨RX4, "lastResult", "()I"⟩
abbrev cX4_resultAt : ByteArray := prog_6_method_7_code
def yX4_resultAt : MethodName := ⟨RX4, "resultAt", "(I)I"⟩
abbrev cX4_firstDifference : ByteArray := prog_6_method_8_code
def yX4_firstDifference : MethodName := ⟨RX4, "firstDifference", "(LTestsFromUse$Row;)I"⟩
abbrev cX4_differences : ByteArray := prog_6_method_9_code
def yX4_differences : MethodName := ⟨RX4, "differences", "(LTestsFromUse$Row;)I"⟩
def RX5 : String := "TestsFromUse$Row"
def TX5 : u_T := fun k => match k with
  | 0 => ("TestsFromUse$Row", "calls", "[I", true)
  | 1 => ("TestsFromUse$Row", "results", "[I", true)
  | _ => ("TestsFromUse$Row", "size", "I", false)
def tyX5 : Nat → FieldType := fun k => match k with
  | 0 => .array .int
  | 1 => .array .int
  | _ => .int
abbrev wsX50 : List Cond := u_ws RX5 TX5 3
theorem nmX5 : ∀ a, a < 3 → ∀ b, b < 3 → a ≠ b → (TX5 a).2.1 ≠ (TX5 b).2.1 := by decide +kernel
theorem tyX5_ok : ∀ k, k < 3 → parseFieldDescriptor (TX5 k).2.2.1 = some (tyX5 k) := by decide +kernel
abbrev cX5_init : ByteArray := prog_7_method_1_code
def yX5_init : MethodName := ⟨RX5, "<init>", "()V"⟩
abbrev cX5_size : ByteArray := prog_7_method_2_code
def yX5_size : MethodName := ⟨RX5, "size", "()I"⟩
abbrev cX5_callAt : ByteArray := prog_7_method_3_code
def yX5_callAt : MethodName := ⟨RX5, "callAt", "(I)I"⟩
abbrev cX5_resultAt : ByteArray := prog_7_method_4_code
def yX5_resultAt : MethodName := ⟨RX5, "resultAt", "(I)I"⟩
abbrev cX5_add : ByteArray := prog_7_method_5_code
def yX5_add : MethodName := ⟨RX5, "add", "(II)V"⟩
abbrev cX5_move : ByteArray := prog_7_method_6_code
def yX5_move : MethodName := ⟨RX5, "move", "(II)V"⟩
abbrev cX5_cutTo : ByteArray := prog_7_method_7_code
def yX5_cutTo : MethodName := ⟨RX5, "cutTo", "(I)V"⟩
abbrev cX5_copyStart : ByteArray := prog_7_method_8_code
def yX5_copyStart : MethodName := ⟨RX5, "copyStart", "(LTestsFromUse$Row;I)V"⟩
abbrev cX5_takeResults : ByteArray := prog_7_method_9_code
def yX5_takeResults : MethodName := ⟨RX5, "takeResults", "(LTestsFromUse$Replay;)V"⟩
abbrev cX5_hasCallOf : ByteArray := prog_7_method_10_code
def yX5_hasCallOf : MethodName := ⟨RX5, "hasCallOf", "(I)Z"⟩
abbrev cX5_hasSameCalls : ByteArray := prog_7_method_11_code
def yX5_hasSameCalls : MethodName := ⟨RX5, "hasSameCalls", "(LTestsFromUse$Row;)Z"⟩
def RX6 : String := "TestsFromUse$Shortener"
def TX6 : u_T := fun k => match k with
  | 0 => ("TestsFromUse$Shortener", "machine", "LTestsFromUse$Machine;", true)
  | 1 => ("TestsFromUse$Shortener", "wantedTaken", "I", false)
  | _ => ("TestsFromUse$Shortener", "wantedResult", "I", false)
def tyX6 : Nat → FieldType := fun k => match k with
  | 0 => .object "TestsFromUse$Machine"
  | 1 => .int
  | _ => .int
abbrev wsX60 : List Cond := u_ws RX6 TX6 3
theorem nmX6 : ∀ a, a < 3 → ∀ b, b < 3 → a ≠ b → (TX6 a).2.1 ≠ (TX6 b).2.1 := by decide +kernel
theorem tyX6_ok : ∀ k, k < 3 → parseFieldDescriptor (TX6 k).2.2.1 = some (tyX6 k) := by decide +kernel
abbrev cX6_init : ByteArray := prog_8_method_1_code
def yX6_init : MethodName := ⟨RX6, "<init>", "(LTestsFromUse$Machine;)V"⟩
abbrev cX6_shorten : ByteArray := prog_8_method_2_code
def yX6_shorten : MethodName := ⟨RX6, "shorten", "(LTestsFromUse$Row;II)V"⟩
abbrev cX6_leaveOut : ByteArray := prog_8_method_3_code
def yX6_leaveOut : MethodName := ⟨RX6, "leaveOut", "(LTestsFromUse$Row;)Z"⟩
abbrev cX6_endsAlike : ByteArray := prog_8_method_4_code
def yX6_endsAlike : MethodName := ⟨RX6, "endsAlike", "(LTestsFromUse$Row;II)Z"⟩
def RX7 : String := "TestsFromUse$Suite"
def TX7 : u_T := fun k => match k with
  | 0 => ("TestsFromUse$Suite", "tests", "[LTestsFromUse$MadeTest;", true)
  | 1 => ("TestsFromUse$Suite", "meets", "[I", true)
  | _ => ("TestsFromUse$Suite", "size", "I", false)
def tyX7 : Nat → FieldType := fun k => match k with
  | 0 => .array (.object "TestsFromUse$MadeTest")
  | 1 => .array .int
  | _ => .int
abbrev wsX70 : List Cond := u_ws RX7 TX7 3
theorem nmX7 : ∀ a, a < 3 → ∀ b, b < 3 → a ≠ b → (TX7 a).2.1 ≠ (TX7 b).2.1 := by decide +kernel
theorem tyX7_ok : ∀ k, k < 3 → parseFieldDescriptor (TX7 k).2.2.1 = some (tyX7 k) := by decide +kernel
abbrev cX7_init : ByteArray := prog_9_method_1_code
def yX7_init : MethodName := ⟨RX7, "<init>", "()V"⟩
abbrev cX7_size : ByteArray := prog_9_method_2_code
def yX7_size : MethodName := ⟨RX7, "size", "()I"⟩
abbrev cX7_at : ByteArray := prog_9_method_3_code
def yX7_at : MethodName := ⟨RX7, "at", "(I)LTestsFromUse$MadeTest;"⟩
abbrev cX7_spare : ByteArray := prog_9_method_4_code
def yX7_spare : MethodName := ⟨RX7, "spare", "()LTestsFromUse$MadeTest;"⟩
abbrev cX7_keepSpare : ByteArray := prog_9_method_5_code
def yX7_keepSpare : MethodName := ⟨RX7, "keepSpare", "()I"⟩
abbrev cX7_remove : ByteArray := prog_9_method_6_code
def yX7_remove : MethodName := ⟨RX7, "remove", "(I)Z"⟩
abbrev cX7_hasLike : ByteArray := prog_9_method_7_code
def yX7_hasLike : MethodName := ⟨RX7, "hasLike", "(LTestsFromUse$MadeTest;)Z"⟩
abbrev cX7_touchThoseThatMet : ByteArray := prog_9_method_8_code
def yX7_touchThoseThatMet : MethodName := ⟨RX7, "touchThoseThatMet", "(I)V"⟩
abbrev cX7_touchCallersOf : ByteArray := prog_9_method_9_code
def yX7_touchCallersOf : MethodName := ⟨RX7, "touchCallersOf", "(I)V"⟩
abbrev cX7_touchedOnes : ByteArray := prog_9_method_10_code
def yX7_touchedOnes : MethodName := ⟨RX7, "touchedOnes", "()I"⟩
abbrev cX7_brokenOnes : ByteArray := prog_9_method_11_code
def yX7_brokenOnes : MethodName := ⟨RX7, "brokenOnes", "()I"⟩
abbrev cX7_leastHeap : ByteArray := prog_9_method_12_code
def yX7_leastHeap : MethodName := ⟨RX7, "leastHeap", "(LTestsFromUse$Replay;)I"⟩
abbrev cX7_metByHeap : ByteArray := prog_9_method_13_code
def yX7_metByHeap : MethodName := ⟨RX7, "metByHeap", "(I)I"⟩
def RX8 : String := "TestsFromUse"
def TX8 : u_T := fun k => match k with
  | 0 => ("TestsFromUse", "machine", "LTestsFromUse$Machine;", true)
  | 1 => ("TestsFromUse", "log", "LTestsFromUse$Log;", true)
  | 2 => ("TestsFromUse", "suite", "LTestsFromUse$Suite;", true)
  | 3 => ("TestsFromUse", "replay", "LTestsFromUse$Replay;", true)
  | _ => ("TestsFromUse", "shortener", "LTestsFromUse$Shortener;", true)
def tyX8 : Nat → FieldType := fun k => match k with
  | 0 => .object "TestsFromUse$Machine"
  | 1 => .object "TestsFromUse$Log"
  | 2 => .object "TestsFromUse$Suite"
  | 3 => .object "TestsFromUse$Replay"
  | _ => .object "TestsFromUse$Shortener"
abbrev wsX80 : List Cond := u_ws RX8 TX8 5
theorem nmX8 : ∀ a, a < 5 → ∀ b, b < 5 → a ≠ b → (TX8 a).2.1 ≠ (TX8 b).2.1 := by decide +kernel
theorem tyX8_ok : ∀ k, k < 5 → parseFieldDescriptor (TX8 k).2.2.1 = some (tyX8 k) := by decide +kernel
abbrev cX8_init : ByteArray := prog_1_method_1_code
def yX8_init : MethodName := ⟨RX8, "<init>", "()V"⟩
abbrev cX8_branch : ByteArray := prog_1_method_2_code
def yX8_branch : MethodName := ⟨RX8, "branch", "(IIII)I"⟩
abbrev cX8_change : ByteArray := prog_1_method_3_code
def yX8_change : MethodName := ⟨RX8, "change", "(IIII)Z"⟩
abbrev cX8_call : ByteArray := prog_1_method_4_code
def yX8_call : MethodName := ⟨RX8, "call", "(II)I"⟩
abbrev cX8_fresh : ByteArray := prog_1_method_5_code
def yX8_fresh : MethodName := ⟨RX8, "fresh", "()I"⟩
abbrev cX8_logged : ByteArray := prog_1_method_6_code
def yX8_logged : MethodName := ⟨RX8, "logged", "(II)I"⟩
abbrev cX8_make : ByteArray := prog_1_method_7_code
def yX8_make : MethodName := ⟨RX8, "make", "(I)I"⟩
abbrev cX8_drop : ByteArray := prog_1_method_8_code
def yX8_drop : MethodName := ⟨RX8, "drop", "(I)Z"⟩
abbrev cX8_told : ByteArray := prog_1_method_9_code
def yX8_told : MethodName := ⟨RX8, "told", "(II)I"⟩
abbrev cX8_row : ByteArray := prog_1_method_10_code
def yX8_row : MethodName := ⟨RX8, "row", "(III)I"⟩
abbrev cX8_differs : ByteArray := prog_1_method_11_code
def yX8_differs : MethodName := ⟨RX8, "differs", "(I)I"⟩
abbrev cX8_run : ByteArray := prog_1_method_12_code
def yX8_run : MethodName := ⟨RX8, "run", "()I"⟩
abbrev cX8_accept : ByteArray := prog_1_method_13_code
def yX8_accept : MethodName := ⟨RX8, "accept", "(I)Z"⟩
abbrev cX8_reached : ByteArray := prog_1_method_14_code
def yX8_reached : MethodName := ⟨RX8, "reached", "()I"⟩
abbrev cX8_never : ByteArray := prog_1_method_15_code
def yX8_never : MethodName := ⟨RX8, "never", "()I"⟩
abbrev cX8_fewest : ByteArray := prog_1_method_16_code
def yX8_fewest : MethodName := ⟨RX8, "fewest", "()I"⟩
abbrev cX8_chosen : ByteArray := prog_1_method_17_code
def yX8_chosen : MethodName := ⟨RX8, "chosen", "()I"⟩
abbrev cX8_register : ByteArray := prog_1_method_18_code
def yX8_register : MethodName := ⟨RX8, "register", "(I)I"⟩
abbrev cX8_count : ByteArray := prog_1_method_19_code
def yX8_count : MethodName := ⟨RX8, "count", "(I)I"⟩
abbrev cX8_firstDifference : ByteArray := prog_1_method_20_code
def yX8_firstDifference : MethodName := ⟨RX8, "firstDifference", "(LTestsFromUse$MadeTest;)I"⟩
abbrev cX8_resultNow : ByteArray := prog_1_method_21_code
def yX8_resultNow : MethodName := ⟨RX8, "resultNow", "(LTestsFromUse$MadeTest;I)I"⟩
abbrev cX8_differencesOfLog : ByteArray := prog_1_method_22_code
def yX8_differencesOfLog : MethodName := ⟨RX8, "differencesOfLog", "()I"⟩
abbrev cX8_isBelow : ByteArray := prog_1_method_23_code
def yX8_isBelow : MethodName := ⟨RX8, "isBelow", "(II)Z"⟩
abbrev cX8_callOf : ByteArray := prog_1_method_24_code
def yX8_callOf : MethodName := ⟨RX8, "callOf", "(II)I"⟩
abbrev cX8_kindOf : ByteArray := prog_1_method_25_code
def yX8_kindOf : MethodName := ⟨RX8, "kindOf", "(I)I"⟩
abbrev cX8_numberOf : ByteArray := prog_1_method_26_code
def yX8_numberOf : MethodName := ⟨RX8, "numberOf", "(I)I"⟩
abbrev cX8_valueIn : ByteArray := prog_1_method_27_code
def yX8_valueIn : MethodName := ⟨RX8, "valueIn", "(II)I"⟩
abbrev cX8_withValue : ByteArray := prog_1_method_28_code
def yX8_withValue : MethodName := ⟨RX8, "withValue", "(III)I"⟩
def RX9 : String := "TestsFromUseModel"
def TX9 : u_T := fun k => match k with
  | 0 => ("TestsFromUseModel", "many", "[I", true)
  | 1 => ("TestsFromUseModel", "when", "[I", true)
  | 2 => ("TestsFromUseModel", "then", "[I", true)
  | 3 => ("TestsFromUseModel", "from", "[I", true)
  | 4 => ("TestsFromUseModel", "calls", "I", false)
  | 5 => ("TestsFromUseModel", "logKind", "[I", true)
  | 6 => ("TestsFromUseModel", "logNumber", "[I", true)
  | 7 => ("TestsFromUseModel", "logResult", "[I", true)
  | 8 => ("TestsFromUseModel", "logBranch", "[I", true)
  | 9 => ("TestsFromUseModel", "live", "[I", true)
  | 10 => ("TestsFromUseModel", "tests", "I", false)
  | 11 => ("TestsFromUseModel", "rowLong", "[I", true)
  | 12 => ("TestsFromUseModel", "rowKind", "[I", true)
  | 13 => ("TestsFromUseModel", "rowNumber", "[I", true)
  | 14 => ("TestsFromUseModel", "rowAsks", "[I", true)
  | 15 => ("TestsFromUseModel", "met", "[I", true)
  | 16 => ("TestsFromUseModel", "isTouched", "[Z", true)
  | 17 => ("TestsFromUseModel", "isBroken", "[Z", true)
  | 18 => ("TestsFromUseModel", "now", "[I", true)
  | 19 => ("TestsFromUseModel", "took", "I", false)
  | 20 => ("TestsFromUseModel", "isOut", "[Z", true)
  | _ => ("TestsFromUseModel", "meetsNow", "[I", true)
def tyX9 : Nat → FieldType := fun k => match k with
  | 0 => .array .int
  | 1 => .array .int
  | 2 => .array .int
  | 3 => .array .int
  | 4 => .int
  | 5 => .array .int
  | 6 => .array .int
  | 7 => .array .int
  | 8 => .array .int
  | 9 => .array .int
  | 10 => .int
  | 11 => .array .int
  | 12 => .array .int
  | 13 => .array .int
  | 14 => .array .int
  | 15 => .array .int
  | 16 => .array .boolean
  | 17 => .array .boolean
  | 18 => .array .int
  | 19 => .int
  | 20 => .array .boolean
  | _ => .array .int
abbrev wsX90 : List Cond := u_ws RX9 TX9 22
theorem nmX9 : ∀ a, a < 22 → ∀ b, b < 22 → a ≠ b → (TX9 a).2.1 ≠ (TX9 b).2.1 := by decide +kernel
theorem tyX9_ok : ∀ k, k < 22 → parseFieldDescriptor (TX9 k).2.2.1 = some (tyX9 k) := by decide +kernel
abbrev cX9_init : ByteArray := prog_11_method_1_code
def yX9_init : MethodName := ⟨RX9, "<init>", "()V"⟩
abbrev cX9_in : ByteArray := prog_11_method_2_code
def yX9_in : MethodName := ⟨RX9, "in", "(III)Z"⟩
abbrev cX9_isKind : ByteArray := prog_11_method_3_code
def yX9_isKind : MethodName := ⟨RX9, "isKind", "(I)Z"⟩
abbrev cX9_isBranch : ByteArray := prog_11_method_4_code
def yX9_isBranch : MethodName := ⟨RX9, "isBranch", "(III)Z"⟩
abbrev cX9_tells : ByteArray := prog_11_method_5_code
def yX9_tells : MethodName := ⟨RX9, "tells", "(IIII)V"⟩
abbrev cX9_branch : ByteArray := prog_11_method_6_code
def yX9_branch : MethodName := ⟨RX9, "branch", "(IIII)I"⟩
abbrev cX9_isThere : ByteArray := prog_11_method_7_code
def yX9_isThere : MethodName := ⟨RX9, "isThere", "(I)Z"⟩
abbrev cX9_change : ByteArray := prog_11_method_8_code
def yX9_change : MethodName := ⟨RX9, "change", "(IIII)Z"⟩
abbrev cX9_begins : ByteArray := prog_11_method_9_code
def yX9_begins : MethodName := ⟨RX9, "begins", "()V"⟩
abbrev cX9_holds : ByteArray := prog_11_method_10_code
def yX9_holds : MethodName := ⟨RX9, "holds", "(I)Z"⟩
abbrev cX9_goes : ByteArray := prog_11_method_11_code
def yX9_goes : MethodName := ⟨RX9, "goes", "(II)I"⟩
abbrev cX9_call : ByteArray := prog_11_method_12_code
def yX9_call : MethodName := ⟨RX9, "call", "(II)I"⟩
abbrev cX9_fresh : ByteArray := prog_11_method_13_code
def yX9_fresh : MethodName := ⟨RX9, "fresh", "()I"⟩
abbrev cX9_logged : ByteArray := prog_11_method_14_code
def yX9_logged : MethodName := ⟨RX9, "logged", "(II)I"⟩
abbrev cX9_ends : ByteArray := prog_11_method_15_code
def yX9_ends : MethodName := ⟨RX9, "ends", "(I)I"⟩
abbrev cX9_shrinks : ByteArray := prog_11_method_16_code
def yX9_shrinks : MethodName := ⟨RX9, "shrinks", "(I)V"⟩
abbrev cX9_isLike : ByteArray := prog_11_method_17_code
def yX9_isLike : MethodName := ⟨RX9, "isLike", "(II)Z"⟩
abbrev cX9_make : ByteArray := prog_11_method_18_code
def yX9_make : MethodName := ⟨RX9, "make", "(I)I"⟩
abbrev cX9_isTest : ByteArray := prog_11_method_19_code
def yX9_isTest : MethodName := ⟨RX9, "isTest", "(I)Z"⟩
abbrev cX9_accept : ByteArray := prog_11_method_20_code
def yX9_accept : MethodName := ⟨RX9, "accept", "(I)Z"⟩
abbrev cX9_drop : ByteArray := prog_11_method_21_code
def yX9_drop : MethodName := ⟨RX9, "drop", "(I)Z"⟩
abbrev cX9_differs : ByteArray := prog_11_method_22_code
def yX9_differs : MethodName := ⟨RX9, "differs", "(I)I"⟩
abbrev cX9_meets : ByteArray := prog_11_method_23_code
def yX9_meets : MethodName := ⟨RX9, "meets", "(I)I"⟩
abbrev cX9_told : ByteArray := prog_11_method_24_code
def yX9_told : MethodName := ⟨RX9, "told", "(II)I"⟩
abbrev cX9_givesNow : ByteArray := prog_11_method_25_code
def yX9_givesNow : MethodName := ⟨RX9, "givesNow", "(II)I"⟩
abbrev cX9_row : ByteArray := prog_11_method_26_code
def yX9_row : MethodName := ⟨RX9, "row", "(III)I"⟩
abbrev cX9_run : ByteArray := prog_11_method_27_code
def yX9_run : MethodName := ⟨RX9, "run", "()I"⟩
abbrev cX9_reached : ByteArray := prog_11_method_28_code
def yX9_reached : MethodName := ⟨RX9, "reached", "()I"⟩
abbrev cX9_never : ByteArray := prog_11_method_29_code
def yX9_never : MethodName := ⟨RX9, "never", "()I"⟩
abbrev cX9_bits : ByteArray := prog_11_method_30_code
def yX9_bits : MethodName := ⟨RX9, "bits", "(I)I"⟩
abbrev cX9_chosen : ByteArray := prog_11_method_31_code
def yX9_chosen : MethodName := ⟨RX9, "chosen", "()I"⟩
abbrev cX9_fewest : ByteArray := prog_11_method_32_code
def yX9_fewest : MethodName := ⟨RX9, "fewest", "()I"⟩
abbrev cX9_register : ByteArray := prog_11_method_33_code
def yX9_register : MethodName := ⟨RX9, "register", "(I)I"⟩
abbrev cX9_count : ByteArray := prog_11_method_34_code
def yX9_count : MethodName := ⟨RX9, "count", "(I)I"⟩
def RJ6 : String := "java/lang/Integer"
def TJ6 : u_T := fun k => match k with
  | _ => ("", "", "", false)
def tyJ6 : Nat → FieldType := fun k => match k with
  | _ => .int
abbrev wsJ60 : List Cond := u_ws RJ6 TJ6 0
theorem nmJ6 : ∀ a, a < 0 → ∀ b, b < 0 → a ≠ b → (TJ6 a).2.1 ≠ (TJ6 b).2.1 := by decide +kernel
theorem tyJ6_ok : ∀ k, k < 0 → parseFieldDescriptor (TJ6 k).2.2.1 = some (tyJ6 k) := by decide +kernel
abbrev cJ6_bitCount_0f7a4 : ByteArray := prog_12_method_49_code
def yJ6_bitCount_0f7a4 : MethodName := ⟨RJ6, "bitCount", "(I)I"⟩
def RL : String := "TestsFromUseLaw"
abbrev cL_law : ByteArray := code
def yL_law : MethodName := ⟨RL, "law", "([I)Z"⟩
abbrev vwCl : List vw_C := [(RX0, TX0, 8), (RX1, TX1, 3), (RX2, TX2, 2), (RX3, TX3, 4), (RX4, TX4, 5), (RX5, TX5, 3), (RX6, TX6, 3), (RX7, TX7, 3), (RX8, TX8, 5), (RX9, TX9, 22)]
/-- the good words of the tables: the words of every method -/
def tg : List Cond := lw_tbl.filter goodWord
theorem tg_at {w : Cond} (i : Nat) (h : lw_tbl[i]? = some w) (hg : goodWord w = true) : w ∈ tg := List.mem_filter.mpr ⟨List.mem_of_getElem? h, hg⟩
theorem tg_good : GoodIn tg tg := fun w h => ⟨h, good_of_word (List.mem_filter.mp h).2⟩
theorem se_yX6_leaveOut : Cond.selects RX6 yX6_leaveOut yX6_leaveOut ∈ tg := tg_at 0 (by decide +kernel) rfl
theorem se_yX6_endsAlike : Cond.selects RX6 yX6_endsAlike yX6_endsAlike ∈ tg := tg_at 1 (by decide +kernel) rfl
theorem se_yX8_firstDifference : Cond.selects RX8 yX8_firstDifference yX8_firstDifference ∈ tg := tg_at 2 (by decide +kernel) rfl
theorem se_yX8_resultNow : Cond.selects RX8 yX8_resultNow yX8_resultNow ∈ tg := tg_at 3 (by decide +kernel) rfl
theorem se_yX7_metByHeap : Cond.selects RX7 yX7_metByHeap yX7_metByHeap ∈ tg := tg_at 4 (by decide +kernel) rfl
theorem se_yX8_differencesOfLog : Cond.selects RX8 yX8_differencesOfLog yX8_differencesOfLog ∈ tg := tg_at 5 (by decide +kernel) rfl
theorem se_yX9_tells : Cond.selects RX9 yX9_tells yX9_tells ∈ tg := tg_at 6 (by decide +kernel) rfl
theorem se_yX9_isThere : Cond.selects RX9 yX9_isThere yX9_isThere ∈ tg := tg_at 7 (by decide +kernel) rfl
theorem se_yX9_goes : Cond.selects RX9 yX9_goes yX9_goes ∈ tg := tg_at 8 (by decide +kernel) rfl
theorem se_yX9_holds : Cond.selects RX9 yX9_holds yX9_holds ∈ tg := tg_at 9 (by decide +kernel) rfl
theorem se_yX9_shrinks : Cond.selects RX9 yX9_shrinks yX9_shrinks ∈ tg := tg_at 10 (by decide +kernel) rfl
theorem se_yX9_ends : Cond.selects RX9 yX9_ends yX9_ends ∈ tg := tg_at 11 (by decide +kernel) rfl
theorem se_yX9_begins : Cond.selects RX9 yX9_begins yX9_begins ∈ tg := tg_at 12 (by decide +kernel) rfl
theorem se_yX9_isLike : Cond.selects RX9 yX9_isLike yX9_isLike ∈ tg := tg_at 13 (by decide +kernel) rfl
theorem se_yX9_isTest : Cond.selects RX9 yX9_isTest yX9_isTest ∈ tg := tg_at 14 (by decide +kernel) rfl
theorem se_yX9_meets : Cond.selects RX9 yX9_meets yX9_meets ∈ tg := tg_at 15 (by decide +kernel) rfl
theorem se_yX9_givesNow : Cond.selects RX9 yX9_givesNow yX9_givesNow ∈ tg := tg_at 16 (by decide +kernel) rfl
theorem ini_L : Cond.initialized RL ∈ tg := tg_at 17 (by decide +kernel) rfl
theorem ini_X8 : Cond.initialized RX8 ∈ tg := tg_at 18 (by decide +kernel) rfl
theorem ini_X2 : Cond.initialized RX2 ∈ tg := tg_at 19 (by decide +kernel) rfl
theorem ini_X1 : Cond.initialized RX1 ∈ tg := tg_at 20 (by decide +kernel) rfl
theorem ini_X5 : Cond.initialized RX5 ∈ tg := tg_at 21 (by decide +kernel) rfl
theorem ini_X7 : Cond.initialized RX7 ∈ tg := tg_at 22 (by decide +kernel) rfl
theorem ini_X3 : Cond.initialized RX3 ∈ tg := tg_at 23 (by decide +kernel) rfl
theorem ini_X4 : Cond.initialized RX4 ∈ tg := tg_at 24 (by decide +kernel) rfl
theorem ini_X6 : Cond.initialized RX6 ∈ tg := tg_at 25 (by decide +kernel) rfl
theorem ini_X9 : Cond.initialized RX9 ∈ tg := tg_at 26 (by decide +kernel) rfl
theorem ini_X0 : Cond.initialized RX0 ∈ tg := tg_at 27 (by decide +kernel) rfl
theorem ini_J6 : Cond.initialized RJ6 ∈ tg := tg_at 28 (by decide +kernel) rfl
theorem cl_L_7 : Cond.classLink RL 7 RX8 ∈ tg := tg_at 29 (by decide +kernel) rfl
theorem inst_X8 : Cond.instantiable RX8 5 ∈ tg := tg_at 30 (by decide +kernel) rfl
theorem ml_L_9 : Cond.methodLink RL 9 yX8_init ∈ tg := tg_at 31 (by decide +kernel) rfl
theorem im_yX8_init : Cond.instanceMethod yX8_init ∈ tg := tg_at 32 (by decide +kernel) rfl
theorem co_yX8_init : Cond.code yX8_init cX8_init 1 none ∈ tg := tg_at 33 (by decide +kernel) rfl
theorem ml_X8_3 : Cond.methodLink RX8 3 objectInit ∈ tg := tg_at 34 (by decide +kernel) rfl
theorem im_objectInit : Cond.instanceMethod objectInit ∈ tg := tg_at 35 (by decide +kernel) rfl
theorem co_objectInit : Cond.code objectInit ⟨#[0xb1]⟩ 1 none ∈ tg := tg_at 36 (by decide +kernel) rfl
theorem cl_X8_9 : Cond.classLink RX8 9 RX2 ∈ tg := tg_at 37 (by decide +kernel) rfl
theorem inst_X2 : Cond.instantiable RX2 2 ∈ tg := tg_at 38 (by decide +kernel) rfl
theorem im_yX2_init : Cond.instanceMethod yX2_init ∈ tg := tg_at 40 (by decide +kernel) rfl
theorem co_yX2_init : Cond.code yX2_init cX2_init 1 none ∈ tg := tg_at 41 (by decide +kernel) rfl
theorem ml_X2_3 : Cond.methodLink RX2 3 objectInit ∈ tg := tg_at 42 (by decide +kernel) rfl
theorem cl_X2_9 : Cond.classLink RX2 9 RX0 ∈ tg := tg_at 43 (by decide +kernel) rfl
theorem ao_X0 : Cond.arrayOver (.object "TestsFromUse$Branch") ∈ lw_tbl := List.mem_of_getElem? (i := 44) (by decide +kernel)
theorem fl_X2_11 : Cond.fieldLink RX2 11 "TestsFromUse$Machine" "branches" "[LTestsFromUse$Branch;" ∈ tg := tg_at 45 (by decide +kernel) rfl
theorem fl_X2_17 : Cond.fieldLink RX2 17 "TestsFromUse$Machine" "sizes" "[I" ∈ tg := tg_at 46 (by decide +kernel) rfl
theorem ac_int : Cond.arrayClass .int ∈ tg := tg_at 52 (by decide +kernel) rfl
theorem cl_X8_16 : Cond.classLink RX8 16 RX1 ∈ tg := tg_at 53 (by decide +kernel) rfl
theorem inst_X1 : Cond.instantiable RX1 3 ∈ tg := tg_at 54 (by decide +kernel) rfl
theorem im_yX1_init : Cond.instanceMethod yX1_init ∈ tg := tg_at 56 (by decide +kernel) rfl
theorem co_yX1_init : Cond.code yX1_init cX1_init 1 none ∈ tg := tg_at 57 (by decide +kernel) rfl
theorem ml_X1_3 : Cond.methodLink RX1 3 objectInit ∈ tg := tg_at 58 (by decide +kernel) rfl
theorem cl_X1_9 : Cond.classLink RX1 9 RX5 ∈ tg := tg_at 59 (by decide +kernel) rfl
theorem inst_X5 : Cond.instantiable RX5 3 ∈ tg := tg_at 60 (by decide +kernel) rfl
theorem im_yX5_init : Cond.instanceMethod yX5_init ∈ tg := tg_at 62 (by decide +kernel) rfl
theorem co_yX5_init : Cond.code yX5_init cX5_init 1 none ∈ tg := tg_at 63 (by decide +kernel) rfl
theorem ml_X5_3 : Cond.methodLink RX5 3 objectInit ∈ tg := tg_at 64 (by decide +kernel) rfl
theorem fl_X5_9 : Cond.fieldLink RX5 9 "TestsFromUse$Row" "calls" "[I" ∈ tg := tg_at 65 (by decide +kernel) rfl
theorem fl_X5_15 : Cond.fieldLink RX5 15 "TestsFromUse$Row" "results" "[I" ∈ tg := tg_at 66 (by decide +kernel) rfl
theorem fl_X5_18 : Cond.fieldLink RX5 18 "TestsFromUse$Row" "size" "I" ∈ tg := tg_at 67 (by decide +kernel) rfl
theorem fl_X1_12 : Cond.fieldLink RX1 12 "TestsFromUse$Log" "row" "LTestsFromUse$Row;" ∈ tg := tg_at 75 (by decide +kernel) rfl
theorem fl_X1_18 : Cond.fieldLink RX1 18 "TestsFromUse$Log" "taken" "[I" ∈ tg := tg_at 77 (by decide +kernel) rfl
theorem fl_X1_22 : Cond.fieldLink RX1 22 "TestsFromUse$Log" "state" "I" ∈ tg := tg_at 78 (by decide +kernel) rfl
theorem cl_X8_23 : Cond.classLink RX8 23 RX7 ∈ tg := tg_at 87 (by decide +kernel) rfl
theorem inst_X7 : Cond.instantiable RX7 3 ∈ tg := tg_at 88 (by decide +kernel) rfl
theorem ml_X8_25 : Cond.methodLink RX8 25 yX7_init ∈ tg := tg_at 89 (by decide +kernel) rfl
theorem im_yX7_init : Cond.instanceMethod yX7_init ∈ tg := tg_at 90 (by decide +kernel) rfl
theorem co_yX7_init : Cond.code yX7_init cX7_init 2 none ∈ tg := tg_at 91 (by decide +kernel) rfl
theorem ml_X7_3 : Cond.methodLink RX7 3 objectInit ∈ tg := tg_at 92 (by decide +kernel) rfl
theorem cl_X7_9 : Cond.classLink RX7 9 RX3 ∈ tg := tg_at 93 (by decide +kernel) rfl
theorem ao_X3 : Cond.arrayOver (.object "TestsFromUse$MadeTest") ∈ lw_tbl := List.mem_of_getElem? (i := 94) (by decide +kernel)
theorem inst_X3 : Cond.instantiable RX3 4 ∈ tg := tg_at 95 (by decide +kernel) rfl
theorem im_yX3_init : Cond.instanceMethod yX3_init ∈ tg := tg_at 97 (by decide +kernel) rfl
theorem co_yX3_init : Cond.code yX3_init cX3_init 1 none ∈ tg := tg_at 98 (by decide +kernel) rfl
theorem ml_X3_1 : Cond.methodLink RX3 1 objectInit ∈ tg := tg_at 99 (by decide +kernel) rfl
theorem cl_X3_7 : Cond.classLink RX3 7 RX5 ∈ tg := tg_at 100 (by decide +kernel) rfl
theorem fl_X3_10 : Cond.fieldLink RX3 10 "TestsFromUse$MadeTest" "row" "LTestsFromUse$Row;" ∈ tg := tg_at 102 (by decide +kernel) rfl
theorem fl_X3_16 : Cond.fieldLink RX3 16 "TestsFromUse$MadeTest" "met" "I" ∈ tg := tg_at 105 (by decide +kernel) rfl
theorem fl_X3_20 : Cond.fieldLink RX3 20 "TestsFromUse$MadeTest" "touched" "Z" ∈ tg := tg_at 108 (by decide +kernel) rfl
theorem fl_X3_24 : Cond.fieldLink RX3 24 "TestsFromUse$MadeTest" "broken" "Z" ∈ tg := tg_at 111 (by decide +kernel) rfl
theorem fl_X7_11 : Cond.fieldLink RX7 11 "TestsFromUse$Suite" "tests" "[LTestsFromUse$MadeTest;" ∈ tg := tg_at 123 (by decide +kernel) rfl
theorem fl_X7_17 : Cond.fieldLink RX7 17 "TestsFromUse$Suite" "meets" "[I" ∈ tg := tg_at 124 (by decide +kernel) rfl
theorem fl_X7_21 : Cond.fieldLink RX7 21 "TestsFromUse$Suite" "size" "I" ∈ tg := tg_at 125 (by decide +kernel) rfl
theorem cl_X8_30 : Cond.classLink RX8 30 RX4 ∈ tg := tg_at 133 (by decide +kernel) rfl
theorem inst_X4 : Cond.instantiable RX4 5 ∈ tg := tg_at 134 (by decide +kernel) rfl
theorem ml_X8_32 : Cond.methodLink RX8 32 yX4_init ∈ tg := tg_at 135 (by decide +kernel) rfl
theorem im_yX4_init : Cond.instanceMethod yX4_init ∈ tg := tg_at 136 (by decide +kernel) rfl
theorem co_yX4_init : Cond.code yX4_init cX4_init 2 none ∈ tg := tg_at 137 (by decide +kernel) rfl
theorem ml_X4_3 : Cond.methodLink RX4 3 objectInit ∈ tg := tg_at 138 (by decide +kernel) rfl
theorem fl_X4_25 : Cond.fieldLink RX4 25 "TestsFromUse$Replay" "machine" "LTestsFromUse$Machine;" ∈ tg := tg_at 139 (by decide +kernel) rfl
theorem fl_X4_9 : Cond.fieldLink RX4 9 "TestsFromUse$Replay" "results" "[I" ∈ tg := tg_at 140 (by decide +kernel) rfl
theorem fl_X4_15 : Cond.fieldLink RX4 15 "TestsFromUse$Replay" "size" "I" ∈ tg := tg_at 141 (by decide +kernel) rfl
theorem fl_X4_19 : Cond.fieldLink RX4 19 "TestsFromUse$Replay" "met" "I" ∈ tg := tg_at 142 (by decide +kernel) rfl
theorem fl_X4_22 : Cond.fieldLink RX4 22 "TestsFromUse$Replay" "lastTaken" "I" ∈ tg := tg_at 143 (by decide +kernel) rfl
theorem cl_X8_39 : Cond.classLink RX8 39 RX6 ∈ tg := tg_at 155 (by decide +kernel) rfl
theorem inst_X6 : Cond.instantiable RX6 3 ∈ tg := tg_at 156 (by decide +kernel) rfl
theorem ml_X8_41 : Cond.methodLink RX8 41 yX6_init ∈ tg := tg_at 157 (by decide +kernel) rfl
theorem im_yX6_init : Cond.instanceMethod yX6_init ∈ tg := tg_at 158 (by decide +kernel) rfl
theorem co_yX6_init : Cond.code yX6_init cX6_init 2 none ∈ tg := tg_at 159 (by decide +kernel) rfl
theorem ml_X6_3 : Cond.methodLink RX6 3 objectInit ∈ tg := tg_at 160 (by decide +kernel) rfl
theorem fl_X6_18 : Cond.fieldLink RX6 18 "TestsFromUse$Shortener" "machine" "LTestsFromUse$Machine;" ∈ tg := tg_at 161 (by decide +kernel) rfl
theorem fl_X6_9 : Cond.fieldLink RX6 9 "TestsFromUse$Shortener" "wantedTaken" "I" ∈ tg := tg_at 162 (by decide +kernel) rfl
theorem fl_X6_15 : Cond.fieldLink RX6 15 "TestsFromUse$Shortener" "wantedResult" "I" ∈ tg := tg_at 163 (by decide +kernel) rfl
theorem fl_X8_12 : Cond.fieldLink RX8 12 "TestsFromUse" "machine" "LTestsFromUse$Machine;" ∈ tg := tg_at 171 (by decide +kernel) rfl
theorem fl_X8_19 : Cond.fieldLink RX8 19 "TestsFromUse" "log" "LTestsFromUse$Log;" ∈ tg := tg_at 172 (by decide +kernel) rfl
theorem fl_X8_26 : Cond.fieldLink RX8 26 "TestsFromUse" "suite" "LTestsFromUse$Suite;" ∈ tg := tg_at 173 (by decide +kernel) rfl
theorem fl_X8_35 : Cond.fieldLink RX8 35 "TestsFromUse" "replay" "LTestsFromUse$Replay;" ∈ tg := tg_at 174 (by decide +kernel) rfl
theorem fl_X8_42 : Cond.fieldLink RX8 42 "TestsFromUse" "shortener" "LTestsFromUse$Shortener;" ∈ tg := tg_at 175 (by decide +kernel) rfl
theorem ml_L_13 : Cond.methodLink RL 13 yX8_branch ∈ tg := tg_at 187 (by decide +kernel) rfl
theorem im_yX8_branch : Cond.instanceMethod yX8_branch ∈ tg := tg_at 188 (by decide +kernel) rfl
theorem se_yX8_branch : Cond.selects RX8 yX8_branch yX8_branch ∈ tg := tg_at 189 (by decide +kernel) rfl
theorem co_yX8_branch : Cond.code yX8_branch cX8_branch 5 (some .int) ∈ tg := tg_at 190 (by decide +kernel) rfl
theorem ml_X8_46 : Cond.methodLink RX8 46 yX2_hasRoom ∈ tg := tg_at 191 (by decide +kernel) rfl
theorem im_yX2_hasRoom : Cond.instanceMethod yX2_hasRoom ∈ tg := tg_at 192 (by decide +kernel) rfl
theorem se_yX2_hasRoom : Cond.selects RX2 yX2_hasRoom yX2_hasRoom ∈ tg := tg_at 193 (by decide +kernel) rfl
theorem co_yX2_hasRoom : Cond.code yX2_hasRoom cX2_hasRoom 2 (some .boolean) ∈ tg := tg_at 194 (by decide +kernel) rfl
theorem st_yX8_isBelow : Cond.static yX8_isBelow ∈ tg := tg_at 196 (by decide +kernel) rfl
theorem co_yX8_isBelow : Cond.code yX8_isBelow cX8_isBelow 2 (some .boolean) ∈ tg := tg_at 197 (by decide +kernel) rfl
theorem ml_X8_50 : Cond.methodLink RX8 50 yX0_canBe ∈ tg := tg_at 198 (by decide +kernel) rfl
theorem st_yX0_canBe : Cond.static yX0_canBe ∈ tg := tg_at 199 (by decide +kernel) rfl
theorem co_yX0_canBe : Cond.code yX0_canBe cX0_canBe 3 (some .boolean) ∈ tg := tg_at 200 (by decide +kernel) rfl
theorem ml_X0_36 : Cond.methodLink RX0 36 yX0_isCondition ∈ tg := tg_at 201 (by decide +kernel) rfl
theorem st_yX0_isCondition : Cond.static yX0_isCondition ∈ tg := tg_at 202 (by decide +kernel) rfl
theorem co_yX0_isCondition : Cond.code yX0_isCondition cX0_isCondition 1 (some .boolean) ∈ tg := tg_at 203 (by decide +kernel) rfl
theorem ml_X0_40 : Cond.methodLink RX0 40 yX0_isEffect ∈ tg := tg_at 205 (by decide +kernel) rfl
theorem st_yX0_isEffect : Cond.static yX0_isEffect ∈ tg := tg_at 206 (by decide +kernel) rfl
theorem co_yX0_isEffect : Cond.code yX0_isEffect cX0_isEffect 1 (some .boolean) ∈ tg := tg_at 207 (by decide +kernel) rfl
theorem cs_X0_47 : Cond.constant RX0 47 (40000) ∈ tg := tg_at 208 (by decide +kernel) rfl
theorem ml_X8_56 : Cond.methodLink RX8 56 yX7_touchCallersOf ∈ tg := tg_at 209 (by decide +kernel) rfl
theorem im_yX7_touchCallersOf : Cond.instanceMethod yX7_touchCallersOf ∈ tg := tg_at 210 (by decide +kernel) rfl
theorem se_yX7_touchCallersOf : Cond.selects RX7 yX7_touchCallersOf yX7_touchCallersOf ∈ tg := tg_at 211 (by decide +kernel) rfl
theorem co_yX7_touchCallersOf : Cond.code yX7_touchCallersOf cX7_touchCallersOf 3 none ∈ tg := tg_at 212 (by decide +kernel) rfl
theorem ml_X7_47 : Cond.methodLink RX7 47 yX5_hasCallOf ∈ tg := tg_at 213 (by decide +kernel) rfl
theorem im_yX5_hasCallOf : Cond.instanceMethod yX5_hasCallOf ∈ tg := tg_at 214 (by decide +kernel) rfl
theorem se_yX5_hasCallOf : Cond.selects RX5 yX5_hasCallOf yX5_hasCallOf ∈ tg := tg_at 215 (by decide +kernel) rfl
theorem co_yX5_hasCallOf : Cond.code yX5_hasCallOf cX5_hasCallOf 3 (some .boolean) ∈ tg := tg_at 216 (by decide +kernel) rfl
theorem st_yX8_kindOf : Cond.static yX8_kindOf ∈ tg := tg_at 218 (by decide +kernel) rfl
theorem co_yX8_kindOf : Cond.code yX8_kindOf cX8_kindOf 1 (some .int) ∈ tg := tg_at 219 (by decide +kernel) rfl
theorem cl_X8_51 : Cond.classLink RX8 51 RX0 ∈ tg := tg_at 220 (by decide +kernel) rfl
theorem inst_X0 : Cond.instantiable RX0 8 ∈ tg := tg_at 221 (by decide +kernel) rfl
theorem ml_X8_60 : Cond.methodLink RX8 60 yX0_init ∈ tg := tg_at 222 (by decide +kernel) rfl
theorem im_yX0_init : Cond.instanceMethod yX0_init ∈ tg := tg_at 223 (by decide +kernel) rfl
theorem co_yX0_init : Cond.code yX0_init cX0_init 4 none ∈ tg := tg_at 224 (by decide +kernel) rfl
theorem ml_X0_3 : Cond.methodLink RX0 3 objectInit ∈ tg := tg_at 225 (by decide +kernel) rfl
theorem fl_X0_9 : Cond.fieldLink RX0 9 "TestsFromUse$Branch" "watched" "I" ∈ tg := tg_at 226 (by decide +kernel) rfl
theorem fl_X0_15 : Cond.fieldLink RX0 15 "TestsFromUse$Branch" "how" "I" ∈ tg := tg_at 227 (by decide +kernel) rfl
theorem fl_X0_18 : Cond.fieldLink RX0 18 "TestsFromUse$Branch" "value" "I" ∈ tg := tg_at 228 (by decide +kernel) rfl
theorem fl_X0_21 : Cond.fieldLink RX0 21 "TestsFromUse$Branch" "target" "I" ∈ tg := tg_at 229 (by decide +kernel) rfl
theorem fl_X0_24 : Cond.fieldLink RX0 24 "TestsFromUse$Branch" "timesItself" "I" ∈ tg := tg_at 230 (by decide +kernel) rfl
theorem fl_X0_27 : Cond.fieldLink RX0 27 "TestsFromUse$Branch" "timesNumber" "I" ∈ tg := tg_at 231 (by decide +kernel) rfl
theorem fl_X0_30 : Cond.fieldLink RX0 30 "TestsFromUse$Branch" "added" "I" ∈ tg := tg_at 232 (by decide +kernel) rfl
theorem fl_X0_33 : Cond.fieldLink RX0 33 "TestsFromUse$Branch" "shown" "I" ∈ tg := tg_at 233 (by decide +kernel) rfl
theorem ml_X8_63 : Cond.methodLink RX8 63 yX2_add ∈ tg := tg_at 251 (by decide +kernel) rfl
theorem im_yX2_add : Cond.instanceMethod yX2_add ∈ tg := tg_at 252 (by decide +kernel) rfl
theorem se_yX2_add : Cond.selects RX2 yX2_add yX2_add ∈ tg := tg_at 253 (by decide +kernel) rfl
theorem co_yX2_add : Cond.code yX2_add cX2_add 3 (some .int) ∈ tg := tg_at 254 (by decide +kernel) rfl
theorem ml_X2_25 : Cond.methodLink RX2 25 yX2_hasRoom ∈ tg := tg_at 255 (by decide +kernel) rfl
theorem ml_X2_29 : Cond.methodLink RX2 29 yX2_put ∈ tg := tg_at 256 (by decide +kernel) rfl
theorem im_yX2_put : Cond.instanceMethod yX2_put ∈ tg := tg_at 257 (by decide +kernel) rfl
theorem se_yX2_put : Cond.selects RX2 yX2_put yX2_put ∈ tg := tg_at 258 (by decide +kernel) rfl
theorem co_yX2_put : Cond.code yX2_put cX2_put 3 none ∈ tg := tg_at 259 (by decide +kernel) rfl
theorem ml_L_18 : Cond.methodLink RL 18 yX8_change ∈ tg := tg_at 260 (by decide +kernel) rfl
theorem im_yX8_change : Cond.instanceMethod yX8_change ∈ tg := tg_at 261 (by decide +kernel) rfl
theorem se_yX8_change : Cond.selects RX8 yX8_change yX8_change ∈ tg := tg_at 262 (by decide +kernel) rfl
theorem co_yX8_change : Cond.code yX8_change cX8_change 5 (some .boolean) ∈ tg := tg_at 263 (by decide +kernel) rfl
theorem ml_X8_67 : Cond.methodLink RX8 67 yX2_has ∈ tg := tg_at 264 (by decide +kernel) rfl
theorem im_yX2_has : Cond.instanceMethod yX2_has ∈ tg := tg_at 265 (by decide +kernel) rfl
theorem se_yX2_has : Cond.selects RX2 yX2_has yX2_has ∈ tg := tg_at 266 (by decide +kernel) rfl
theorem co_yX2_has : Cond.code yX2_has cX2_has 2 (some .boolean) ∈ tg := tg_at 267 (by decide +kernel) rfl
theorem ml_X8_70 : Cond.methodLink RX8 70 yX7_touchThoseThatMet ∈ tg := tg_at 268 (by decide +kernel) rfl
theorem im_yX7_touchThoseThatMet : Cond.instanceMethod yX7_touchThoseThatMet ∈ tg := tg_at 269 (by decide +kernel) rfl
theorem se_yX7_touchThoseThatMet : Cond.selects RX7 yX7_touchThoseThatMet yX7_touchThoseThatMet ∈ tg := tg_at 270 (by decide +kernel) rfl
theorem co_yX7_touchThoseThatMet : Cond.code yX7_touchThoseThatMet cX7_touchThoseThatMet 3 none ∈ tg := tg_at 271 (by decide +kernel) rfl
theorem ml_X8_73 : Cond.methodLink RX8 73 yX2_put ∈ tg := tg_at 272 (by decide +kernel) rfl
theorem ml_L_23 : Cond.methodLink RL 23 yX8_call ∈ tg := tg_at 273 (by decide +kernel) rfl
theorem im_yX8_call : Cond.instanceMethod yX8_call ∈ tg := tg_at 274 (by decide +kernel) rfl
theorem se_yX8_call : Cond.selects RX8 yX8_call yX8_call ∈ tg := tg_at 275 (by decide +kernel) rfl
theorem co_yX8_call : Cond.code yX8_call cX8_call 3 (some .int) ∈ tg := tg_at 276 (by decide +kernel) rfl
theorem ml_X8_77 : Cond.methodLink RX8 77 yX8_isBelow ∈ tg := tg_at 277 (by decide +kernel) rfl
theorem ml_X8_81 : Cond.methodLink RX8 81 yX8_callOf ∈ tg := tg_at 278 (by decide +kernel) rfl
theorem st_yX8_callOf : Cond.static yX8_callOf ∈ tg := tg_at 279 (by decide +kernel) rfl
theorem co_yX8_callOf : Cond.code yX8_callOf cX8_callOf 2 (some .int) ∈ tg := tg_at 280 (by decide +kernel) rfl
theorem ml_X8_85 : Cond.methodLink RX8 85 yX1_add ∈ tg := tg_at 281 (by decide +kernel) rfl
theorem im_yX1_add : Cond.instanceMethod yX1_add ∈ tg := tg_at 282 (by decide +kernel) rfl
theorem se_yX1_add : Cond.selects RX1 yX1_add yX1_add ∈ tg := tg_at 283 (by decide +kernel) rfl
theorem co_yX1_add : Cond.code yX1_add cX1_add 4 (some .int) ∈ tg := tg_at 284 (by decide +kernel) rfl
theorem ml_X1_26 : Cond.methodLink RX1 26 yX5_size ∈ tg := tg_at 285 (by decide +kernel) rfl
theorem im_yX5_size : Cond.instanceMethod yX5_size ∈ tg := tg_at 286 (by decide +kernel) rfl
theorem se_yX5_size : Cond.selects RX5 yX5_size yX5_size ∈ tg := tg_at 287 (by decide +kernel) rfl
theorem co_yX5_size : Cond.code yX5_size cX5_size 1 (some .int) ∈ tg := tg_at 288 (by decide +kernel) rfl
theorem ml_X1_30 : Cond.methodLink RX1 30 yX2_takenBy ∈ tg := tg_at 289 (by decide +kernel) rfl
theorem im_yX2_takenBy : Cond.instanceMethod yX2_takenBy ∈ tg := tg_at 290 (by decide +kernel) rfl
theorem se_yX2_takenBy : Cond.selects RX2 yX2_takenBy yX2_takenBy ∈ tg := tg_at 291 (by decide +kernel) rfl
theorem co_yX2_takenBy : Cond.code yX2_takenBy cX2_takenBy 6 (some .int) ∈ tg := tg_at 292 (by decide +kernel) rfl
theorem ml_X2_37 : Cond.methodLink RX2 37 yX2_has ∈ tg := tg_at 294 (by decide +kernel) rfl
theorem ml_X2_40 : Cond.methodLink RX2 40 yX0_holds ∈ tg := tg_at 295 (by decide +kernel) rfl
theorem im_yX0_holds : Cond.instanceMethod yX0_holds ∈ tg := tg_at 296 (by decide +kernel) rfl
theorem se_yX0_holds : Cond.selects RX0 yX0_holds yX0_holds ∈ tg := tg_at 297 (by decide +kernel) rfl
theorem co_yX0_holds : Cond.code yX0_holds cX0_holds 3 (some .boolean) ∈ tg := tg_at 298 (by decide +kernel) rfl
theorem st_yX8_valueIn : Cond.static yX8_valueIn ∈ tg := tg_at 300 (by decide +kernel) rfl
theorem co_yX8_valueIn : Cond.code yX8_valueIn cX8_valueIn 2 (some .int) ∈ tg := tg_at 301 (by decide +kernel) rfl
theorem st_yX8_numberOf : Cond.static yX8_numberOf ∈ tg := tg_at 303 (by decide +kernel) rfl
theorem co_yX8_numberOf : Cond.code yX8_numberOf cX8_numberOf 1 (some .int) ∈ tg := tg_at 304 (by decide +kernel) rfl
theorem ml_X1_40 : Cond.methodLink RX1 40 yX2_stateBehind ∈ tg := tg_at 305 (by decide +kernel) rfl
theorem im_yX2_stateBehind : Cond.instanceMethod yX2_stateBehind ∈ tg := tg_at 306 (by decide +kernel) rfl
theorem se_yX2_stateBehind : Cond.selects RX2 yX2_stateBehind yX2_stateBehind ∈ tg := tg_at 307 (by decide +kernel) rfl
theorem co_yX2_stateBehind : Cond.code yX2_stateBehind cX2_stateBehind 4 (some .int) ∈ tg := tg_at 308 (by decide +kernel) rfl
theorem ml_X2_43 : Cond.methodLink RX2 43 yX0_stateBehind ∈ tg := tg_at 309 (by decide +kernel) rfl
theorem im_yX0_stateBehind : Cond.instanceMethod yX0_stateBehind ∈ tg := tg_at 310 (by decide +kernel) rfl
theorem se_yX0_stateBehind : Cond.selects RX0 yX0_stateBehind yX0_stateBehind ∈ tg := tg_at 311 (by decide +kernel) rfl
theorem co_yX0_stateBehind : Cond.code yX0_stateBehind cX0_stateBehind 4 (some .int) ∈ tg := tg_at 312 (by decide +kernel) rfl
theorem st_yX8_withValue : Cond.static yX8_withValue ∈ tg := tg_at 314 (by decide +kernel) rfl
theorem co_yX8_withValue : Cond.code yX8_withValue cX8_withValue 5 (some .int) ∈ tg := tg_at 315 (by decide +kernel) rfl
theorem ml_X1_44 : Cond.methodLink RX1 44 yX2_resultOf ∈ tg := tg_at 316 (by decide +kernel) rfl
theorem im_yX2_resultOf : Cond.instanceMethod yX2_resultOf ∈ tg := tg_at 317 (by decide +kernel) rfl
theorem se_yX2_resultOf : Cond.selects RX2 yX2_resultOf yX2_resultOf ∈ tg := tg_at 318 (by decide +kernel) rfl
theorem co_yX2_resultOf : Cond.code yX2_resultOf cX2_resultOf 3 (some .int) ∈ tg := tg_at 319 (by decide +kernel) rfl
theorem ml_X2_47 : Cond.methodLink RX2 47 yX0_resultIn ∈ tg := tg_at 320 (by decide +kernel) rfl
theorem im_yX0_resultIn : Cond.instanceMethod yX0_resultIn ∈ tg := tg_at 321 (by decide +kernel) rfl
theorem se_yX0_resultIn : Cond.selects RX0 yX0_resultIn yX0_resultIn ∈ tg := tg_at 322 (by decide +kernel) rfl
theorem co_yX0_resultIn : Cond.code yX0_resultIn cX0_resultIn 2 (some .int) ∈ tg := tg_at 323 (by decide +kernel) rfl
theorem ml_X1_47 : Cond.methodLink RX1 47 yX5_add ∈ tg := tg_at 324 (by decide +kernel) rfl
theorem im_yX5_add : Cond.instanceMethod yX5_add ∈ tg := tg_at 325 (by decide +kernel) rfl
theorem se_yX5_add : Cond.selects RX5 yX5_add yX5_add ∈ tg := tg_at 326 (by decide +kernel) rfl
theorem co_yX5_add : Cond.code yX5_add cX5_add 3 none ∈ tg := tg_at 327 (by decide +kernel) rfl
theorem ml_X1_51 : Cond.methodLink RX1 51 yX5_resultAt ∈ tg := tg_at 328 (by decide +kernel) rfl
theorem im_yX5_resultAt : Cond.instanceMethod yX5_resultAt ∈ tg := tg_at 329 (by decide +kernel) rfl
theorem se_yX5_resultAt : Cond.selects RX5 yX5_resultAt yX5_resultAt ∈ tg := tg_at 330 (by decide +kernel) rfl
theorem co_yX5_resultAt : Cond.code yX5_resultAt cX5_resultAt 2 (some .int) ∈ tg := tg_at 331 (by decide +kernel) rfl
theorem ml_L_28 : Cond.methodLink RL 28 yX8_fresh ∈ tg := tg_at 333 (by decide +kernel) rfl
theorem im_yX8_fresh : Cond.instanceMethod yX8_fresh ∈ tg := tg_at 334 (by decide +kernel) rfl
theorem se_yX8_fresh : Cond.selects RX8 yX8_fresh yX8_fresh ∈ tg := tg_at 335 (by decide +kernel) rfl
theorem co_yX8_fresh : Cond.code yX8_fresh cX8_fresh 1 (some .int) ∈ tg := tg_at 336 (by decide +kernel) rfl
theorem ml_X8_88 : Cond.methodLink RX8 88 yX1_clear ∈ tg := tg_at 337 (by decide +kernel) rfl
theorem im_yX1_clear : Cond.instanceMethod yX1_clear ∈ tg := tg_at 338 (by decide +kernel) rfl
theorem se_yX1_clear : Cond.selects RX1 yX1_clear yX1_clear ∈ tg := tg_at 339 (by decide +kernel) rfl
theorem co_yX1_clear : Cond.code yX1_clear cX1_clear 2 (some .int) ∈ tg := tg_at 340 (by decide +kernel) rfl
theorem ml_X1_54 : Cond.methodLink RX1 54 yX5_cutTo ∈ tg := tg_at 341 (by decide +kernel) rfl
theorem im_yX5_cutTo : Cond.instanceMethod yX5_cutTo ∈ tg := tg_at 342 (by decide +kernel) rfl
theorem se_yX5_cutTo : Cond.selects RX5 yX5_cutTo yX5_cutTo ∈ tg := tg_at 343 (by decide +kernel) rfl
theorem co_yX5_cutTo : Cond.code yX5_cutTo cX5_cutTo 2 none ∈ tg := tg_at 344 (by decide +kernel) rfl
theorem ml_L_33 : Cond.methodLink RL 33 yX8_logged ∈ tg := tg_at 345 (by decide +kernel) rfl
theorem im_yX8_logged : Cond.instanceMethod yX8_logged ∈ tg := tg_at 346 (by decide +kernel) rfl
theorem se_yX8_logged : Cond.selects RX8 yX8_logged yX8_logged ∈ tg := tg_at 347 (by decide +kernel) rfl
theorem co_yX8_logged : Cond.code yX8_logged cX8_logged 3 (some .int) ∈ tg := tg_at 348 (by decide +kernel) rfl
theorem ml_X8_92 : Cond.methodLink RX8 92 yX1_tell ∈ tg := tg_at 349 (by decide +kernel) rfl
theorem im_yX1_tell : Cond.instanceMethod yX1_tell ∈ tg := tg_at 350 (by decide +kernel) rfl
theorem se_yX1_tell : Cond.selects RX1 yX1_tell yX1_tell ∈ tg := tg_at 351 (by decide +kernel) rfl
theorem co_yX1_tell : Cond.code yX1_tell cX1_tell 3 (some .int) ∈ tg := tg_at 352 (by decide +kernel) rfl
theorem ml_X1_62 : Cond.methodLink RX1 62 yX5_callAt ∈ tg := tg_at 354 (by decide +kernel) rfl
theorem im_yX5_callAt : Cond.instanceMethod yX5_callAt ∈ tg := tg_at 355 (by decide +kernel) rfl
theorem se_yX5_callAt : Cond.selects RX5 yX5_callAt yX5_callAt ∈ tg := tg_at 356 (by decide +kernel) rfl
theorem co_yX5_callAt : Cond.code yX5_callAt cX5_callAt 2 (some .int) ∈ tg := tg_at 357 (by decide +kernel) rfl
theorem ml_L_37 : Cond.methodLink RL 37 yX8_make ∈ tg := tg_at 359 (by decide +kernel) rfl
theorem im_yX8_make : Cond.instanceMethod yX8_make ∈ tg := tg_at 360 (by decide +kernel) rfl
theorem se_yX8_make : Cond.selects RX8 yX8_make yX8_make ∈ tg := tg_at 361 (by decide +kernel) rfl
theorem co_yX8_make : Cond.code yX8_make cX8_make 3 (some .int) ∈ tg := tg_at 362 (by decide +kernel) rfl
theorem ml_X8_95 : Cond.methodLink RX8 95 yX7_spare ∈ tg := tg_at 363 (by decide +kernel) rfl
theorem im_yX7_spare : Cond.instanceMethod yX7_spare ∈ tg := tg_at 364 (by decide +kernel) rfl
theorem se_yX7_spare : Cond.selects RX7 yX7_spare yX7_spare ∈ tg := tg_at 365 (by decide +kernel) rfl
theorem co_yX7_spare : Cond.code yX7_spare cX7_spare 1 (some (.object "TestsFromUse$MadeTest")) ∈ tg := tg_at 366 (by decide +kernel) rfl
theorem ml_X8_99 : Cond.methodLink RX8 99 yX1_size ∈ tg := tg_at 367 (by decide +kernel) rfl
theorem im_yX1_size : Cond.instanceMethod yX1_size ∈ tg := tg_at 368 (by decide +kernel) rfl
theorem se_yX1_size : Cond.selects RX1 yX1_size yX1_size ∈ tg := tg_at 369 (by decide +kernel) rfl
theorem co_yX1_size : Cond.code yX1_size cX1_size 1 (some .int) ∈ tg := tg_at 370 (by decide +kernel) rfl
theorem ml_X8_109 : Cond.methodLink RX8 109 yX5_copyStart ∈ tg := tg_at 371 (by decide +kernel) rfl
theorem im_yX5_copyStart : Cond.instanceMethod yX5_copyStart ∈ tg := tg_at 372 (by decide +kernel) rfl
theorem se_yX5_copyStart : Cond.selects RX5 yX5_copyStart yX5_copyStart ∈ tg := tg_at 373 (by decide +kernel) rfl
theorem co_yX5_copyStart : Cond.code yX5_copyStart cX5_copyStart 4 none ∈ tg := tg_at 374 (by decide +kernel) rfl
theorem ml_X5_26 : Cond.methodLink RX5 26 yX5_add ∈ tg := tg_at 375 (by decide +kernel) rfl
theorem ml_X8_115 : Cond.methodLink RX8 115 yX4_play ∈ tg := tg_at 376 (by decide +kernel) rfl
theorem im_yX4_play : Cond.instanceMethod yX4_play ∈ tg := tg_at 377 (by decide +kernel) rfl
theorem se_yX4_play : Cond.selects RX4 yX4_play yX4_play ∈ tg := tg_at 378 (by decide +kernel) rfl
theorem co_yX4_play : Cond.code yX4_play cX4_play 5 none ∈ tg := tg_at 379 (by decide +kernel) rfl
theorem ml_X4_29 : Cond.methodLink RX4 29 yX5_size ∈ tg := tg_at 380 (by decide +kernel) rfl
theorem ml_X4_34 : Cond.methodLink RX4 34 yX5_callAt ∈ tg := tg_at 381 (by decide +kernel) rfl
theorem ml_X4_38 : Cond.methodLink RX4 38 yX2_takenBy ∈ tg := tg_at 382 (by decide +kernel) rfl
theorem ml_X4_47 : Cond.methodLink RX4 47 yX2_stateBehind ∈ tg := tg_at 384 (by decide +kernel) rfl
theorem ml_X4_51 : Cond.methodLink RX4 51 yX2_resultOf ∈ tg := tg_at 385 (by decide +kernel) rfl
theorem ml_X8_119 : Cond.methodLink RX8 119 yX4_lastTaken ∈ tg := tg_at 386 (by decide +kernel) rfl
theorem im_yX4_lastTaken : Cond.instanceMethod yX4_lastTaken ∈ tg := tg_at 387 (by decide +kernel) rfl
theorem se_yX4_lastTaken : Cond.selects RX4 yX4_lastTaken yX4_lastTaken ∈ tg := tg_at 388 (by decide +kernel) rfl
theorem co_yX4_lastTaken : Cond.code yX4_lastTaken cX4_lastTaken 1 (some .int) ∈ tg := tg_at 389 (by decide +kernel) rfl
theorem ml_X8_122 : Cond.methodLink RX8 122 yX4_lastResult ∈ tg := tg_at 390 (by decide +kernel) rfl
theorem im_yX4_lastResult : Cond.instanceMethod yX4_lastResult ∈ tg := tg_at 391 (by decide +kernel) rfl
theorem se_yX4_lastResult : Cond.selects RX4 yX4_lastResult yX4_lastResult ∈ tg := tg_at 392 (by decide +kernel) rfl
theorem co_yX4_lastResult : Cond.code yX4_lastResult cX4_lastResult 1 (some .int) ∈ tg := tg_at 393 (by decide +kernel) rfl
theorem ml_X4_58 : Cond.methodLink RX4 58 yX4_resultAt ∈ tg := tg_at 394 (by decide +kernel) rfl
theorem im_yX4_resultAt : Cond.instanceMethod yX4_resultAt ∈ tg := tg_at 395 (by decide +kernel) rfl
theorem se_yX4_resultAt : Cond.selects RX4 yX4_resultAt yX4_resultAt ∈ tg := tg_at 396 (by decide +kernel) rfl
theorem co_yX4_resultAt : Cond.code yX4_resultAt cX4_resultAt 2 (some .int) ∈ tg := tg_at 397 (by decide +kernel) rfl
theorem ml_X8_125 : Cond.methodLink RX8 125 yX6_shorten ∈ tg := tg_at 399 (by decide +kernel) rfl
theorem im_yX6_shorten : Cond.instanceMethod yX6_shorten ∈ tg := tg_at 400 (by decide +kernel) rfl
theorem se_yX6_shorten : Cond.selects RX6 yX6_shorten yX6_shorten ∈ tg := tg_at 401 (by decide +kernel) rfl
theorem co_yX6_shorten : Cond.code yX6_shorten cX6_shorten 6 none ∈ tg := tg_at 402 (by decide +kernel) rfl
theorem ml_X6_22 : Cond.methodLink RX6 22 yX6_leaveOut ∈ tg := tg_at 403 (by decide +kernel) rfl
theorem im_yX6_leaveOut : Cond.instanceMethod yX6_leaveOut ∈ tg := tg_at 405 (by decide +kernel) rfl
theorem co_yX6_leaveOut : Cond.code yX6_leaveOut cX6_leaveOut 7 (some .boolean) ∈ tg := tg_at 406 (by decide +kernel) rfl
theorem ml_X6_26 : Cond.methodLink RX6 26 yX5_size ∈ tg := tg_at 407 (by decide +kernel) rfl
theorem ml_X6_32 : Cond.methodLink RX6 32 yX6_endsAlike ∈ tg := tg_at 408 (by decide +kernel) rfl
theorem im_yX6_endsAlike : Cond.instanceMethod yX6_endsAlike ∈ tg := tg_at 410 (by decide +kernel) rfl
theorem co_yX6_endsAlike : Cond.code yX6_endsAlike cX6_endsAlike 8 (some .boolean) ∈ tg := tg_at 411 (by decide +kernel) rfl
theorem ml_X6_36 : Cond.methodLink RX6 36 yX5_callAt ∈ tg := tg_at 412 (by decide +kernel) rfl
theorem ml_X6_40 : Cond.methodLink RX6 40 yX2_takenBy ∈ tg := tg_at 413 (by decide +kernel) rfl
theorem ml_X6_49 : Cond.methodLink RX6 49 yX2_stateBehind ∈ tg := tg_at 415 (by decide +kernel) rfl
theorem ml_X6_61 : Cond.methodLink RX6 61 yX2_resultOf ∈ tg := tg_at 416 (by decide +kernel) rfl
theorem ml_X6_53 : Cond.methodLink RX6 53 yX5_move ∈ tg := tg_at 417 (by decide +kernel) rfl
theorem im_yX5_move : Cond.instanceMethod yX5_move ∈ tg := tg_at 418 (by decide +kernel) rfl
theorem se_yX5_move : Cond.selects RX5 yX5_move yX5_move ∈ tg := tg_at 419 (by decide +kernel) rfl
theorem co_yX5_move : Cond.code yX5_move cX5_move 3 none ∈ tg := tg_at 420 (by decide +kernel) rfl
theorem ml_X6_57 : Cond.methodLink RX6 57 yX5_cutTo ∈ tg := tg_at 421 (by decide +kernel) rfl
theorem ml_X8_129 : Cond.methodLink RX8 129 yX7_hasLike ∈ tg := tg_at 422 (by decide +kernel) rfl
theorem im_yX7_hasLike : Cond.instanceMethod yX7_hasLike ∈ tg := tg_at 423 (by decide +kernel) rfl
theorem se_yX7_hasLike : Cond.selects RX7 yX7_hasLike yX7_hasLike ∈ tg := tg_at 424 (by decide +kernel) rfl
theorem co_yX7_hasLike : Cond.code yX7_hasLike cX7_hasLike 3 (some .boolean) ∈ tg := tg_at 425 (by decide +kernel) rfl
theorem ml_X7_34 : Cond.methodLink RX7 34 yX5_hasSameCalls ∈ tg := tg_at 426 (by decide +kernel) rfl
theorem im_yX5_hasSameCalls : Cond.instanceMethod yX5_hasSameCalls ∈ tg := tg_at 427 (by decide +kernel) rfl
theorem se_yX5_hasSameCalls : Cond.selects RX5 yX5_hasSameCalls yX5_hasSameCalls ∈ tg := tg_at 428 (by decide +kernel) rfl
theorem co_yX5_hasSameCalls : Cond.code yX5_hasSameCalls cX5_hasSameCalls 3 (some .boolean) ∈ tg := tg_at 429 (by decide +kernel) rfl
theorem ml_X8_133 : Cond.methodLink RX8 133 yX3_settle ∈ tg := tg_at 430 (by decide +kernel) rfl
theorem im_yX3_settle : Cond.instanceMethod yX3_settle ∈ tg := tg_at 431 (by decide +kernel) rfl
theorem se_yX3_settle : Cond.selects RX3 yX3_settle yX3_settle ∈ tg := tg_at 432 (by decide +kernel) rfl
theorem co_yX3_settle : Cond.code yX3_settle cX3_settle 2 none ∈ tg := tg_at 433 (by decide +kernel) rfl
theorem ml_X3_27 : Cond.methodLink RX3 27 yX5_takeResults ∈ tg := tg_at 434 (by decide +kernel) rfl
theorem im_yX5_takeResults : Cond.instanceMethod yX5_takeResults ∈ tg := tg_at 435 (by decide +kernel) rfl
theorem se_yX5_takeResults : Cond.selects RX5 yX5_takeResults yX5_takeResults ∈ tg := tg_at 436 (by decide +kernel) rfl
theorem co_yX5_takeResults : Cond.code yX5_takeResults cX5_takeResults 3 none ∈ tg := tg_at 437 (by decide +kernel) rfl
theorem ml_X5_30 : Cond.methodLink RX5 30 yX4_resultAt ∈ tg := tg_at 438 (by decide +kernel) rfl
theorem ml_X3_31 : Cond.methodLink RX3 31 yX4_met ∈ tg := tg_at 439 (by decide +kernel) rfl
theorem im_yX4_met : Cond.instanceMethod yX4_met ∈ tg := tg_at 440 (by decide +kernel) rfl
theorem se_yX4_met : Cond.selects RX4 yX4_met yX4_met ∈ tg := tg_at 441 (by decide +kernel) rfl
theorem co_yX4_met : Cond.code yX4_met cX4_met 1 (some .int) ∈ tg := tg_at 442 (by decide +kernel) rfl
theorem ml_X8_137 : Cond.methodLink RX8 137 yX7_keepSpare ∈ tg := tg_at 443 (by decide +kernel) rfl
theorem im_yX7_keepSpare : Cond.instanceMethod yX7_keepSpare ∈ tg := tg_at 444 (by decide +kernel) rfl
theorem se_yX7_keepSpare : Cond.selects RX7 yX7_keepSpare yX7_keepSpare ∈ tg := tg_at 445 (by decide +kernel) rfl
theorem co_yX7_keepSpare : Cond.code yX7_keepSpare cX7_keepSpare 1 (some .int) ∈ tg := tg_at 446 (by decide +kernel) rfl
theorem ml_L_42 : Cond.methodLink RL 42 yX8_drop ∈ tg := tg_at 447 (by decide +kernel) rfl
theorem im_yX8_drop : Cond.instanceMethod yX8_drop ∈ tg := tg_at 448 (by decide +kernel) rfl
theorem se_yX8_drop : Cond.selects RX8 yX8_drop yX8_drop ∈ tg := tg_at 449 (by decide +kernel) rfl
theorem co_yX8_drop : Cond.code yX8_drop cX8_drop 2 (some .boolean) ∈ tg := tg_at 450 (by decide +kernel) rfl
theorem ml_X8_140 : Cond.methodLink RX8 140 yX7_remove ∈ tg := tg_at 451 (by decide +kernel) rfl
theorem im_yX7_remove : Cond.instanceMethod yX7_remove ∈ tg := tg_at 452 (by decide +kernel) rfl
theorem se_yX7_remove : Cond.selects RX7 yX7_remove yX7_remove ∈ tg := tg_at 453 (by decide +kernel) rfl
theorem co_yX7_remove : Cond.code yX7_remove cX7_remove 4 (some .boolean) ∈ tg := tg_at 454 (by decide +kernel) rfl
theorem ml_L_47 : Cond.methodLink RL 47 yX8_told ∈ tg := tg_at 456 (by decide +kernel) rfl
theorem im_yX8_told : Cond.instanceMethod yX8_told ∈ tg := tg_at 457 (by decide +kernel) rfl
theorem se_yX8_told : Cond.selects RX8 yX8_told yX8_told ∈ tg := tg_at 458 (by decide +kernel) rfl
theorem co_yX8_told : Cond.code yX8_told cX8_told 4 (some .int) ∈ tg := tg_at 459 (by decide +kernel) rfl
theorem ml_X8_143 : Cond.methodLink RX8 143 yX7_at ∈ tg := tg_at 460 (by decide +kernel) rfl
theorem im_yX7_at : Cond.instanceMethod yX7_at ∈ tg := tg_at 461 (by decide +kernel) rfl
theorem se_yX7_at : Cond.selects RX7 yX7_at yX7_at ∈ tg := tg_at 462 (by decide +kernel) rfl
theorem co_yX7_at : Cond.code yX7_at cX7_at 2 (some (.object "TestsFromUse$MadeTest")) ∈ tg := tg_at 463 (by decide +kernel) rfl
theorem ml_X8_147 : Cond.methodLink RX8 147 yX5_size ∈ tg := tg_at 464 (by decide +kernel) rfl
theorem ml_X8_155 : Cond.methodLink RX8 155 yX8_firstDifference ∈ tg := tg_at 465 (by decide +kernel) rfl
theorem im_yX8_firstDifference : Cond.instanceMethod yX8_firstDifference ∈ tg := tg_at 467 (by decide +kernel) rfl
theorem co_yX8_firstDifference : Cond.code yX8_firstDifference cX8_firstDifference 2 (some .int) ∈ tg := tg_at 468 (by decide +kernel) rfl
theorem ml_X8_212 : Cond.methodLink RX8 212 yX4_firstDifference ∈ tg := tg_at 469 (by decide +kernel) rfl
theorem im_yX4_firstDifference : Cond.instanceMethod yX4_firstDifference ∈ tg := tg_at 470 (by decide +kernel) rfl
theorem se_yX4_firstDifference : Cond.selects RX4 yX4_firstDifference yX4_firstDifference ∈ tg := tg_at 471 (by decide +kernel) rfl
theorem co_yX4_firstDifference : Cond.code yX4_firstDifference cX4_firstDifference 3 (some .int) ∈ tg := tg_at 472 (by decide +kernel) rfl
theorem ml_X4_65 : Cond.methodLink RX4 65 yX5_resultAt ∈ tg := tg_at 473 (by decide +kernel) rfl
theorem ml_X8_163 : Cond.methodLink RX8 163 yX4_meets ∈ tg := tg_at 474 (by decide +kernel) rfl
theorem im_yX4_meets : Cond.instanceMethod yX4_meets ∈ tg := tg_at 475 (by decide +kernel) rfl
theorem se_yX4_meets : Cond.selects RX4 yX4_meets yX4_meets ∈ tg := tg_at 476 (by decide +kernel) rfl
theorem co_yX4_meets : Cond.code yX4_meets cX4_meets 2 (some .int) ∈ tg := tg_at 477 (by decide +kernel) rfl
theorem ml_X4_54 : Cond.methodLink RX4 54 yX4_play ∈ tg := tg_at 478 (by decide +kernel) rfl
theorem ml_L_51 : Cond.methodLink RL 51 yX8_row ∈ tg := tg_at 479 (by decide +kernel) rfl
theorem im_yX8_row : Cond.instanceMethod yX8_row ∈ tg := tg_at 480 (by decide +kernel) rfl
theorem se_yX8_row : Cond.selects RX8 yX8_row yX8_row ∈ tg := tg_at 481 (by decide +kernel) rfl
theorem co_yX8_row : Cond.code yX8_row cX8_row 5 (some .int) ∈ tg := tg_at 482 (by decide +kernel) rfl
theorem ml_X8_167 : Cond.methodLink RX8 167 yX5_callAt ∈ tg := tg_at 483 (by decide +kernel) rfl
theorem ml_X8_171 : Cond.methodLink RX8 171 yX8_kindOf ∈ tg := tg_at 484 (by decide +kernel) rfl
theorem ml_X8_174 : Cond.methodLink RX8 174 yX8_numberOf ∈ tg := tg_at 485 (by decide +kernel) rfl
theorem ml_X8_177 : Cond.methodLink RX8 177 yX5_resultAt ∈ tg := tg_at 486 (by decide +kernel) rfl
theorem ml_X8_180 : Cond.methodLink RX8 180 yX8_resultNow ∈ tg := tg_at 487 (by decide +kernel) rfl
theorem im_yX8_resultNow : Cond.instanceMethod yX8_resultNow ∈ tg := tg_at 489 (by decide +kernel) rfl
theorem co_yX8_resultNow : Cond.code yX8_resultNow cX8_resultNow 3 (some .int) ∈ tg := tg_at 490 (by decide +kernel) rfl
theorem ml_X8_214 : Cond.methodLink RX8 214 yX4_resultAt ∈ tg := tg_at 491 (by decide +kernel) rfl
theorem ml_L_56 : Cond.methodLink RL 56 yX8_differs ∈ tg := tg_at 492 (by decide +kernel) rfl
theorem im_yX8_differs : Cond.instanceMethod yX8_differs ∈ tg := tg_at 493 (by decide +kernel) rfl
theorem se_yX8_differs : Cond.selects RX8 yX8_differs yX8_differs ∈ tg := tg_at 494 (by decide +kernel) rfl
theorem co_yX8_differs : Cond.code yX8_differs cX8_differs 3 (some .int) ∈ tg := tg_at 495 (by decide +kernel) rfl
theorem ml_L_60 : Cond.methodLink RL 60 yX8_run ∈ tg := tg_at 496 (by decide +kernel) rfl
theorem im_yX8_run : Cond.instanceMethod yX8_run ∈ tg := tg_at 497 (by decide +kernel) rfl
theorem se_yX8_run : Cond.selects RX8 yX8_run yX8_run ∈ tg := tg_at 498 (by decide +kernel) rfl
theorem co_yX8_run : Cond.code yX8_run cX8_run 4 (some .int) ∈ tg := tg_at 499 (by decide +kernel) rfl
theorem ml_X8_184 : Cond.methodLink RX8 184 yX7_size ∈ tg := tg_at 500 (by decide +kernel) rfl
theorem im_yX7_size : Cond.instanceMethod yX7_size ∈ tg := tg_at 501 (by decide +kernel) rfl
theorem se_yX7_size : Cond.selects RX7 yX7_size yX7_size ∈ tg := tg_at 502 (by decide +kernel) rfl
theorem co_yX7_size : Cond.code yX7_size cX7_size 1 (some .int) ∈ tg := tg_at 503 (by decide +kernel) rfl
theorem ml_L_64 : Cond.methodLink RL 64 yX8_accept ∈ tg := tg_at 504 (by decide +kernel) rfl
theorem im_yX8_accept : Cond.instanceMethod yX8_accept ∈ tg := tg_at 505 (by decide +kernel) rfl
theorem se_yX8_accept : Cond.selects RX8 yX8_accept yX8_accept ∈ tg := tg_at 506 (by decide +kernel) rfl
theorem co_yX8_accept : Cond.code yX8_accept cX8_accept 3 (some .boolean) ∈ tg := tg_at 507 (by decide +kernel) rfl
theorem ml_L_68 : Cond.methodLink RL 68 yX8_reached ∈ tg := tg_at 508 (by decide +kernel) rfl
theorem im_yX8_reached : Cond.instanceMethod yX8_reached ∈ tg := tg_at 509 (by decide +kernel) rfl
theorem se_yX8_reached : Cond.selects RX8 yX8_reached yX8_reached ∈ tg := tg_at 510 (by decide +kernel) rfl
theorem co_yX8_reached : Cond.code yX8_reached cX8_reached 1 (some .int) ∈ tg := tg_at 511 (by decide +kernel) rfl
theorem ml_L_72 : Cond.methodLink RL 72 yX8_never ∈ tg := tg_at 512 (by decide +kernel) rfl
theorem im_yX8_never : Cond.instanceMethod yX8_never ∈ tg := tg_at 513 (by decide +kernel) rfl
theorem se_yX8_never : Cond.selects RX8 yX8_never yX8_never ∈ tg := tg_at 514 (by decide +kernel) rfl
theorem co_yX8_never : Cond.code yX8_never cX8_never 1 (some .int) ∈ tg := tg_at 515 (by decide +kernel) rfl
theorem ml_X8_185 : Cond.methodLink RX8 185 yX2_allBits ∈ tg := tg_at 516 (by decide +kernel) rfl
theorem im_yX2_allBits : Cond.instanceMethod yX2_allBits ∈ tg := tg_at 517 (by decide +kernel) rfl
theorem se_yX2_allBits : Cond.selects RX2 yX2_allBits yX2_allBits ∈ tg := tg_at 518 (by decide +kernel) rfl
theorem co_yX2_allBits : Cond.code yX2_allBits cX2_allBits 3 (some .int) ∈ tg := tg_at 519 (by decide +kernel) rfl
theorem ml_L_76 : Cond.methodLink RL 76 yX8_fewest ∈ tg := tg_at 520 (by decide +kernel) rfl
theorem im_yX8_fewest : Cond.instanceMethod yX8_fewest ∈ tg := tg_at 521 (by decide +kernel) rfl
theorem se_yX8_fewest : Cond.selects RX8 yX8_fewest yX8_fewest ∈ tg := tg_at 522 (by decide +kernel) rfl
theorem co_yX8_fewest : Cond.code yX8_fewest cX8_fewest 1 (some .int) ∈ tg := tg_at 523 (by decide +kernel) rfl
theorem ml_X8_188 : Cond.methodLink RX8 188 yX7_leastHeap ∈ tg := tg_at 524 (by decide +kernel) rfl
theorem im_yX7_leastHeap : Cond.instanceMethod yX7_leastHeap ∈ tg := tg_at 525 (by decide +kernel) rfl
theorem se_yX7_leastHeap : Cond.selects RX7 yX7_leastHeap yX7_leastHeap ∈ tg := tg_at 526 (by decide +kernel) rfl
theorem co_yX7_leastHeap : Cond.code yX7_leastHeap cX7_leastHeap 5 (some .int) ∈ tg := tg_at 527 (by decide +kernel) rfl
theorem ml_X7_54 : Cond.methodLink RX7 54 yX4_meets ∈ tg := tg_at 528 (by decide +kernel) rfl
theorem ml_X7_59 : Cond.methodLink RX7 59 yX7_metByHeap ∈ tg := tg_at 529 (by decide +kernel) rfl
theorem im_yX7_metByHeap : Cond.instanceMethod yX7_metByHeap ∈ tg := tg_at 531 (by decide +kernel) rfl
theorem co_yX7_metByHeap : Cond.code yX7_metByHeap cX7_metByHeap 4 (some .int) ∈ tg := tg_at 532 (by decide +kernel) rfl
theorem ml_X7_63 : Cond.methodLink RX7 63 yJ6_bitCount_0f7a4 ∈ tg := tg_at 533 (by decide +kernel) rfl
theorem st_yJ6_bitCount_0f7a4 : Cond.static yJ6_bitCount_0f7a4 ∈ tg := tg_at 534 (by decide +kernel) rfl
theorem co_yJ6_bitCount_0f7a4 : Cond.code yJ6_bitCount_0f7a4 cJ6_bitCount_0f7a4 1 (some .int) ∈ tg := tg_at 535 (by decide +kernel) rfl
theorem cs_J6_265 : Cond.constant RJ6 265 (1431655765) ∈ tg := tg_at 536 (by decide +kernel) rfl
theorem cs_J6_266 : Cond.constant RJ6 266 (858993459) ∈ tg := tg_at 537 (by decide +kernel) rfl
theorem cs_J6_267 : Cond.constant RJ6 267 (252645135) ∈ tg := tg_at 538 (by decide +kernel) rfl
theorem ml_X8_192 : Cond.methodLink RX8 192 yJ6_bitCount_0f7a4 ∈ tg := tg_at 539 (by decide +kernel) rfl
theorem ml_L_80 : Cond.methodLink RL 80 yX8_chosen ∈ tg := tg_at 540 (by decide +kernel) rfl
theorem im_yX8_chosen : Cond.instanceMethod yX8_chosen ∈ tg := tg_at 541 (by decide +kernel) rfl
theorem se_yX8_chosen : Cond.selects RX8 yX8_chosen yX8_chosen ∈ tg := tg_at 542 (by decide +kernel) rfl
theorem co_yX8_chosen : Cond.code yX8_chosen cX8_chosen 1 (some .int) ∈ tg := tg_at 543 (by decide +kernel) rfl
theorem ml_L_84 : Cond.methodLink RL 84 yX8_register ∈ tg := tg_at 544 (by decide +kernel) rfl
theorem im_yX8_register : Cond.instanceMethod yX8_register ∈ tg := tg_at 545 (by decide +kernel) rfl
theorem se_yX8_register : Cond.selects RX8 yX8_register yX8_register ∈ tg := tg_at 546 (by decide +kernel) rfl
theorem co_yX8_register : Cond.code yX8_register cX8_register 2 (some .int) ∈ tg := tg_at 547 (by decide +kernel) rfl
theorem ml_X8_200 : Cond.methodLink RX8 200 yX8_valueIn ∈ tg := tg_at 548 (by decide +kernel) rfl
theorem ml_L_88 : Cond.methodLink RL 88 yX8_count ∈ tg := tg_at 549 (by decide +kernel) rfl
theorem im_yX8_count : Cond.instanceMethod yX8_count ∈ tg := tg_at 550 (by decide +kernel) rfl
theorem se_yX8_count : Cond.selects RX8 yX8_count yX8_count ∈ tg := tg_at 551 (by decide +kernel) rfl
theorem co_yX8_count : Cond.code yX8_count cX8_count 2 (some .int) ∈ tg := tg_at 552 (by decide +kernel) rfl
theorem ml_X8_203 : Cond.methodLink RX8 203 yX7_touchedOnes ∈ tg := tg_at 553 (by decide +kernel) rfl
theorem im_yX7_touchedOnes : Cond.instanceMethod yX7_touchedOnes ∈ tg := tg_at 554 (by decide +kernel) rfl
theorem se_yX7_touchedOnes : Cond.selects RX7 yX7_touchedOnes yX7_touchedOnes ∈ tg := tg_at 555 (by decide +kernel) rfl
theorem co_yX7_touchedOnes : Cond.code yX7_touchedOnes cX7_touchedOnes 3 (some .int) ∈ tg := tg_at 556 (by decide +kernel) rfl
theorem ml_X8_206 : Cond.methodLink RX8 206 yX7_brokenOnes ∈ tg := tg_at 557 (by decide +kernel) rfl
theorem im_yX7_brokenOnes : Cond.instanceMethod yX7_brokenOnes ∈ tg := tg_at 558 (by decide +kernel) rfl
theorem se_yX7_brokenOnes : Cond.selects RX7 yX7_brokenOnes yX7_brokenOnes ∈ tg := tg_at 559 (by decide +kernel) rfl
theorem co_yX7_brokenOnes : Cond.code yX7_brokenOnes cX7_brokenOnes 3 (some .int) ∈ tg := tg_at 560 (by decide +kernel) rfl
theorem ml_X8_209 : Cond.methodLink RX8 209 yX8_differencesOfLog ∈ tg := tg_at 561 (by decide +kernel) rfl
theorem im_yX8_differencesOfLog : Cond.instanceMethod yX8_differencesOfLog ∈ tg := tg_at 563 (by decide +kernel) rfl
theorem co_yX8_differencesOfLog : Cond.code yX8_differencesOfLog cX8_differencesOfLog 1 (some .int) ∈ tg := tg_at 564 (by decide +kernel) rfl
theorem ml_X8_215 : Cond.methodLink RX8 215 yX4_differences ∈ tg := tg_at 565 (by decide +kernel) rfl
theorem im_yX4_differences : Cond.instanceMethod yX4_differences ∈ tg := tg_at 566 (by decide +kernel) rfl
theorem se_yX4_differences : Cond.selects RX4 yX4_differences yX4_differences ∈ tg := tg_at 567 (by decide +kernel) rfl
theorem co_yX4_differences : Cond.code yX4_differences cX4_differences 4 (some .int) ∈ tg := tg_at 568 (by decide +kernel) rfl
theorem cl_L_10 : Cond.classLink RL 10 RX9 ∈ tg := tg_at 569 (by decide +kernel) rfl
theorem inst_X9 : Cond.instantiable RX9 22 ∈ tg := tg_at 570 (by decide +kernel) rfl
theorem ml_L_12 : Cond.methodLink RL 12 yX9_init ∈ tg := tg_at 571 (by decide +kernel) rfl
theorem im_yX9_init : Cond.instanceMethod yX9_init ∈ tg := tg_at 572 (by decide +kernel) rfl
theorem co_yX9_init : Cond.code yX9_init cX9_init 1 none ∈ tg := tg_at 573 (by decide +kernel) rfl
theorem ml_X9_1 : Cond.methodLink RX9 1 objectInit ∈ tg := tg_at 574 (by decide +kernel) rfl
theorem fl_X9_9 : Cond.fieldLink RX9 9 "TestsFromUseModel" "many" "[I" ∈ tg := tg_at 575 (by decide +kernel) rfl
theorem fl_X9_13 : Cond.fieldLink RX9 13 "TestsFromUseModel" "when" "[I" ∈ tg := tg_at 576 (by decide +kernel) rfl
theorem fl_X9_16 : Cond.fieldLink RX9 16 "TestsFromUseModel" "then" "[I" ∈ tg := tg_at 577 (by decide +kernel) rfl
theorem fl_X9_19 : Cond.fieldLink RX9 19 "TestsFromUseModel" "from" "[I" ∈ tg := tg_at 578 (by decide +kernel) rfl
theorem fl_X9_96 : Cond.fieldLink RX9 96 "TestsFromUseModel" "calls" "I" ∈ tg := tg_at 579 (by decide +kernel) rfl
theorem fl_X9_22 : Cond.fieldLink RX9 22 "TestsFromUseModel" "logKind" "[I" ∈ tg := tg_at 580 (by decide +kernel) rfl
theorem fl_X9_25 : Cond.fieldLink RX9 25 "TestsFromUseModel" "logNumber" "[I" ∈ tg := tg_at 581 (by decide +kernel) rfl
theorem fl_X9_28 : Cond.fieldLink RX9 28 "TestsFromUseModel" "logResult" "[I" ∈ tg := tg_at 582 (by decide +kernel) rfl
theorem fl_X9_31 : Cond.fieldLink RX9 31 "TestsFromUseModel" "logBranch" "[I" ∈ tg := tg_at 583 (by decide +kernel) rfl
theorem fl_X9_34 : Cond.fieldLink RX9 34 "TestsFromUseModel" "live" "[I" ∈ tg := tg_at 584 (by decide +kernel) rfl
theorem fl_X9_83 : Cond.fieldLink RX9 83 "TestsFromUseModel" "tests" "I" ∈ tg := tg_at 585 (by decide +kernel) rfl
theorem fl_X9_37 : Cond.fieldLink RX9 37 "TestsFromUseModel" "rowLong" "[I" ∈ tg := tg_at 586 (by decide +kernel) rfl
theorem fl_X9_40 : Cond.fieldLink RX9 40 "TestsFromUseModel" "rowKind" "[I" ∈ tg := tg_at 587 (by decide +kernel) rfl
theorem fl_X9_43 : Cond.fieldLink RX9 43 "TestsFromUseModel" "rowNumber" "[I" ∈ tg := tg_at 588 (by decide +kernel) rfl
theorem fl_X9_46 : Cond.fieldLink RX9 46 "TestsFromUseModel" "rowAsks" "[I" ∈ tg := tg_at 589 (by decide +kernel) rfl
theorem fl_X9_49 : Cond.fieldLink RX9 49 "TestsFromUseModel" "met" "[I" ∈ tg := tg_at 590 (by decide +kernel) rfl
theorem fl_X9_52 : Cond.fieldLink RX9 52 "TestsFromUseModel" "isTouched" "[Z" ∈ tg := tg_at 591 (by decide +kernel) rfl
theorem fl_X9_56 : Cond.fieldLink RX9 56 "TestsFromUseModel" "isBroken" "[Z" ∈ tg := tg_at 592 (by decide +kernel) rfl
theorem fl_X9_59 : Cond.fieldLink RX9 59 "TestsFromUseModel" "now" "[I" ∈ tg := tg_at 593 (by decide +kernel) rfl
theorem fl_X9_90 : Cond.fieldLink RX9 90 "TestsFromUseModel" "took" "I" ∈ tg := tg_at 594 (by decide +kernel) rfl
theorem fl_X9_62 : Cond.fieldLink RX9 62 "TestsFromUseModel" "isOut" "[Z" ∈ tg := tg_at 595 (by decide +kernel) rfl
theorem fl_X9_65 : Cond.fieldLink RX9 65 "TestsFromUseModel" "meetsNow" "[I" ∈ tg := tg_at 596 (by decide +kernel) rfl
theorem ac_boolean : Cond.arrayClass .boolean ∈ tg := tg_at 642 (by decide +kernel) rfl
theorem ml_L_17 : Cond.methodLink RL 17 yX9_branch ∈ tg := tg_at 643 (by decide +kernel) rfl
theorem im_yX9_branch : Cond.instanceMethod yX9_branch ∈ tg := tg_at 644 (by decide +kernel) rfl
theorem se_yX9_branch : Cond.selects RX9 yX9_branch yX9_branch ∈ tg := tg_at 645 (by decide +kernel) rfl
theorem co_yX9_branch : Cond.code yX9_branch cX9_branch 8 (some .int) ∈ tg := tg_at 646 (by decide +kernel) rfl
theorem ml_X9_72 : Cond.methodLink RX9 72 yX9_isKind ∈ tg := tg_at 647 (by decide +kernel) rfl
theorem st_yX9_isKind : Cond.static yX9_isKind ∈ tg := tg_at 648 (by decide +kernel) rfl
theorem co_yX9_isKind : Cond.code yX9_isKind cX9_isKind 1 (some .boolean) ∈ tg := tg_at 649 (by decide +kernel) rfl
theorem ml_X9_68 : Cond.methodLink RX9 68 yX9_in ∈ tg := tg_at 650 (by decide +kernel) rfl
theorem st_yX9_in : Cond.static yX9_in ∈ tg := tg_at 651 (by decide +kernel) rfl
theorem co_yX9_in : Cond.code yX9_in cX9_in 3 (some .boolean) ∈ tg := tg_at 652 (by decide +kernel) rfl
theorem ml_X9_76 : Cond.methodLink RX9 76 yX9_isBranch ∈ tg := tg_at 653 (by decide +kernel) rfl
theorem st_yX9_isBranch : Cond.static yX9_isBranch ∈ tg := tg_at 654 (by decide +kernel) rfl
theorem co_yX9_isBranch : Cond.code yX9_isBranch cX9_isBranch 3 (some .boolean) ∈ tg := tg_at 655 (by decide +kernel) rfl
theorem ml_X9_79 : Cond.methodLink RX9 79 yX9_tells ∈ tg := tg_at 656 (by decide +kernel) rfl
theorem im_yX9_tells : Cond.instanceMethod yX9_tells ∈ tg := tg_at 658 (by decide +kernel) rfl
theorem co_yX9_tells : Cond.code yX9_tells cX9_tells 5 none ∈ tg := tg_at 659 (by decide +kernel) rfl
theorem ml_L_22 : Cond.methodLink RL 22 yX9_change ∈ tg := tg_at 660 (by decide +kernel) rfl
theorem im_yX9_change : Cond.instanceMethod yX9_change ∈ tg := tg_at 661 (by decide +kernel) rfl
theorem se_yX9_change : Cond.selects RX9 yX9_change yX9_change ∈ tg := tg_at 662 (by decide +kernel) rfl
theorem co_yX9_change : Cond.code yX9_change cX9_change 6 (some .boolean) ∈ tg := tg_at 663 (by decide +kernel) rfl
theorem ml_X9_87 : Cond.methodLink RX9 87 yX9_isThere ∈ tg := tg_at 664 (by decide +kernel) rfl
theorem im_yX9_isThere : Cond.instanceMethod yX9_isThere ∈ tg := tg_at 666 (by decide +kernel) rfl
theorem co_yX9_isThere : Cond.code yX9_isThere cX9_isThere 2 (some .boolean) ∈ tg := tg_at 667 (by decide +kernel) rfl
theorem ml_L_27 : Cond.methodLink RL 27 yX9_call ∈ tg := tg_at 668 (by decide +kernel) rfl
theorem im_yX9_call : Cond.instanceMethod yX9_call ∈ tg := tg_at 669 (by decide +kernel) rfl
theorem se_yX9_call : Cond.selects RX9 yX9_call yX9_call ∈ tg := tg_at 670 (by decide +kernel) rfl
theorem co_yX9_call : Cond.code yX9_call cX9_call 5 (some .int) ∈ tg := tg_at 671 (by decide +kernel) rfl
theorem ml_X9_99 : Cond.methodLink RX9 99 yX9_goes ∈ tg := tg_at 672 (by decide +kernel) rfl
theorem im_yX9_goes : Cond.instanceMethod yX9_goes ∈ tg := tg_at 674 (by decide +kernel) rfl
theorem co_yX9_goes : Cond.code yX9_goes cX9_goes 5 (some .int) ∈ tg := tg_at 675 (by decide +kernel) rfl
theorem ml_X9_93 : Cond.methodLink RX9 93 yX9_holds ∈ tg := tg_at 676 (by decide +kernel) rfl
theorem im_yX9_holds : Cond.instanceMethod yX9_holds ∈ tg := tg_at 678 (by decide +kernel) rfl
theorem co_yX9_holds : Cond.code yX9_holds cX9_holds 5 (some .boolean) ∈ tg := tg_at 679 (by decide +kernel) rfl
theorem ml_L_32 : Cond.methodLink RL 32 yX9_fresh ∈ tg := tg_at 680 (by decide +kernel) rfl
theorem im_yX9_fresh : Cond.instanceMethod yX9_fresh ∈ tg := tg_at 681 (by decide +kernel) rfl
theorem se_yX9_fresh : Cond.selects RX9 yX9_fresh yX9_fresh ∈ tg := tg_at 682 (by decide +kernel) rfl
theorem co_yX9_fresh : Cond.code yX9_fresh cX9_fresh 3 (some .int) ∈ tg := tg_at 683 (by decide +kernel) rfl
theorem ml_L_36 : Cond.methodLink RL 36 yX9_logged ∈ tg := tg_at 684 (by decide +kernel) rfl
theorem im_yX9_logged : Cond.instanceMethod yX9_logged ∈ tg := tg_at 685 (by decide +kernel) rfl
theorem se_yX9_logged : Cond.selects RX9 yX9_logged yX9_logged ∈ tg := tg_at 686 (by decide +kernel) rfl
theorem co_yX9_logged : Cond.code yX9_logged cX9_logged 3 (some .int) ∈ tg := tg_at 687 (by decide +kernel) rfl
theorem ml_L_41 : Cond.methodLink RL 41 yX9_make ∈ tg := tg_at 688 (by decide +kernel) rfl
theorem im_yX9_make : Cond.instanceMethod yX9_make ∈ tg := tg_at 689 (by decide +kernel) rfl
theorem se_yX9_make : Cond.selects RX9 yX9_make yX9_make ∈ tg := tg_at 690 (by decide +kernel) rfl
theorem co_yX9_make : Cond.code yX9_make cX9_make 4 (some .int) ∈ tg := tg_at 691 (by decide +kernel) rfl
theorem ml_X9_110 : Cond.methodLink RX9 110 yX9_shrinks ∈ tg := tg_at 692 (by decide +kernel) rfl
theorem im_yX9_shrinks : Cond.instanceMethod yX9_shrinks ∈ tg := tg_at 694 (by decide +kernel) rfl
theorem co_yX9_shrinks : Cond.code yX9_shrinks cX9_shrinks 6 none ∈ tg := tg_at 695 (by decide +kernel) rfl
theorem ml_X9_106 : Cond.methodLink RX9 106 yX9_ends ∈ tg := tg_at 696 (by decide +kernel) rfl
theorem im_yX9_ends : Cond.instanceMethod yX9_ends ∈ tg := tg_at 698 (by decide +kernel) rfl
theorem co_yX9_ends : Cond.code yX9_ends cX9_ends 4 (some .int) ∈ tg := tg_at 699 (by decide +kernel) rfl
theorem ml_X9_103 : Cond.methodLink RX9 103 yX9_begins ∈ tg := tg_at 700 (by decide +kernel) rfl
theorem im_yX9_begins : Cond.instanceMethod yX9_begins ∈ tg := tg_at 702 (by decide +kernel) rfl
theorem co_yX9_begins : Cond.code yX9_begins cX9_begins 2 none ∈ tg := tg_at 703 (by decide +kernel) rfl
theorem ml_X9_114 : Cond.methodLink RX9 114 yX9_isLike ∈ tg := tg_at 704 (by decide +kernel) rfl
theorem im_yX9_isLike : Cond.instanceMethod yX9_isLike ∈ tg := tg_at 706 (by decide +kernel) rfl
theorem co_yX9_isLike : Cond.code yX9_isLike cX9_isLike 6 (some .boolean) ∈ tg := tg_at 707 (by decide +kernel) rfl
theorem ml_X9_118 : Cond.methodLink RX9 118 yX9_accept ∈ tg := tg_at 708 (by decide +kernel) rfl
theorem im_yX9_accept : Cond.instanceMethod yX9_accept ∈ tg := tg_at 709 (by decide +kernel) rfl
theorem se_yX9_accept : Cond.selects RX9 yX9_accept yX9_accept ∈ tg := tg_at 710 (by decide +kernel) rfl
theorem co_yX9_accept : Cond.code yX9_accept cX9_accept 3 (some .boolean) ∈ tg := tg_at 711 (by decide +kernel) rfl
theorem ml_X9_121 : Cond.methodLink RX9 121 yX9_isTest ∈ tg := tg_at 712 (by decide +kernel) rfl
theorem im_yX9_isTest : Cond.instanceMethod yX9_isTest ∈ tg := tg_at 714 (by decide +kernel) rfl
theorem co_yX9_isTest : Cond.code yX9_isTest cX9_isTest 2 (some .boolean) ∈ tg := tg_at 715 (by decide +kernel) rfl
theorem ml_L_67 : Cond.methodLink RL 67 yX9_accept ∈ tg := tg_at 716 (by decide +kernel) rfl
theorem ml_L_46 : Cond.methodLink RL 46 yX9_drop ∈ tg := tg_at 717 (by decide +kernel) rfl
theorem im_yX9_drop : Cond.instanceMethod yX9_drop ∈ tg := tg_at 718 (by decide +kernel) rfl
theorem se_yX9_drop : Cond.selects RX9 yX9_drop yX9_drop ∈ tg := tg_at 719 (by decide +kernel) rfl
theorem co_yX9_drop : Cond.code yX9_drop cX9_drop 4 (some .boolean) ∈ tg := tg_at 720 (by decide +kernel) rfl
theorem ml_L_59 : Cond.methodLink RL 59 yX9_differs ∈ tg := tg_at 721 (by decide +kernel) rfl
theorem im_yX9_differs : Cond.instanceMethod yX9_differs ∈ tg := tg_at 722 (by decide +kernel) rfl
theorem se_yX9_differs : Cond.selects RX9 yX9_differs yX9_differs ∈ tg := tg_at 723 (by decide +kernel) rfl
theorem co_yX9_differs : Cond.code yX9_differs cX9_differs 4 (some .int) ∈ tg := tg_at 724 (by decide +kernel) rfl
theorem ml_L_50 : Cond.methodLink RL 50 yX9_told ∈ tg := tg_at 725 (by decide +kernel) rfl
theorem im_yX9_told : Cond.instanceMethod yX9_told ∈ tg := tg_at 726 (by decide +kernel) rfl
theorem se_yX9_told : Cond.selects RX9 yX9_told yX9_told ∈ tg := tg_at 727 (by decide +kernel) rfl
theorem co_yX9_told : Cond.code yX9_told cX9_told 3 (some .int) ∈ tg := tg_at 728 (by decide +kernel) rfl
theorem ml_X9_124 : Cond.methodLink RX9 124 yX9_differs ∈ tg := tg_at 729 (by decide +kernel) rfl
theorem ml_X9_127 : Cond.methodLink RX9 127 yX9_meets ∈ tg := tg_at 730 (by decide +kernel) rfl
theorem im_yX9_meets : Cond.instanceMethod yX9_meets ∈ tg := tg_at 732 (by decide +kernel) rfl
theorem co_yX9_meets : Cond.code yX9_meets cX9_meets 4 (some .int) ∈ tg := tg_at 733 (by decide +kernel) rfl
theorem ml_L_55 : Cond.methodLink RL 55 yX9_row ∈ tg := tg_at 734 (by decide +kernel) rfl
theorem im_yX9_row : Cond.instanceMethod yX9_row ∈ tg := tg_at 735 (by decide +kernel) rfl
theorem se_yX9_row : Cond.selects RX9 yX9_row yX9_row ∈ tg := tg_at 736 (by decide +kernel) rfl
theorem co_yX9_row : Cond.code yX9_row cX9_row 5 (some .int) ∈ tg := tg_at 737 (by decide +kernel) rfl
theorem ml_X9_130 : Cond.methodLink RX9 130 yX9_givesNow ∈ tg := tg_at 738 (by decide +kernel) rfl
theorem im_yX9_givesNow : Cond.instanceMethod yX9_givesNow ∈ tg := tg_at 740 (by decide +kernel) rfl
theorem co_yX9_givesNow : Cond.code yX9_givesNow cX9_givesNow 5 (some .int) ∈ tg := tg_at 741 (by decide +kernel) rfl
theorem ml_L_63 : Cond.methodLink RL 63 yX9_run ∈ tg := tg_at 742 (by decide +kernel) rfl
theorem im_yX9_run : Cond.instanceMethod yX9_run ∈ tg := tg_at 743 (by decide +kernel) rfl
theorem se_yX9_run : Cond.selects RX9 yX9_run yX9_run ∈ tg := tg_at 744 (by decide +kernel) rfl
theorem co_yX9_run : Cond.code yX9_run cX9_run 3 (some .int) ∈ tg := tg_at 745 (by decide +kernel) rfl
theorem ml_L_71 : Cond.methodLink RL 71 yX9_reached ∈ tg := tg_at 746 (by decide +kernel) rfl
theorem im_yX9_reached : Cond.instanceMethod yX9_reached ∈ tg := tg_at 747 (by decide +kernel) rfl
theorem se_yX9_reached : Cond.selects RX9 yX9_reached yX9_reached ∈ tg := tg_at 748 (by decide +kernel) rfl
theorem co_yX9_reached : Cond.code yX9_reached cX9_reached 3 (some .int) ∈ tg := tg_at 749 (by decide +kernel) rfl
theorem ml_L_75 : Cond.methodLink RL 75 yX9_never ∈ tg := tg_at 750 (by decide +kernel) rfl
theorem im_yX9_never : Cond.instanceMethod yX9_never ∈ tg := tg_at 751 (by decide +kernel) rfl
theorem se_yX9_never : Cond.selects RX9 yX9_never yX9_never ∈ tg := tg_at 752 (by decide +kernel) rfl
theorem co_yX9_never : Cond.code yX9_never cX9_never 3 (some .int) ∈ tg := tg_at 753 (by decide +kernel) rfl
theorem ml_X9_133 : Cond.methodLink RX9 133 yX9_reached ∈ tg := tg_at 754 (by decide +kernel) rfl
theorem ml_L_83 : Cond.methodLink RL 83 yX9_chosen ∈ tg := tg_at 755 (by decide +kernel) rfl
theorem im_yX9_chosen : Cond.instanceMethod yX9_chosen ∈ tg := tg_at 756 (by decide +kernel) rfl
theorem se_yX9_chosen : Cond.selects RX9 yX9_chosen yX9_chosen ∈ tg := tg_at 757 (by decide +kernel) rfl
theorem co_yX9_chosen : Cond.code yX9_chosen cX9_chosen 6 (some .int) ∈ tg := tg_at 758 (by decide +kernel) rfl
theorem ml_X9_137 : Cond.methodLink RX9 137 yX9_bits ∈ tg := tg_at 759 (by decide +kernel) rfl
theorem st_yX9_bits : Cond.static yX9_bits ∈ tg := tg_at 760 (by decide +kernel) rfl
theorem co_yX9_bits : Cond.code yX9_bits cX9_bits 3 (some .int) ∈ tg := tg_at 761 (by decide +kernel) rfl
theorem ml_L_79 : Cond.methodLink RL 79 yX9_fewest ∈ tg := tg_at 762 (by decide +kernel) rfl
theorem im_yX9_fewest : Cond.instanceMethod yX9_fewest ∈ tg := tg_at 763 (by decide +kernel) rfl
theorem se_yX9_fewest : Cond.selects RX9 yX9_fewest yX9_fewest ∈ tg := tg_at 764 (by decide +kernel) rfl
theorem co_yX9_fewest : Cond.code yX9_fewest cX9_fewest 1 (some .int) ∈ tg := tg_at 765 (by decide +kernel) rfl
theorem ml_X9_140 : Cond.methodLink RX9 140 yX9_chosen ∈ tg := tg_at 766 (by decide +kernel) rfl
theorem ml_L_87 : Cond.methodLink RL 87 yX9_register ∈ tg := tg_at 767 (by decide +kernel) rfl
theorem im_yX9_register : Cond.instanceMethod yX9_register ∈ tg := tg_at 768 (by decide +kernel) rfl
theorem se_yX9_register : Cond.selects RX9 yX9_register yX9_register ∈ tg := tg_at 769 (by decide +kernel) rfl
theorem co_yX9_register : Cond.code yX9_register cX9_register 2 (some .int) ∈ tg := tg_at 770 (by decide +kernel) rfl
theorem ml_L_91 : Cond.methodLink RL 91 yX9_count ∈ tg := tg_at 771 (by decide +kernel) rfl
theorem im_yX9_count : Cond.instanceMethod yX9_count ∈ tg := tg_at 772 (by decide +kernel) rfl
theorem se_yX9_count : Cond.selects RX9 yX9_count yX9_count ∈ tg := tg_at 773 (by decide +kernel) rfl
theorem co_yX9_count : Cond.code yX9_count cX9_count 4 (some .int) ∈ tg := tg_at 774 (by decide +kernel) rfl
abbrev nmT : Type := String × Nat × MethodName × String
abbrev nfT : Type := String × Nat × String × String × String × String
def nml : List nmT := [(RX8, 11, yX2_init, "TestsFromUse"), (RX8, 18, yX1_init, "TestsFromUse"), (RX1, 11, yX5_init, "TestsFromUse"), (RX7, 25, yX3_init, "TestsFromUse"), (RX3, 9, yX5_init, "TestsFromUse"), (RX2, 21, yX8_isBelow, "TestsFromUse"), (RX0, 43, yX8_isBelow, "TestsFromUse"), (RX5, 36, yX8_kindOf, "TestsFromUse"), (RX2, 33, yX8_kindOf, "TestsFromUse"), (RX0, 48, yX8_valueIn, "TestsFromUse"), (RX1, 36, yX8_numberOf, "TestsFromUse"), (RX0, 52, yX8_withValue, "TestsFromUse"), (RX5, 22, yX8_isBelow, "TestsFromUse"), (RX1, 58, yX8_isBelow, "TestsFromUse"), (RX1, 65, yX8_kindOf, "TestsFromUse"), (RX4, 44, yX8_numberOf, "TestsFromUse"), (RX4, 61, yX8_isBelow, "TestsFromUse"), (RX6, 46, yX8_numberOf, "TestsFromUse"), (RX7, 26, yX8_isBelow, "TestsFromUse")]
def nfl : List nfT := [(RX8, 108, "TestsFromUse$Log", "row", "LTestsFromUse$Row;", "TestsFromUse"), (RX8, 197, "TestsFromUse$Log", "state", "I", "TestsFromUse"), (RX7, 30, "TestsFromUse$MadeTest", "row", "LTestsFromUse$Row;", "TestsFromUse"), (RX8, 102, "TestsFromUse$MadeTest", "row", "LTestsFromUse$Row;", "TestsFromUse"), (RX7, 44, "TestsFromUse$MadeTest", "met", "I", "TestsFromUse"), (RX8, 159, "TestsFromUse$MadeTest", "met", "I", "TestsFromUse"), (RX7, 40, "TestsFromUse$MadeTest", "touched", "Z", "TestsFromUse"), (RX8, 148, "TestsFromUse$MadeTest", "touched", "Z", "TestsFromUse"), (RX8, 152, "TestsFromUse$MadeTest", "broken", "Z", "TestsFromUse"), (RX7, 51, "TestsFromUse$MadeTest", "broken", "Z", "TestsFromUse")]
/-- the nest's words, in a state -/
def NW (U : State) : Prop := (∀ q ∈ nml, va_Nw (.methodLinkNest q.1 q.2.1 q.2.2.1 q.2.2.2) U) ∧ ∀ q ∈ nfl, va_Nw (.fieldLinkNest q.1 q.2.1 q.2.2.1 q.2.2.2.1 q.2.2.2.2.1 q.2.2.2.2.2) U
theorem NW.warm {s U : State} (hW : s.WarmedH U.vm) (h : NW s) : NW U := ⟨fun q hq => va_Nw.warmM hW (h.1 q hq), fun q hq => va_Nw.warmF hW (h.2 q hq)⟩
theorem NW.same {s U : State} (hW : s.vm = U.vm) (h : NW s) : NW U := ⟨fun q hq => va_Nw.same rfl hW (h.1 q hq), fun q hq => va_Nw.same rfl hW (h.2 q hq)⟩
theorem mn_X8_11 : ((RX8, 11, yX2_init, "TestsFromUse") : nmT) ∈ nml := List.mem_of_getElem? (i := 0) rfl
theorem mn_X8_18 : ((RX8, 18, yX1_init, "TestsFromUse") : nmT) ∈ nml := List.mem_of_getElem? (i := 1) rfl
theorem mn_X1_11 : ((RX1, 11, yX5_init, "TestsFromUse") : nmT) ∈ nml := List.mem_of_getElem? (i := 2) rfl
theorem mn_X7_25 : ((RX7, 25, yX3_init, "TestsFromUse") : nmT) ∈ nml := List.mem_of_getElem? (i := 3) rfl
theorem mn_X3_9 : ((RX3, 9, yX5_init, "TestsFromUse") : nmT) ∈ nml := List.mem_of_getElem? (i := 4) rfl
theorem mn_X2_21 : ((RX2, 21, yX8_isBelow, "TestsFromUse") : nmT) ∈ nml := List.mem_of_getElem? (i := 5) rfl
theorem mn_X0_43 : ((RX0, 43, yX8_isBelow, "TestsFromUse") : nmT) ∈ nml := List.mem_of_getElem? (i := 6) rfl
theorem mn_X5_36 : ((RX5, 36, yX8_kindOf, "TestsFromUse") : nmT) ∈ nml := List.mem_of_getElem? (i := 7) rfl
theorem mn_X2_33 : ((RX2, 33, yX8_kindOf, "TestsFromUse") : nmT) ∈ nml := List.mem_of_getElem? (i := 8) rfl
theorem mn_X0_48 : ((RX0, 48, yX8_valueIn, "TestsFromUse") : nmT) ∈ nml := List.mem_of_getElem? (i := 9) rfl
theorem mn_X1_36 : ((RX1, 36, yX8_numberOf, "TestsFromUse") : nmT) ∈ nml := List.mem_of_getElem? (i := 10) rfl
theorem mn_X0_52 : ((RX0, 52, yX8_withValue, "TestsFromUse") : nmT) ∈ nml := List.mem_of_getElem? (i := 11) rfl
theorem mn_X5_22 : ((RX5, 22, yX8_isBelow, "TestsFromUse") : nmT) ∈ nml := List.mem_of_getElem? (i := 12) rfl
theorem mn_X1_58 : ((RX1, 58, yX8_isBelow, "TestsFromUse") : nmT) ∈ nml := List.mem_of_getElem? (i := 13) rfl
theorem mn_X1_65 : ((RX1, 65, yX8_kindOf, "TestsFromUse") : nmT) ∈ nml := List.mem_of_getElem? (i := 14) rfl
theorem mn_X4_44 : ((RX4, 44, yX8_numberOf, "TestsFromUse") : nmT) ∈ nml := List.mem_of_getElem? (i := 15) rfl
theorem mn_X4_61 : ((RX4, 61, yX8_isBelow, "TestsFromUse") : nmT) ∈ nml := List.mem_of_getElem? (i := 16) rfl
theorem mn_X6_46 : ((RX6, 46, yX8_numberOf, "TestsFromUse") : nmT) ∈ nml := List.mem_of_getElem? (i := 17) rfl
theorem mn_X7_26 : ((RX7, 26, yX8_isBelow, "TestsFromUse") : nmT) ∈ nml := List.mem_of_getElem? (i := 18) rfl
theorem fn_X8_108 : ((RX8, 108, "TestsFromUse$Log", "row", "LTestsFromUse$Row;", "TestsFromUse") : nfT) ∈ nfl := List.mem_of_getElem? (i := 0) rfl
theorem fn_X8_197 : ((RX8, 197, "TestsFromUse$Log", "state", "I", "TestsFromUse") : nfT) ∈ nfl := List.mem_of_getElem? (i := 1) rfl
theorem fn_X7_30 : ((RX7, 30, "TestsFromUse$MadeTest", "row", "LTestsFromUse$Row;", "TestsFromUse") : nfT) ∈ nfl := List.mem_of_getElem? (i := 2) rfl
theorem fn_X8_102 : ((RX8, 102, "TestsFromUse$MadeTest", "row", "LTestsFromUse$Row;", "TestsFromUse") : nfT) ∈ nfl := List.mem_of_getElem? (i := 3) rfl
theorem fn_X7_44 : ((RX7, 44, "TestsFromUse$MadeTest", "met", "I", "TestsFromUse") : nfT) ∈ nfl := List.mem_of_getElem? (i := 4) rfl
theorem fn_X8_159 : ((RX8, 159, "TestsFromUse$MadeTest", "met", "I", "TestsFromUse") : nfT) ∈ nfl := List.mem_of_getElem? (i := 5) rfl
theorem fn_X7_40 : ((RX7, 40, "TestsFromUse$MadeTest", "touched", "Z", "TestsFromUse") : nfT) ∈ nfl := List.mem_of_getElem? (i := 6) rfl
theorem fn_X8_148 : ((RX8, 148, "TestsFromUse$MadeTest", "touched", "Z", "TestsFromUse") : nfT) ∈ nfl := List.mem_of_getElem? (i := 7) rfl
theorem fn_X8_152 : ((RX8, 152, "TestsFromUse$MadeTest", "broken", "Z", "TestsFromUse") : nfT) ∈ nfl := List.mem_of_getElem? (i := 8) rfl
theorem fn_X7_51 : ((RX7, 51, "TestsFromUse$MadeTest", "broken", "Z", "TestsFromUse") : nfT) ∈ nfl := List.mem_of_getElem? (i := 9) rfl
theorem nml_in : ∀ q ∈ nml, Cond.methodLinkNest q.1 q.2.1 q.2.2.1 q.2.2.2 ∈ lw_tbl := by decide +kernel
theorem nfl_in : ∀ q ∈ nfl, Cond.fieldLinkNest q.1 q.2.1 q.2.2.1 q.2.2.2.1 q.2.2.2.2.1 q.2.2.2.2.2 ∈ lw_tbl := by decide +kernel
theorem NW.of {s : State} {args : Array Value} (h : ∀ w ∈ lw_tbl, w.before args s = true) : NW s := ⟨fun q hq => va_Nw.of rfl (h _ (nml_in q hq)), fun q hq => va_Nw.of rfl (h _ (nfl_in q hq))⟩
theorem inT0 : ∀ w ∈ wsX00, w ∈ tg := by decide +kernel
theorem inT1 : ∀ w ∈ wsX10, w ∈ tg := by decide +kernel
theorem inT2 : ∀ w ∈ wsX20, w ∈ tg := by decide +kernel
theorem inT3 : ∀ w ∈ wsX30, w ∈ tg := by decide +kernel
theorem inT4 : ∀ w ∈ wsX40, w ∈ tg := by decide +kernel
theorem inT5 : ∀ w ∈ wsX50, w ∈ tg := by decide +kernel
theorem inT6 : ∀ w ∈ wsX60, w ∈ tg := by decide +kernel
theorem inT7 : ∀ w ∈ wsX70, w ∈ tg := by decide +kernel
theorem inT8 : ∀ w ∈ wsX80, w ∈ tg := by decide +kernel
theorem inT9 : ∀ w ∈ wsX90, w ∈ tg := by decide +kernel
end
section
theorem dX0_init_0 : decode cX0_init 0 = .ok (.aload_n 0, 1) := by decide +kernel
theorem dX0_init_1 : decode cX0_init 1 = .ok (.invokespecial 3, 3) := by decide +kernel
theorem dX0_init_4 : decode cX0_init 4 = .ok (.aload_n 0, 1) := by decide +kernel
theorem dX0_init_5 : decode cX0_init 5 = .ok (.iload_n 1, 1) := by decide +kernel
theorem dX0_init_6 : decode cX0_init 6 = .ok (.sipush 1000, 3) := by decide +kernel
theorem dX0_init_9 : decode cX0_init 9 = .ok (.idiv, 1) := by decide +kernel
theorem dX0_init_10 : decode cX0_init 10 = .ok (.putfield 9, 3) := by decide +kernel
theorem dX0_init_13 : decode cX0_init 13 = .ok (.aload_n 0, 1) := by decide +kernel
theorem dX0_init_14 : decode cX0_init 14 = .ok (.iload_n 1, 1) := by decide +kernel
theorem dX0_init_15 : decode cX0_init 15 = .ok (.bipush 100, 2) := by decide +kernel
theorem dX0_init_17 : decode cX0_init 17 = .ok (.idiv, 1) := by decide +kernel
theorem dX0_init_18 : decode cX0_init 18 = .ok (.bipush 10, 2) := by decide +kernel
theorem dX0_init_20 : decode cX0_init 20 = .ok (.irem, 1) := by decide +kernel
theorem dX0_init_21 : decode cX0_init 21 = .ok (.putfield 15, 3) := by decide +kernel
theorem dX0_init_24 : decode cX0_init 24 = .ok (.aload_n 0, 1) := by decide +kernel
theorem dX0_init_25 : decode cX0_init 25 = .ok (.iload_n 1, 1) := by decide +kernel
theorem dX0_init_26 : decode cX0_init 26 = .ok (.bipush 100, 2) := by decide +kernel
theorem dX0_init_28 : decode cX0_init 28 = .ok (.irem, 1) := by decide +kernel
theorem dX0_init_29 : decode cX0_init 29 = .ok (.putfield 18, 3) := by decide +kernel
theorem dX0_init_32 : decode cX0_init 32 = .ok (.aload_n 0, 1) := by decide +kernel
theorem dX0_init_33 : decode cX0_init 33 = .ok (.iload_n 2, 1) := by decide +kernel
theorem dX0_init_34 : decode cX0_init 34 = .ok (.sipush 10000, 3) := by decide +kernel
theorem dX0_init_37 : decode cX0_init 37 = .ok (.idiv, 1) := by decide +kernel
theorem dX0_init_38 : decode cX0_init 38 = .ok (.putfield 21, 3) := by decide +kernel
theorem dX0_init_41 : decode cX0_init 41 = .ok (.aload_n 0, 1) := by decide +kernel
theorem dX0_init_42 : decode cX0_init 42 = .ok (.iload_n 2, 1) := by decide +kernel
theorem dX0_init_43 : decode cX0_init 43 = .ok (.sipush 1000, 3) := by decide +kernel
theorem dX0_init_46 : decode cX0_init 46 = .ok (.idiv, 1) := by decide +kernel
theorem dX0_init_47 : decode cX0_init 47 = .ok (.bipush 10, 2) := by decide +kernel
theorem dX0_init_49 : decode cX0_init 49 = .ok (.irem, 1) := by decide +kernel
theorem dX0_init_50 : decode cX0_init 50 = .ok (.putfield 24, 3) := by decide +kernel
theorem dX0_init_53 : decode cX0_init 53 = .ok (.aload_n 0, 1) := by decide +kernel
theorem dX0_init_54 : decode cX0_init 54 = .ok (.iload_n 2, 1) := by decide +kernel
theorem dX0_init_55 : decode cX0_init 55 = .ok (.bipush 100, 2) := by decide +kernel
theorem dX0_init_57 : decode cX0_init 57 = .ok (.idiv, 1) := by decide +kernel
theorem dX0_init_58 : decode cX0_init 58 = .ok (.bipush 10, 2) := by decide +kernel
theorem dX0_init_60 : decode cX0_init 60 = .ok (.irem, 1) := by decide +kernel
theorem dX0_init_61 : decode cX0_init 61 = .ok (.putfield 27, 3) := by decide +kernel
theorem dX0_init_64 : decode cX0_init 64 = .ok (.aload_n 0, 1) := by decide +kernel
theorem dX0_init_65 : decode cX0_init 65 = .ok (.iload_n 2, 1) := by decide +kernel
theorem dX0_init_66 : decode cX0_init 66 = .ok (.bipush 100, 2) := by decide +kernel
theorem dX0_init_68 : decode cX0_init 68 = .ok (.irem, 1) := by decide +kernel
theorem dX0_init_69 : decode cX0_init 69 = .ok (.putfield 30, 3) := by decide +kernel
theorem dX0_init_72 : decode cX0_init 72 = .ok (.aload_n 0, 1) := by decide +kernel
theorem dX0_init_73 : decode cX0_init 73 = .ok (.iload_n 3, 1) := by decide +kernel
theorem dX0_init_74 : decode cX0_init 74 = .ok (.putfield 33, 3) := by decide +kernel
theorem dX0_init_77 : decode cX0_init 77 = .ok (.return_, 1) := by decide +kernel
theorem dX0_canBe_0 : decode cX0_canBe 0 = .ok (.iload_n 0, 1) := by decide +kernel
theorem dX0_canBe_1 : decode cX0_canBe 1 = .ok (.invokestatic 36, 3) := by decide +kernel
theorem dX0_canBe_4 : decode cX0_canBe 4 = .ok (.ifCond .eq 22, 3) := by decide +kernel
theorem dX0_canBe_7 : decode cX0_canBe 7 = .ok (.iload_n 1, 1) := by decide +kernel
theorem dX0_canBe_8 : decode cX0_canBe 8 = .ok (.invokestatic 40, 3) := by decide +kernel
theorem dX0_canBe_11 : decode cX0_canBe 11 = .ok (.ifCond .eq 15, 3) := by decide +kernel
theorem dX0_canBe_14 : decode cX0_canBe 14 = .ok (.iload_n 2, 1) := by decide +kernel
theorem dX0_canBe_15 : decode cX0_canBe 15 = .ok (.iconst 4, 1) := by decide +kernel
theorem dX0_canBe_16 : decode cX0_canBe 16 = .ok (.invokestatic 43, 3) := by decide +kernel
theorem dX0_canBe_19 : decode cX0_canBe 19 = .ok (.ifCond .eq 7, 3) := by decide +kernel
theorem dX0_canBe_22 : decode cX0_canBe 22 = .ok (.iconst 1, 1) := by decide +kernel
theorem dX0_canBe_23 : decode cX0_canBe 23 = .ok (.goto 4, 3) := by decide +kernel
theorem dX0_canBe_26 : decode cX0_canBe 26 = .ok (.iconst 0, 1) := by decide +kernel
theorem dX0_canBe_27 : decode cX0_canBe 27 = .ok (.ireturn, 1) := by decide +kernel
theorem dX0_isCondition_0 : decode cX0_isCondition 0 = .ok (.iload_n 0, 1) := by decide +kernel
theorem dX0_isCondition_1 : decode cX0_isCondition 1 = .ok (.sipush 4000, 3) := by decide +kernel
theorem dX0_isCondition_4 : decode cX0_isCondition 4 = .ok (.invokestatic 43, 3) := by decide +kernel
theorem dX0_isCondition_7 : decode cX0_isCondition 7 = .ok (.ifCond .eq 27, 3) := by decide +kernel
theorem dX0_isCondition_10 : decode cX0_isCondition 10 = .ok (.iload_n 0, 1) := by decide +kernel
theorem dX0_isCondition_11 : decode cX0_isCondition 11 = .ok (.bipush 100, 2) := by decide +kernel
theorem dX0_isCondition_13 : decode cX0_isCondition 13 = .ok (.idiv, 1) := by decide +kernel
theorem dX0_isCondition_14 : decode cX0_isCondition 14 = .ok (.bipush 10, 2) := by decide +kernel
theorem dX0_isCondition_16 : decode cX0_isCondition 16 = .ok (.irem, 1) := by decide +kernel
theorem dX0_isCondition_17 : decode cX0_isCondition 17 = .ok (.iconst 3, 1) := by decide +kernel
theorem dX0_isCondition_18 : decode cX0_isCondition 18 = .ok (.if_icmp .ge 16, 3) := by decide +kernel
theorem dX0_isCondition_21 : decode cX0_isCondition 21 = .ok (.iload_n 0, 1) := by decide +kernel
theorem dX0_isCondition_22 : decode cX0_isCondition 22 = .ok (.bipush 100, 2) := by decide +kernel
theorem dX0_isCondition_24 : decode cX0_isCondition 24 = .ok (.irem, 1) := by decide +kernel
theorem dX0_isCondition_25 : decode cX0_isCondition 25 = .ok (.bipush 16, 2) := by decide +kernel
theorem dX0_isCondition_27 : decode cX0_isCondition 27 = .ok (.if_icmp .ge 7, 3) := by decide +kernel
theorem dX0_isCondition_30 : decode cX0_isCondition 30 = .ok (.iconst 1, 1) := by decide +kernel
theorem dX0_isCondition_31 : decode cX0_isCondition 31 = .ok (.goto 4, 3) := by decide +kernel
theorem dX0_isCondition_34 : decode cX0_isCondition 34 = .ok (.iconst 0, 1) := by decide +kernel
theorem dX0_isCondition_35 : decode cX0_isCondition 35 = .ok (.ireturn, 1) := by decide +kernel
theorem dX0_isEffect_0 : decode cX0_isEffect 0 = .ok (.iload_n 0, 1) := by decide +kernel
theorem dX0_isEffect_1 : decode cX0_isEffect 1 = .ok (.ldc 47, 2) := by decide +kernel
theorem dX0_isEffect_3 : decode cX0_isEffect 3 = .ok (.invokestatic 43, 3) := by decide +kernel
theorem dX0_isEffect_6 : decode cX0_isEffect 6 = .ok (.ifCond .eq 16, 3) := by decide +kernel
theorem dX0_isEffect_9 : decode cX0_isEffect 9 = .ok (.iload_n 0, 1) := by decide +kernel
theorem dX0_isEffect_10 : decode cX0_isEffect 10 = .ok (.bipush 100, 2) := by decide +kernel
theorem dX0_isEffect_12 : decode cX0_isEffect 12 = .ok (.irem, 1) := by decide +kernel
theorem dX0_isEffect_13 : decode cX0_isEffect 13 = .ok (.bipush 16, 2) := by decide +kernel
theorem dX0_isEffect_15 : decode cX0_isEffect 15 = .ok (.if_icmp .ge 7, 3) := by decide +kernel
theorem dX0_isEffect_18 : decode cX0_isEffect 18 = .ok (.iconst 1, 1) := by decide +kernel
theorem dX0_isEffect_19 : decode cX0_isEffect 19 = .ok (.goto 4, 3) := by decide +kernel
theorem dX0_isEffect_22 : decode cX0_isEffect 22 = .ok (.iconst 0, 1) := by decide +kernel
theorem dX0_isEffect_23 : decode cX0_isEffect 23 = .ok (.ireturn, 1) := by decide +kernel
theorem dX0_holds_0 : decode cX0_holds 0 = .ok (.iload_n 1, 1) := by decide +kernel
theorem dX0_holds_1 : decode cX0_holds 1 = .ok (.aload_n 0, 1) := by decide +kernel
theorem dX0_holds_2 : decode cX0_holds 2 = .ok (.getfield 9, 3) := by decide +kernel
theorem dX0_holds_5 : decode cX0_holds 5 = .ok (.invokestatic 48, 3) := by decide +kernel
theorem dX0_holds_8 : decode cX0_holds 8 = .ok (.istore_n 2, 1) := by decide +kernel
theorem dX0_holds_9 : decode cX0_holds 9 = .ok (.aload_n 0, 1) := by decide +kernel
theorem dX0_holds_10 : decode cX0_holds 10 = .ok (.getfield 15, 3) := by decide +kernel
theorem dX0_holds_13 : decode cX0_holds 13 = .ok (.ifCond .ne 17, 3) := by decide +kernel
theorem dX0_holds_16 : decode cX0_holds 16 = .ok (.iload_n 2, 1) := by decide +kernel
theorem dX0_holds_17 : decode cX0_holds 17 = .ok (.aload_n 0, 1) := by decide +kernel
theorem dX0_holds_18 : decode cX0_holds 18 = .ok (.getfield 18, 3) := by decide +kernel
theorem dX0_holds_21 : decode cX0_holds 21 = .ok (.if_icmp .ge 7, 3) := by decide +kernel
theorem dX0_holds_24 : decode cX0_holds 24 = .ok (.iconst 1, 1) := by decide +kernel
theorem dX0_holds_25 : decode cX0_holds 25 = .ok (.goto 4, 3) := by decide +kernel
theorem dX0_holds_28 : decode cX0_holds 28 = .ok (.iconst 0, 1) := by decide +kernel
theorem dX0_holds_29 : decode cX0_holds 29 = .ok (.ireturn, 1) := by decide +kernel
theorem dX0_holds_30 : decode cX0_holds 30 = .ok (.aload_n 0, 1) := by decide +kernel
theorem dX0_holds_31 : decode cX0_holds 31 = .ok (.getfield 15, 3) := by decide +kernel
theorem dX0_holds_34 : decode cX0_holds 34 = .ok (.iconst 1, 1) := by decide +kernel
theorem dX0_holds_35 : decode cX0_holds 35 = .ok (.if_icmp .ne 19, 3) := by decide +kernel
theorem dX0_holds_38 : decode cX0_holds 38 = .ok (.iload_n 2, 1) := by decide +kernel
theorem dX0_holds_39 : decode cX0_holds 39 = .ok (.aload_n 0, 1) := by decide +kernel
theorem dX0_holds_40 : decode cX0_holds 40 = .ok (.getfield 18, 3) := by decide +kernel
theorem dX0_holds_43 : decode cX0_holds 43 = .ok (.if_icmp .ne 7, 3) := by decide +kernel
theorem dX0_holds_46 : decode cX0_holds 46 = .ok (.iconst 1, 1) := by decide +kernel
theorem dX0_holds_47 : decode cX0_holds 47 = .ok (.goto 20, 3) := by decide +kernel
theorem dX0_holds_50 : decode cX0_holds 50 = .ok (.iconst 0, 1) := by decide +kernel
theorem dX0_holds_51 : decode cX0_holds 51 = .ok (.goto 16, 3) := by decide +kernel
theorem dX0_holds_54 : decode cX0_holds 54 = .ok (.iload_n 2, 1) := by decide +kernel
theorem dX0_holds_55 : decode cX0_holds 55 = .ok (.aload_n 0, 1) := by decide +kernel
theorem dX0_holds_56 : decode cX0_holds 56 = .ok (.getfield 18, 3) := by decide +kernel
theorem dX0_holds_59 : decode cX0_holds 59 = .ok (.if_icmp .le 7, 3) := by decide +kernel
theorem dX0_holds_62 : decode cX0_holds 62 = .ok (.iconst 1, 1) := by decide +kernel
theorem dX0_holds_63 : decode cX0_holds 63 = .ok (.goto 4, 3) := by decide +kernel
theorem dX0_holds_66 : decode cX0_holds 66 = .ok (.iconst 0, 1) := by decide +kernel
theorem dX0_holds_67 : decode cX0_holds 67 = .ok (.ireturn, 1) := by decide +kernel
theorem dX0_stateBehind_0 : decode cX0_stateBehind 0 = .ok (.iload_n 1, 1) := by decide +kernel
theorem dX0_stateBehind_1 : decode cX0_stateBehind 1 = .ok (.aload_n 0, 1) := by decide +kernel
theorem dX0_stateBehind_2 : decode cX0_stateBehind 2 = .ok (.getfield 21, 3) := by decide +kernel
theorem dX0_stateBehind_5 : decode cX0_stateBehind 5 = .ok (.invokestatic 48, 3) := by decide +kernel
theorem dX0_stateBehind_8 : decode cX0_stateBehind 8 = .ok (.istore_n 3, 1) := by decide +kernel
theorem dX0_stateBehind_9 : decode cX0_stateBehind 9 = .ok (.iload_n 1, 1) := by decide +kernel
theorem dX0_stateBehind_10 : decode cX0_stateBehind 10 = .ok (.aload_n 0, 1) := by decide +kernel
theorem dX0_stateBehind_11 : decode cX0_stateBehind 11 = .ok (.getfield 21, 3) := by decide +kernel
theorem dX0_stateBehind_14 : decode cX0_stateBehind 14 = .ok (.aload_n 0, 1) := by decide +kernel
theorem dX0_stateBehind_15 : decode cX0_stateBehind 15 = .ok (.getfield 24, 3) := by decide +kernel
theorem dX0_stateBehind_18 : decode cX0_stateBehind 18 = .ok (.iload_n 3, 1) := by decide +kernel
theorem dX0_stateBehind_19 : decode cX0_stateBehind 19 = .ok (.imul, 1) := by decide +kernel
theorem dX0_stateBehind_20 : decode cX0_stateBehind 20 = .ok (.aload_n 0, 1) := by decide +kernel
theorem dX0_stateBehind_21 : decode cX0_stateBehind 21 = .ok (.getfield 27, 3) := by decide +kernel
theorem dX0_stateBehind_24 : decode cX0_stateBehind 24 = .ok (.iload_n 2, 1) := by decide +kernel
theorem dX0_stateBehind_25 : decode cX0_stateBehind 25 = .ok (.imul, 1) := by decide +kernel
theorem dX0_stateBehind_26 : decode cX0_stateBehind 26 = .ok (.iadd, 1) := by decide +kernel
theorem dX0_stateBehind_27 : decode cX0_stateBehind 27 = .ok (.aload_n 0, 1) := by decide +kernel
theorem dX0_stateBehind_28 : decode cX0_stateBehind 28 = .ok (.getfield 30, 3) := by decide +kernel
theorem dX0_stateBehind_31 : decode cX0_stateBehind 31 = .ok (.iadd, 1) := by decide +kernel
theorem dX0_stateBehind_32 : decode cX0_stateBehind 32 = .ok (.invokestatic 52, 3) := by decide +kernel
theorem dX0_stateBehind_35 : decode cX0_stateBehind 35 = .ok (.ireturn, 1) := by decide +kernel
theorem dX0_resultIn_0 : decode cX0_resultIn 0 = .ok (.iload_n 1, 1) := by decide +kernel
theorem dX0_resultIn_1 : decode cX0_resultIn 1 = .ok (.aload_n 0, 1) := by decide +kernel
theorem dX0_resultIn_2 : decode cX0_resultIn 2 = .ok (.getfield 33, 3) := by decide +kernel
theorem dX0_resultIn_5 : decode cX0_resultIn 5 = .ok (.invokestatic 48, 3) := by decide +kernel
theorem dX0_resultIn_8 : decode cX0_resultIn 8 = .ok (.ireturn, 1) := by decide +kernel
theorem dX1_init_0 : decode cX1_init 0 = .ok (.aload_n 0, 1) := by decide +kernel
theorem dX1_init_1 : decode cX1_init 1 = .ok (.invokespecial 3, 3) := by decide +kernel
theorem dX1_init_4 : decode cX1_init 4 = .ok (.aload_n 0, 1) := by decide +kernel
theorem dX1_init_5 : decode cX1_init 5 = .ok (.new 9, 3) := by decide +kernel
theorem dX1_init_8 : decode cX1_init 8 = .ok (.dup, 1) := by decide +kernel
theorem dX1_init_9 : decode cX1_init 9 = .ok (.invokespecial 11, 3) := by decide +kernel
theorem dX1_init_12 : decode cX1_init 12 = .ok (.putfield 12, 3) := by decide +kernel
theorem dX1_init_15 : decode cX1_init 15 = .ok (.aload_n 0, 1) := by decide +kernel
theorem dX1_init_16 : decode cX1_init 16 = .ok (.sipush 200, 3) := by decide +kernel
theorem dX1_init_19 : decode cX1_init 19 = .ok (.newarray .int, 2) := by decide +kernel
theorem dX1_init_21 : decode cX1_init 21 = .ok (.putfield 18, 3) := by decide +kernel
theorem dX1_init_24 : decode cX1_init 24 = .ok (.aload_n 0, 1) := by decide +kernel
theorem dX1_init_25 : decode cX1_init 25 = .ok (.iconst 0, 1) := by decide +kernel
theorem dX1_init_26 : decode cX1_init 26 = .ok (.putfield 22, 3) := by decide +kernel
theorem dX1_init_29 : decode cX1_init 29 = .ok (.return_, 1) := by decide +kernel
theorem dX1_size_0 : decode cX1_size 0 = .ok (.aload_n 0, 1) := by decide +kernel
theorem dX1_size_1 : decode cX1_size 1 = .ok (.getfield 12, 3) := by decide +kernel
theorem dX1_size_4 : decode cX1_size 4 = .ok (.invokevirtual 26, 3) := by decide +kernel
theorem dX1_size_7 : decode cX1_size 7 = .ok (.ireturn, 1) := by decide +kernel
theorem dX1_add_0 : decode cX1_add 0 = .ok (.aload_n 0, 1) := by decide +kernel
theorem dX1_add_1 : decode cX1_add 1 = .ok (.getfield 12, 3) := by decide +kernel
theorem dX1_add_4 : decode cX1_add 4 = .ok (.invokevirtual 26, 3) := by decide +kernel
theorem dX1_add_7 : decode cX1_add 7 = .ok (.istore_n 3, 1) := by decide +kernel
theorem dX1_add_8 : decode cX1_add 8 = .ok (.iload_n 3, 1) := by decide +kernel
theorem dX1_add_9 : decode cX1_add 9 = .ok (.sipush 200, 3) := by decide +kernel
theorem dX1_add_12 : decode cX1_add 12 = .ok (.if_icmp .lt 5, 3) := by decide +kernel
theorem dX1_add_15 : decode cX1_add 15 = .ok (.iconst (-1), 1) := by decide +kernel
theorem dX1_add_16 : decode cX1_add 16 = .ok (.ireturn, 1) := by decide +kernel
theorem dX1_add_17 : decode cX1_add 17 = .ok (.aload_n 0, 1) := by decide +kernel
theorem dX1_add_18 : decode cX1_add 18 = .ok (.getfield 18, 3) := by decide +kernel
theorem dX1_add_21 : decode cX1_add 21 = .ok (.iload_n 3, 1) := by decide +kernel
theorem dX1_add_22 : decode cX1_add 22 = .ok (.aload_n 2, 1) := by decide +kernel
theorem dX1_add_23 : decode cX1_add 23 = .ok (.iload_n 1, 1) := by decide +kernel
theorem dX1_add_24 : decode cX1_add 24 = .ok (.aload_n 0, 1) := by decide +kernel
theorem dX1_add_25 : decode cX1_add 25 = .ok (.getfield 22, 3) := by decide +kernel
theorem dX1_add_28 : decode cX1_add 28 = .ok (.invokevirtual 30, 3) := by decide +kernel
theorem dX1_add_31 : decode cX1_add 31 = .ok (.iastore, 1) := by decide +kernel
theorem dX1_add_32 : decode cX1_add 32 = .ok (.aload_n 0, 1) := by decide +kernel
theorem dX1_add_33 : decode cX1_add 33 = .ok (.aload_n 2, 1) := by decide +kernel
theorem dX1_add_34 : decode cX1_add 34 = .ok (.aload_n 0, 1) := by decide +kernel
theorem dX1_add_35 : decode cX1_add 35 = .ok (.getfield 18, 3) := by decide +kernel
theorem dX1_add_38 : decode cX1_add 38 = .ok (.iload_n 3, 1) := by decide +kernel
theorem dX1_add_39 : decode cX1_add 39 = .ok (.iaload, 1) := by decide +kernel
theorem dX1_add_40 : decode cX1_add 40 = .ok (.aload_n 0, 1) := by decide +kernel
theorem dX1_add_41 : decode cX1_add 41 = .ok (.getfield 22, 3) := by decide +kernel
theorem dX1_add_44 : decode cX1_add 44 = .ok (.iload_n 1, 1) := by decide +kernel
theorem dX1_add_45 : decode cX1_add 45 = .ok (.invokestatic 36, 3) := by decide +kernel
theorem dX1_add_48 : decode cX1_add 48 = .ok (.invokevirtual 40, 3) := by decide +kernel
theorem dX1_add_51 : decode cX1_add 51 = .ok (.putfield 22, 3) := by decide +kernel
theorem dX1_add_54 : decode cX1_add 54 = .ok (.aload_n 0, 1) := by decide +kernel
theorem dX1_add_55 : decode cX1_add 55 = .ok (.getfield 12, 3) := by decide +kernel
theorem dX1_add_58 : decode cX1_add 58 = .ok (.iload_n 1, 1) := by decide +kernel
theorem dX1_add_59 : decode cX1_add 59 = .ok (.aload_n 2, 1) := by decide +kernel
theorem dX1_add_60 : decode cX1_add 60 = .ok (.aload_n 0, 1) := by decide +kernel
theorem dX1_add_61 : decode cX1_add 61 = .ok (.getfield 18, 3) := by decide +kernel
theorem dX1_add_64 : decode cX1_add 64 = .ok (.iload_n 3, 1) := by decide +kernel
theorem dX1_add_65 : decode cX1_add 65 = .ok (.iaload, 1) := by decide +kernel
theorem dX1_add_66 : decode cX1_add 66 = .ok (.aload_n 0, 1) := by decide +kernel
theorem dX1_add_67 : decode cX1_add 67 = .ok (.getfield 22, 3) := by decide +kernel
theorem dX1_add_70 : decode cX1_add 70 = .ok (.invokevirtual 44, 3) := by decide +kernel
theorem dX1_add_73 : decode cX1_add 73 = .ok (.invokevirtual 47, 3) := by decide +kernel
theorem dX1_add_76 : decode cX1_add 76 = .ok (.aload_n 0, 1) := by decide +kernel
theorem dX1_add_77 : decode cX1_add 77 = .ok (.getfield 12, 3) := by decide +kernel
theorem dX1_add_80 : decode cX1_add 80 = .ok (.iload_n 3, 1) := by decide +kernel
theorem dX1_add_81 : decode cX1_add 81 = .ok (.invokevirtual 51, 3) := by decide +kernel
theorem dX1_add_84 : decode cX1_add 84 = .ok (.ireturn, 1) := by decide +kernel
theorem dX1_clear_0 : decode cX1_clear 0 = .ok (.aload_n 0, 1) := by decide +kernel
theorem dX1_clear_1 : decode cX1_clear 1 = .ok (.getfield 12, 3) := by decide +kernel
theorem dX1_clear_4 : decode cX1_clear 4 = .ok (.invokevirtual 26, 3) := by decide +kernel
theorem dX1_clear_7 : decode cX1_clear 7 = .ok (.istore_n 1, 1) := by decide +kernel
theorem dX1_clear_8 : decode cX1_clear 8 = .ok (.aload_n 0, 1) := by decide +kernel
theorem dX1_clear_9 : decode cX1_clear 9 = .ok (.getfield 12, 3) := by decide +kernel
theorem dX1_clear_12 : decode cX1_clear 12 = .ok (.iconst 0, 1) := by decide +kernel
theorem dX1_clear_13 : decode cX1_clear 13 = .ok (.invokevirtual 54, 3) := by decide +kernel
theorem dX1_clear_16 : decode cX1_clear 16 = .ok (.aload_n 0, 1) := by decide +kernel
theorem dX1_clear_17 : decode cX1_clear 17 = .ok (.iconst 0, 1) := by decide +kernel
theorem dX1_clear_18 : decode cX1_clear 18 = .ok (.putfield 22, 3) := by decide +kernel
theorem dX1_clear_21 : decode cX1_clear 21 = .ok (.iload_n 1, 1) := by decide +kernel
theorem dX1_clear_22 : decode cX1_clear 22 = .ok (.ireturn, 1) := by decide +kernel
theorem dX1_tell_0 : decode cX1_tell 0 = .ok (.iload_n 1, 1) := by decide +kernel
theorem dX1_tell_1 : decode cX1_tell 1 = .ok (.aload_n 0, 1) := by decide +kernel
theorem dX1_tell_2 : decode cX1_tell 2 = .ok (.getfield 12, 3) := by decide +kernel
theorem dX1_tell_5 : decode cX1_tell 5 = .ok (.invokevirtual 26, 3) := by decide +kernel
theorem dX1_tell_8 : decode cX1_tell 8 = .ok (.invokestatic 58, 3) := by decide +kernel
theorem dX1_tell_11 : decode cX1_tell 11 = .ok (.ifCond .ne 5, 3) := by decide +kernel
theorem dX1_tell_14 : decode cX1_tell 14 = .ok (.iconst (-1), 1) := by decide +kernel
theorem dX1_tell_15 : decode cX1_tell 15 = .ok (.ireturn, 1) := by decide +kernel
theorem dX1_tell_16 : decode cX1_tell 16 = .ok (.iload_n 2, 1) := by decide +kernel
theorem dX1_tell_17 : decode cX1_tell 17 = .ok (.tableswitch 71 0 3 #[31, 43, 55, 64], 31) := by decide +kernel
theorem dX1_tell_48 : decode cX1_tell 48 = .ok (.aload_n 0, 1) := by decide +kernel
theorem dX1_tell_49 : decode cX1_tell 49 = .ok (.getfield 12, 3) := by decide +kernel
theorem dX1_tell_52 : decode cX1_tell 52 = .ok (.iload_n 1, 1) := by decide +kernel
theorem dX1_tell_53 : decode cX1_tell 53 = .ok (.invokevirtual 62, 3) := by decide +kernel
theorem dX1_tell_56 : decode cX1_tell 56 = .ok (.invokestatic 65, 3) := by decide +kernel
theorem dX1_tell_59 : decode cX1_tell 59 = .ok (.ireturn, 1) := by decide +kernel
theorem dX1_tell_60 : decode cX1_tell 60 = .ok (.aload_n 0, 1) := by decide +kernel
theorem dX1_tell_61 : decode cX1_tell 61 = .ok (.getfield 12, 3) := by decide +kernel
theorem dX1_tell_64 : decode cX1_tell 64 = .ok (.iload_n 1, 1) := by decide +kernel
theorem dX1_tell_65 : decode cX1_tell 65 = .ok (.invokevirtual 62, 3) := by decide +kernel
theorem dX1_tell_68 : decode cX1_tell 68 = .ok (.invokestatic 36, 3) := by decide +kernel
theorem dX1_tell_71 : decode cX1_tell 71 = .ok (.ireturn, 1) := by decide +kernel
theorem dX1_tell_72 : decode cX1_tell 72 = .ok (.aload_n 0, 1) := by decide +kernel
theorem dX1_tell_73 : decode cX1_tell 73 = .ok (.getfield 12, 3) := by decide +kernel
theorem dX1_tell_76 : decode cX1_tell 76 = .ok (.iload_n 1, 1) := by decide +kernel
theorem dX1_tell_77 : decode cX1_tell 77 = .ok (.invokevirtual 51, 3) := by decide +kernel
theorem dX1_tell_80 : decode cX1_tell 80 = .ok (.ireturn, 1) := by decide +kernel
theorem dX1_tell_81 : decode cX1_tell 81 = .ok (.aload_n 0, 1) := by decide +kernel
theorem dX1_tell_82 : decode cX1_tell 82 = .ok (.getfield 18, 3) := by decide +kernel
theorem dX1_tell_85 : decode cX1_tell 85 = .ok (.iload_n 1, 1) := by decide +kernel
theorem dX1_tell_86 : decode cX1_tell 86 = .ok (.iaload, 1) := by decide +kernel
theorem dX1_tell_87 : decode cX1_tell 87 = .ok (.ireturn, 1) := by decide +kernel
theorem dX1_tell_88 : decode cX1_tell 88 = .ok (.iconst (-1), 1) := by decide +kernel
theorem dX1_tell_89 : decode cX1_tell 89 = .ok (.ireturn, 1) := by decide +kernel
theorem dX2_init_0 : decode cX2_init 0 = .ok (.aload_n 0, 1) := by decide +kernel
theorem dX2_init_1 : decode cX2_init 1 = .ok (.invokespecial 3, 3) := by decide +kernel
theorem dX2_init_4 : decode cX2_init 4 = .ok (.aload_n 0, 1) := by decide +kernel
theorem dX2_init_5 : decode cX2_init 5 = .ok (.bipush 24, 2) := by decide +kernel
theorem dX2_init_7 : decode cX2_init 7 = .ok (.anewarray 9, 3) := by decide +kernel
theorem dX2_init_10 : decode cX2_init 10 = .ok (.putfield 11, 3) := by decide +kernel
theorem dX2_init_13 : decode cX2_init 13 = .ok (.aload_n 0, 1) := by decide +kernel
theorem dX2_init_14 : decode cX2_init 14 = .ok (.bipush 6, 2) := by decide +kernel
theorem dX2_init_16 : decode cX2_init 16 = .ok (.newarray .int, 2) := by decide +kernel
theorem dX2_init_18 : decode cX2_init 18 = .ok (.putfield 17, 3) := by decide +kernel
theorem dX2_init_21 : decode cX2_init 21 = .ok (.return_, 1) := by decide +kernel
theorem dX2_hasRoom_0 : decode cX2_hasRoom 0 = .ok (.iload_n 1, 1) := by decide +kernel
theorem dX2_hasRoom_1 : decode cX2_hasRoom 1 = .ok (.bipush 6, 2) := by decide +kernel
theorem dX2_hasRoom_3 : decode cX2_hasRoom 3 = .ok (.invokestatic 21, 3) := by decide +kernel
theorem dX2_hasRoom_6 : decode cX2_hasRoom 6 = .ok (.ifCond .eq 17, 3) := by decide +kernel
theorem dX2_hasRoom_9 : decode cX2_hasRoom 9 = .ok (.aload_n 0, 1) := by decide +kernel
theorem dX2_hasRoom_10 : decode cX2_hasRoom 10 = .ok (.getfield 17, 3) := by decide +kernel
theorem dX2_hasRoom_13 : decode cX2_hasRoom 13 = .ok (.iload_n 1, 1) := by decide +kernel
theorem dX2_hasRoom_14 : decode cX2_hasRoom 14 = .ok (.iaload, 1) := by decide +kernel
theorem dX2_hasRoom_15 : decode cX2_hasRoom 15 = .ok (.iconst 4, 1) := by decide +kernel
theorem dX2_hasRoom_16 : decode cX2_hasRoom 16 = .ok (.if_icmp .ge 7, 3) := by decide +kernel
theorem dX2_hasRoom_19 : decode cX2_hasRoom 19 = .ok (.iconst 1, 1) := by decide +kernel
theorem dX2_hasRoom_20 : decode cX2_hasRoom 20 = .ok (.goto 4, 3) := by decide +kernel
theorem dX2_hasRoom_23 : decode cX2_hasRoom 23 = .ok (.iconst 0, 1) := by decide +kernel
theorem dX2_hasRoom_24 : decode cX2_hasRoom 24 = .ok (.ireturn, 1) := by decide +kernel
theorem dX2_has_0 : decode cX2_has 0 = .ok (.iload_n 1, 1) := by decide +kernel
theorem dX2_has_1 : decode cX2_has 1 = .ok (.bipush 24, 2) := by decide +kernel
theorem dX2_has_3 : decode cX2_has 3 = .ok (.invokestatic 21, 3) := by decide +kernel
theorem dX2_has_6 : decode cX2_has 6 = .ok (.ifCond .eq 16, 3) := by decide +kernel
theorem dX2_has_9 : decode cX2_has 9 = .ok (.aload_n 0, 1) := by decide +kernel
theorem dX2_has_10 : decode cX2_has 10 = .ok (.getfield 11, 3) := by decide +kernel
theorem dX2_has_13 : decode cX2_has 13 = .ok (.iload_n 1, 1) := by decide +kernel
theorem dX2_has_14 : decode cX2_has 14 = .ok (.aaload, 1) := by decide +kernel
theorem dX2_has_15 : decode cX2_has 15 = .ok (.ifnull 7, 3) := by decide +kernel
theorem dX2_has_18 : decode cX2_has 18 = .ok (.iconst 1, 1) := by decide +kernel
theorem dX2_has_19 : decode cX2_has 19 = .ok (.goto 4, 3) := by decide +kernel
theorem dX2_has_22 : decode cX2_has 22 = .ok (.iconst 0, 1) := by decide +kernel
theorem dX2_has_23 : decode cX2_has 23 = .ok (.ireturn, 1) := by decide +kernel
theorem dX2_add_0 : decode cX2_add 0 = .ok (.aload_n 0, 1) := by decide +kernel
theorem dX2_add_1 : decode cX2_add 1 = .ok (.iload_n 1, 1) := by decide +kernel
theorem dX2_add_2 : decode cX2_add 2 = .ok (.invokevirtual 25, 3) := by decide +kernel
theorem dX2_add_5 : decode cX2_add 5 = .ok (.ifCond .ne 5, 3) := by decide +kernel
theorem dX2_add_8 : decode cX2_add 8 = .ok (.iconst (-1), 1) := by decide +kernel
theorem dX2_add_9 : decode cX2_add 9 = .ok (.ireturn, 1) := by decide +kernel
theorem dX2_add_10 : decode cX2_add 10 = .ok (.aload_n 0, 1) := by decide +kernel
theorem dX2_add_11 : decode cX2_add 11 = .ok (.iload_n 1, 1) := by decide +kernel
theorem dX2_add_12 : decode cX2_add 12 = .ok (.iconst 4, 1) := by decide +kernel
theorem dX2_add_13 : decode cX2_add 13 = .ok (.imul, 1) := by decide +kernel
theorem dX2_add_14 : decode cX2_add 14 = .ok (.aload_n 0, 1) := by decide +kernel
theorem dX2_add_15 : decode cX2_add 15 = .ok (.getfield 17, 3) := by decide +kernel
theorem dX2_add_18 : decode cX2_add 18 = .ok (.iload_n 1, 1) := by decide +kernel
theorem dX2_add_19 : decode cX2_add 19 = .ok (.iaload, 1) := by decide +kernel
theorem dX2_add_20 : decode cX2_add 20 = .ok (.iadd, 1) := by decide +kernel
theorem dX2_add_21 : decode cX2_add 21 = .ok (.aload_n 2, 1) := by decide +kernel
theorem dX2_add_22 : decode cX2_add 22 = .ok (.invokevirtual 29, 3) := by decide +kernel
theorem dX2_add_25 : decode cX2_add 25 = .ok (.aload_n 0, 1) := by decide +kernel
theorem dX2_add_26 : decode cX2_add 26 = .ok (.getfield 17, 3) := by decide +kernel
theorem dX2_add_29 : decode cX2_add 29 = .ok (.iload_n 1, 1) := by decide +kernel
theorem dX2_add_30 : decode cX2_add 30 = .ok (.dup2, 1) := by decide +kernel
theorem dX2_add_31 : decode cX2_add 31 = .ok (.iaload, 1) := by decide +kernel
theorem dX2_add_32 : decode cX2_add 32 = .ok (.iconst 1, 1) := by decide +kernel
theorem dX2_add_33 : decode cX2_add 33 = .ok (.iadd, 1) := by decide +kernel
theorem dX2_add_34 : decode cX2_add 34 = .ok (.iastore, 1) := by decide +kernel
theorem dX2_add_35 : decode cX2_add 35 = .ok (.aload_n 0, 1) := by decide +kernel
theorem dX2_add_36 : decode cX2_add 36 = .ok (.getfield 17, 3) := by decide +kernel
theorem dX2_add_39 : decode cX2_add 39 = .ok (.iload_n 1, 1) := by decide +kernel
theorem dX2_add_40 : decode cX2_add 40 = .ok (.iaload, 1) := by decide +kernel
theorem dX2_add_41 : decode cX2_add 41 = .ok (.ireturn, 1) := by decide +kernel
theorem dX2_put_0 : decode cX2_put 0 = .ok (.iload_n 1, 1) := by decide +kernel
theorem dX2_put_1 : decode cX2_put 1 = .ok (.bipush 24, 2) := by decide +kernel
theorem dX2_put_3 : decode cX2_put 3 = .ok (.invokestatic 21, 3) := by decide +kernel
theorem dX2_put_6 : decode cX2_put 6 = .ok (.ifCond .eq 10, 3) := by decide +kernel
theorem dX2_put_9 : decode cX2_put 9 = .ok (.aload_n 0, 1) := by decide +kernel
theorem dX2_put_10 : decode cX2_put 10 = .ok (.getfield 11, 3) := by decide +kernel
theorem dX2_put_13 : decode cX2_put 13 = .ok (.iload_n 1, 1) := by decide +kernel
theorem dX2_put_14 : decode cX2_put 14 = .ok (.aload_n 2, 1) := by decide +kernel
theorem dX2_put_15 : decode cX2_put 15 = .ok (.aastore, 1) := by decide +kernel
theorem dX2_put_16 : decode cX2_put 16 = .ok (.return_, 1) := by decide +kernel
theorem dX2_allBits_0 : decode cX2_allBits 0 = .ok (.iconst 0, 1) := by decide +kernel
theorem dX2_allBits_1 : decode cX2_allBits 1 = .ok (.istore_n 1, 1) := by decide +kernel
theorem dX2_allBits_2 : decode cX2_allBits 2 = .ok (.iconst 0, 1) := by decide +kernel
theorem dX2_allBits_3 : decode cX2_allBits 3 = .ok (.istore_n 2, 1) := by decide +kernel
theorem dX2_allBits_4 : decode cX2_allBits 4 = .ok (.iload_n 2, 1) := by decide +kernel
theorem dX2_allBits_5 : decode cX2_allBits 5 = .ok (.bipush 24, 2) := by decide +kernel
theorem dX2_allBits_7 : decode cX2_allBits 7 = .ok (.if_icmp .ge 24, 3) := by decide +kernel
theorem dX2_allBits_10 : decode cX2_allBits 10 = .ok (.aload_n 0, 1) := by decide +kernel
theorem dX2_allBits_11 : decode cX2_allBits 11 = .ok (.getfield 11, 3) := by decide +kernel
theorem dX2_allBits_14 : decode cX2_allBits 14 = .ok (.iload_n 2, 1) := by decide +kernel
theorem dX2_allBits_15 : decode cX2_allBits 15 = .ok (.aaload, 1) := by decide +kernel
theorem dX2_allBits_16 : decode cX2_allBits 16 = .ok (.ifnull 9, 3) := by decide +kernel
theorem dX2_allBits_19 : decode cX2_allBits 19 = .ok (.iload_n 1, 1) := by decide +kernel
theorem dX2_allBits_20 : decode cX2_allBits 20 = .ok (.iconst 1, 1) := by decide +kernel
theorem dX2_allBits_21 : decode cX2_allBits 21 = .ok (.iload_n 2, 1) := by decide +kernel
theorem dX2_allBits_22 : decode cX2_allBits 22 = .ok (.ishl, 1) := by decide +kernel
theorem dX2_allBits_23 : decode cX2_allBits 23 = .ok (.ior, 1) := by decide +kernel
theorem dX2_allBits_24 : decode cX2_allBits 24 = .ok (.istore_n 1, 1) := by decide +kernel
theorem dX2_allBits_25 : decode cX2_allBits 25 = .ok (.iinc 2 1, 3) := by decide +kernel
theorem dX2_allBits_28 : decode cX2_allBits 28 = .ok (.goto (-24), 3) := by decide +kernel
theorem dX2_allBits_31 : decode cX2_allBits 31 = .ok (.iload_n 1, 1) := by decide +kernel
theorem dX2_allBits_32 : decode cX2_allBits 32 = .ok (.ireturn, 1) := by decide +kernel
theorem dX2_takenBy_0 : decode cX2_takenBy 0 = .ok (.iload_n 1, 1) := by decide +kernel
theorem dX2_takenBy_1 : decode cX2_takenBy 1 = .ok (.invokestatic 33, 3) := by decide +kernel
theorem dX2_takenBy_4 : decode cX2_takenBy 4 = .ok (.istore_n 3, 1) := by decide +kernel
theorem dX2_takenBy_5 : decode cX2_takenBy 5 = .ok (.iload_n 3, 1) := by decide +kernel
theorem dX2_takenBy_6 : decode cX2_takenBy 6 = .ok (.bipush 6, 2) := by decide +kernel
theorem dX2_takenBy_8 : decode cX2_takenBy 8 = .ok (.invokestatic 21, 3) := by decide +kernel
theorem dX2_takenBy_11 : decode cX2_takenBy 11 = .ok (.ifCond .ne 5, 3) := by decide +kernel
theorem dX2_takenBy_14 : decode cX2_takenBy 14 = .ok (.iconst (-1), 1) := by decide +kernel
theorem dX2_takenBy_15 : decode cX2_takenBy 15 = .ok (.ireturn, 1) := by decide +kernel
theorem dX2_takenBy_16 : decode cX2_takenBy 16 = .ok (.iload_n 3, 1) := by decide +kernel
theorem dX2_takenBy_17 : decode cX2_takenBy 17 = .ok (.iconst 4, 1) := by decide +kernel
theorem dX2_takenBy_18 : decode cX2_takenBy 18 = .ok (.imul, 1) := by decide +kernel
theorem dX2_takenBy_19 : decode cX2_takenBy 19 = .ok (.istore 4, 2) := by decide +kernel
theorem dX2_takenBy_21 : decode cX2_takenBy 21 = .ok (.iload 4, 2) := by decide +kernel
theorem dX2_takenBy_23 : decode cX2_takenBy 23 = .ok (.istore 5, 2) := by decide +kernel
theorem dX2_takenBy_25 : decode cX2_takenBy 25 = .ok (.iload 5, 2) := by decide +kernel
theorem dX2_takenBy_27 : decode cX2_takenBy 27 = .ok (.iload 4, 2) := by decide +kernel
theorem dX2_takenBy_29 : decode cX2_takenBy 29 = .ok (.aload_n 0, 1) := by decide +kernel
theorem dX2_takenBy_30 : decode cX2_takenBy 30 = .ok (.getfield 17, 3) := by decide +kernel
theorem dX2_takenBy_33 : decode cX2_takenBy 33 = .ok (.iload_n 3, 1) := by decide +kernel
theorem dX2_takenBy_34 : decode cX2_takenBy 34 = .ok (.iaload, 1) := by decide +kernel
theorem dX2_takenBy_35 : decode cX2_takenBy 35 = .ok (.iadd, 1) := by decide +kernel
theorem dX2_takenBy_36 : decode cX2_takenBy 36 = .ok (.if_icmp .ge 35, 3) := by decide +kernel
theorem dX2_takenBy_39 : decode cX2_takenBy 39 = .ok (.aload_n 0, 1) := by decide +kernel
theorem dX2_takenBy_40 : decode cX2_takenBy 40 = .ok (.iload 5, 2) := by decide +kernel
theorem dX2_takenBy_42 : decode cX2_takenBy 42 = .ok (.invokevirtual 37, 3) := by decide +kernel
theorem dX2_takenBy_45 : decode cX2_takenBy 45 = .ok (.ifCond .eq 20, 3) := by decide +kernel
theorem dX2_takenBy_48 : decode cX2_takenBy 48 = .ok (.aload_n 0, 1) := by decide +kernel
theorem dX2_takenBy_49 : decode cX2_takenBy 49 = .ok (.getfield 11, 3) := by decide +kernel
theorem dX2_takenBy_52 : decode cX2_takenBy 52 = .ok (.iload 5, 2) := by decide +kernel
theorem dX2_takenBy_54 : decode cX2_takenBy 54 = .ok (.aaload, 1) := by decide +kernel
theorem dX2_takenBy_55 : decode cX2_takenBy 55 = .ok (.iload_n 2, 1) := by decide +kernel
theorem dX2_takenBy_56 : decode cX2_takenBy 56 = .ok (.invokevirtual 40, 3) := by decide +kernel
theorem dX2_takenBy_59 : decode cX2_takenBy 59 = .ok (.ifCond .eq 6, 3) := by decide +kernel
theorem dX2_takenBy_62 : decode cX2_takenBy 62 = .ok (.iload 5, 2) := by decide +kernel
theorem dX2_takenBy_64 : decode cX2_takenBy 64 = .ok (.ireturn, 1) := by decide +kernel
theorem dX2_takenBy_65 : decode cX2_takenBy 65 = .ok (.iinc 5 1, 3) := by decide +kernel
theorem dX2_takenBy_68 : decode cX2_takenBy 68 = .ok (.goto (-43), 3) := by decide +kernel
theorem dX2_takenBy_71 : decode cX2_takenBy 71 = .ok (.iconst (-1), 1) := by decide +kernel
theorem dX2_takenBy_72 : decode cX2_takenBy 72 = .ok (.ireturn, 1) := by decide +kernel
theorem dX2_stateBehind_0 : decode cX2_stateBehind 0 = .ok (.aload_n 0, 1) := by decide +kernel
theorem dX2_stateBehind_1 : decode cX2_stateBehind 1 = .ok (.iload_n 1, 1) := by decide +kernel
theorem dX2_stateBehind_2 : decode cX2_stateBehind 2 = .ok (.invokevirtual 37, 3) := by decide +kernel
theorem dX2_stateBehind_5 : decode cX2_stateBehind 5 = .ok (.ifCond .eq 17, 3) := by decide +kernel
theorem dX2_stateBehind_8 : decode cX2_stateBehind 8 = .ok (.aload_n 0, 1) := by decide +kernel
theorem dX2_stateBehind_9 : decode cX2_stateBehind 9 = .ok (.getfield 11, 3) := by decide +kernel
theorem dX2_stateBehind_12 : decode cX2_stateBehind 12 = .ok (.iload_n 1, 1) := by decide +kernel
theorem dX2_stateBehind_13 : decode cX2_stateBehind 13 = .ok (.aaload, 1) := by decide +kernel
theorem dX2_stateBehind_14 : decode cX2_stateBehind 14 = .ok (.iload_n 2, 1) := by decide +kernel
theorem dX2_stateBehind_15 : decode cX2_stateBehind 15 = .ok (.iload_n 3, 1) := by decide +kernel
theorem dX2_stateBehind_16 : decode cX2_stateBehind 16 = .ok (.invokevirtual 43, 3) := by decide +kernel
theorem dX2_stateBehind_19 : decode cX2_stateBehind 19 = .ok (.goto 4, 3) := by decide +kernel
theorem dX2_stateBehind_22 : decode cX2_stateBehind 22 = .ok (.iload_n 2, 1) := by decide +kernel
theorem dX2_stateBehind_23 : decode cX2_stateBehind 23 = .ok (.ireturn, 1) := by decide +kernel
theorem dX2_resultOf_0 : decode cX2_resultOf 0 = .ok (.aload_n 0, 1) := by decide +kernel
theorem dX2_resultOf_1 : decode cX2_resultOf 1 = .ok (.iload_n 1, 1) := by decide +kernel
theorem dX2_resultOf_2 : decode cX2_resultOf 2 = .ok (.invokevirtual 37, 3) := by decide +kernel
theorem dX2_resultOf_5 : decode cX2_resultOf 5 = .ok (.ifCond .eq 16, 3) := by decide +kernel
theorem dX2_resultOf_8 : decode cX2_resultOf 8 = .ok (.aload_n 0, 1) := by decide +kernel
theorem dX2_resultOf_9 : decode cX2_resultOf 9 = .ok (.getfield 11, 3) := by decide +kernel
theorem dX2_resultOf_12 : decode cX2_resultOf 12 = .ok (.iload_n 1, 1) := by decide +kernel
theorem dX2_resultOf_13 : decode cX2_resultOf 13 = .ok (.aaload, 1) := by decide +kernel
theorem dX2_resultOf_14 : decode cX2_resultOf 14 = .ok (.iload_n 2, 1) := by decide +kernel
theorem dX2_resultOf_15 : decode cX2_resultOf 15 = .ok (.invokevirtual 47, 3) := by decide +kernel
theorem dX2_resultOf_18 : decode cX2_resultOf 18 = .ok (.goto 4, 3) := by decide +kernel
theorem dX2_resultOf_21 : decode cX2_resultOf 21 = .ok (.iconst (-1), 1) := by decide +kernel
theorem dX2_resultOf_22 : decode cX2_resultOf 22 = .ok (.ireturn, 1) := by decide +kernel
theorem dX3_init_0 : decode cX3_init 0 = .ok (.aload_n 0, 1) := by decide +kernel
theorem dX3_init_1 : decode cX3_init 1 = .ok (.invokespecial 1, 3) := by decide +kernel
theorem dX3_init_4 : decode cX3_init 4 = .ok (.aload_n 0, 1) := by decide +kernel
theorem dX3_init_5 : decode cX3_init 5 = .ok (.new 7, 3) := by decide +kernel
theorem dX3_init_8 : decode cX3_init 8 = .ok (.dup, 1) := by decide +kernel
theorem dX3_init_9 : decode cX3_init 9 = .ok (.invokespecial 9, 3) := by decide +kernel
theorem dX3_init_12 : decode cX3_init 12 = .ok (.putfield 10, 3) := by decide +kernel
theorem dX3_init_15 : decode cX3_init 15 = .ok (.aload_n 0, 1) := by decide +kernel
theorem dX3_init_16 : decode cX3_init 16 = .ok (.iconst 0, 1) := by decide +kernel
theorem dX3_init_17 : decode cX3_init 17 = .ok (.putfield 16, 3) := by decide +kernel
theorem dX3_init_20 : decode cX3_init 20 = .ok (.aload_n 0, 1) := by decide +kernel
theorem dX3_init_21 : decode cX3_init 21 = .ok (.iconst 0, 1) := by decide +kernel
theorem dX3_init_22 : decode cX3_init 22 = .ok (.putfield 20, 3) := by decide +kernel
theorem dX3_init_25 : decode cX3_init 25 = .ok (.aload_n 0, 1) := by decide +kernel
theorem dX3_init_26 : decode cX3_init 26 = .ok (.iconst 0, 1) := by decide +kernel
theorem dX3_init_27 : decode cX3_init 27 = .ok (.putfield 24, 3) := by decide +kernel
theorem dX3_init_30 : decode cX3_init 30 = .ok (.return_, 1) := by decide +kernel
theorem dX3_settle_0 : decode cX3_settle 0 = .ok (.aload_n 0, 1) := by decide +kernel
theorem dX3_settle_1 : decode cX3_settle 1 = .ok (.getfield 10, 3) := by decide +kernel
theorem dX3_settle_4 : decode cX3_settle 4 = .ok (.aload_n 1, 1) := by decide +kernel
theorem dX3_settle_5 : decode cX3_settle 5 = .ok (.invokevirtual 27, 3) := by decide +kernel
theorem dX3_settle_8 : decode cX3_settle 8 = .ok (.aload_n 0, 1) := by decide +kernel
theorem dX3_settle_9 : decode cX3_settle 9 = .ok (.aload_n 1, 1) := by decide +kernel
theorem dX3_settle_10 : decode cX3_settle 10 = .ok (.invokevirtual 31, 3) := by decide +kernel
theorem dX3_settle_13 : decode cX3_settle 13 = .ok (.putfield 16, 3) := by decide +kernel
theorem dX3_settle_16 : decode cX3_settle 16 = .ok (.aload_n 0, 1) := by decide +kernel
theorem dX3_settle_17 : decode cX3_settle 17 = .ok (.iconst 0, 1) := by decide +kernel
theorem dX3_settle_18 : decode cX3_settle 18 = .ok (.putfield 20, 3) := by decide +kernel
theorem dX3_settle_21 : decode cX3_settle 21 = .ok (.aload_n 0, 1) := by decide +kernel
theorem dX3_settle_22 : decode cX3_settle 22 = .ok (.iconst 0, 1) := by decide +kernel
theorem dX3_settle_23 : decode cX3_settle 23 = .ok (.putfield 24, 3) := by decide +kernel
theorem dX3_settle_26 : decode cX3_settle 26 = .ok (.return_, 1) := by decide +kernel
theorem dX4_init_0 : decode cX4_init 0 = .ok (.aload_n 0, 1) := by decide +kernel
theorem dX4_init_1 : decode cX4_init 1 = .ok (.invokespecial 3, 3) := by decide +kernel
theorem dX4_init_4 : decode cX4_init 4 = .ok (.aload_n 0, 1) := by decide +kernel
theorem dX4_init_5 : decode cX4_init 5 = .ok (.sipush 200, 3) := by decide +kernel
theorem dX4_init_8 : decode cX4_init 8 = .ok (.newarray .int, 2) := by decide +kernel
theorem dX4_init_10 : decode cX4_init 10 = .ok (.putfield 9, 3) := by decide +kernel
theorem dX4_init_13 : decode cX4_init 13 = .ok (.aload_n 0, 1) := by decide +kernel
theorem dX4_init_14 : decode cX4_init 14 = .ok (.iconst 0, 1) := by decide +kernel
theorem dX4_init_15 : decode cX4_init 15 = .ok (.putfield 15, 3) := by decide +kernel
theorem dX4_init_18 : decode cX4_init 18 = .ok (.aload_n 0, 1) := by decide +kernel
theorem dX4_init_19 : decode cX4_init 19 = .ok (.iconst 0, 1) := by decide +kernel
theorem dX4_init_20 : decode cX4_init 20 = .ok (.putfield 19, 3) := by decide +kernel
theorem dX4_init_23 : decode cX4_init 23 = .ok (.aload_n 0, 1) := by decide +kernel
theorem dX4_init_24 : decode cX4_init 24 = .ok (.iconst (-1), 1) := by decide +kernel
theorem dX4_init_25 : decode cX4_init 25 = .ok (.putfield 22, 3) := by decide +kernel
theorem dX4_init_28 : decode cX4_init 28 = .ok (.aload_n 0, 1) := by decide +kernel
theorem dX4_init_29 : decode cX4_init 29 = .ok (.aload_n 1, 1) := by decide +kernel
theorem dX4_init_30 : decode cX4_init 30 = .ok (.putfield 25, 3) := by decide +kernel
theorem dX4_init_33 : decode cX4_init 33 = .ok (.return_, 1) := by decide +kernel
theorem dX4_play_0 : decode cX4_play 0 = .ok (.iconst 0, 1) := by decide +kernel
theorem dX4_play_1 : decode cX4_play 1 = .ok (.istore_n 2, 1) := by decide +kernel
theorem dX4_play_2 : decode cX4_play 2 = .ok (.aload_n 0, 1) := by decide +kernel
theorem dX4_play_3 : decode cX4_play 3 = .ok (.aload_n 1, 1) := by decide +kernel
theorem dX4_play_4 : decode cX4_play 4 = .ok (.invokevirtual 29, 3) := by decide +kernel
theorem dX4_play_7 : decode cX4_play 7 = .ok (.putfield 15, 3) := by decide +kernel
theorem dX4_play_10 : decode cX4_play 10 = .ok (.aload_n 0, 1) := by decide +kernel
theorem dX4_play_11 : decode cX4_play 11 = .ok (.iconst 0, 1) := by decide +kernel
theorem dX4_play_12 : decode cX4_play 12 = .ok (.putfield 19, 3) := by decide +kernel
theorem dX4_play_15 : decode cX4_play 15 = .ok (.aload_n 0, 1) := by decide +kernel
theorem dX4_play_16 : decode cX4_play 16 = .ok (.iconst (-1), 1) := by decide +kernel
theorem dX4_play_17 : decode cX4_play 17 = .ok (.putfield 22, 3) := by decide +kernel
theorem dX4_play_20 : decode cX4_play 20 = .ok (.iconst 0, 1) := by decide +kernel
theorem dX4_play_21 : decode cX4_play 21 = .ok (.istore_n 3, 1) := by decide +kernel
theorem dX4_play_22 : decode cX4_play 22 = .ok (.iload_n 3, 1) := by decide +kernel
theorem dX4_play_23 : decode cX4_play 23 = .ok (.aload_n 0, 1) := by decide +kernel
theorem dX4_play_24 : decode cX4_play 24 = .ok (.getfield 15, 3) := by decide +kernel
theorem dX4_play_27 : decode cX4_play 27 = .ok (.if_icmp .ge 100, 3) := by decide +kernel
theorem dX4_play_30 : decode cX4_play 30 = .ok (.iload_n 3, 1) := by decide +kernel
theorem dX4_play_31 : decode cX4_play 31 = .ok (.sipush 200, 3) := by decide +kernel
theorem dX4_play_34 : decode cX4_play 34 = .ok (.if_icmp .ge 93, 3) := by decide +kernel
theorem dX4_play_37 : decode cX4_play 37 = .ok (.aload_n 1, 1) := by decide +kernel
theorem dX4_play_38 : decode cX4_play 38 = .ok (.iload_n 3, 1) := by decide +kernel
theorem dX4_play_39 : decode cX4_play 39 = .ok (.invokevirtual 34, 3) := by decide +kernel
theorem dX4_play_42 : decode cX4_play 42 = .ok (.istore 4, 2) := by decide +kernel
theorem dX4_play_44 : decode cX4_play 44 = .ok (.aload_n 0, 1) := by decide +kernel
theorem dX4_play_45 : decode cX4_play 45 = .ok (.aload_n 0, 1) := by decide +kernel
theorem dX4_play_46 : decode cX4_play 46 = .ok (.getfield 25, 3) := by decide +kernel
theorem dX4_play_49 : decode cX4_play 49 = .ok (.iload 4, 2) := by decide +kernel
theorem dX4_play_51 : decode cX4_play 51 = .ok (.iload_n 2, 1) := by decide +kernel
theorem dX4_play_52 : decode cX4_play 52 = .ok (.invokevirtual 38, 3) := by decide +kernel
theorem dX4_play_55 : decode cX4_play 55 = .ok (.putfield 22, 3) := by decide +kernel
theorem dX4_play_58 : decode cX4_play 58 = .ok (.aload_n 0, 1) := by decide +kernel
theorem dX4_play_59 : decode cX4_play 59 = .ok (.getfield 25, 3) := by decide +kernel
theorem dX4_play_62 : decode cX4_play 62 = .ok (.aload_n 0, 1) := by decide +kernel
theorem dX4_play_63 : decode cX4_play 63 = .ok (.getfield 22, 3) := by decide +kernel
theorem dX4_play_66 : decode cX4_play 66 = .ok (.iload_n 2, 1) := by decide +kernel
theorem dX4_play_67 : decode cX4_play 67 = .ok (.iload 4, 2) := by decide +kernel
theorem dX4_play_69 : decode cX4_play 69 = .ok (.invokestatic 44, 3) := by decide +kernel
theorem dX4_play_72 : decode cX4_play 72 = .ok (.invokevirtual 47, 3) := by decide +kernel
theorem dX4_play_75 : decode cX4_play 75 = .ok (.istore_n 2, 1) := by decide +kernel
theorem dX4_play_76 : decode cX4_play 76 = .ok (.aload_n 0, 1) := by decide +kernel
theorem dX4_play_77 : decode cX4_play 77 = .ok (.getfield 9, 3) := by decide +kernel
theorem dX4_play_80 : decode cX4_play 80 = .ok (.iload_n 3, 1) := by decide +kernel
theorem dX4_play_81 : decode cX4_play 81 = .ok (.aload_n 0, 1) := by decide +kernel
theorem dX4_play_82 : decode cX4_play 82 = .ok (.getfield 25, 3) := by decide +kernel
theorem dX4_play_85 : decode cX4_play 85 = .ok (.aload_n 0, 1) := by decide +kernel
theorem dX4_play_86 : decode cX4_play 86 = .ok (.getfield 22, 3) := by decide +kernel
theorem dX4_play_89 : decode cX4_play 89 = .ok (.iload_n 2, 1) := by decide +kernel
theorem dX4_play_90 : decode cX4_play 90 = .ok (.invokevirtual 51, 3) := by decide +kernel
theorem dX4_play_93 : decode cX4_play 93 = .ok (.iastore, 1) := by decide +kernel
theorem dX4_play_94 : decode cX4_play 94 = .ok (.aload_n 0, 1) := by decide +kernel
theorem dX4_play_95 : decode cX4_play 95 = .ok (.dup, 1) := by decide +kernel
theorem dX4_play_96 : decode cX4_play 96 = .ok (.getfield 19, 3) := by decide +kernel
theorem dX4_play_99 : decode cX4_play 99 = .ok (.aload_n 0, 1) := by decide +kernel
theorem dX4_play_100 : decode cX4_play 100 = .ok (.getfield 22, 3) := by decide +kernel
theorem dX4_play_103 : decode cX4_play 103 = .ok (.iconst (-1), 1) := by decide +kernel
theorem dX4_play_104 : decode cX4_play 104 = .ok (.if_icmp .ne 7, 3) := by decide +kernel
theorem dX4_play_107 : decode cX4_play 107 = .ok (.iconst 0, 1) := by decide +kernel
theorem dX4_play_108 : decode cX4_play 108 = .ok (.goto 9, 3) := by decide +kernel
theorem dX4_play_111 : decode cX4_play 111 = .ok (.iconst 1, 1) := by decide +kernel
theorem dX4_play_112 : decode cX4_play 112 = .ok (.aload_n 0, 1) := by decide +kernel
theorem dX4_play_113 : decode cX4_play 113 = .ok (.getfield 22, 3) := by decide +kernel
theorem dX4_play_116 : decode cX4_play 116 = .ok (.ishl, 1) := by decide +kernel
theorem dX4_play_117 : decode cX4_play 117 = .ok (.ior, 1) := by decide +kernel
theorem dX4_play_118 : decode cX4_play 118 = .ok (.putfield 19, 3) := by decide +kernel
theorem dX4_play_121 : decode cX4_play 121 = .ok (.iinc 3 1, 3) := by decide +kernel
theorem dX4_play_124 : decode cX4_play 124 = .ok (.goto (-102), 3) := by decide +kernel
theorem dX4_play_127 : decode cX4_play 127 = .ok (.return_, 1) := by decide +kernel
theorem dX4_meets_0 : decode cX4_meets 0 = .ok (.aload_n 0, 1) := by decide +kernel
theorem dX4_meets_1 : decode cX4_meets 1 = .ok (.aload_n 1, 1) := by decide +kernel
theorem dX4_meets_2 : decode cX4_meets 2 = .ok (.invokevirtual 54, 3) := by decide +kernel
theorem dX4_meets_5 : decode cX4_meets 5 = .ok (.aload_n 0, 1) := by decide +kernel
theorem dX4_meets_6 : decode cX4_meets 6 = .ok (.getfield 19, 3) := by decide +kernel
theorem dX4_meets_9 : decode cX4_meets 9 = .ok (.ireturn, 1) := by decide +kernel
theorem dX4_met_0 : decode cX4_met 0 = .ok (.aload_n 0, 1) := by decide +kernel
theorem dX4_met_1 : decode cX4_met 1 = .ok (.getfield 19, 3) := by decide +kernel
theorem dX4_met_4 : decode cX4_met 4 = .ok (.ireturn, 1) := by decide +kernel
theorem dX4_lastTaken_0 : decode cX4_lastTaken 0 = .ok (.aload_n 0, 1) := by decide +kernel
theorem dX4_lastTaken_1 : decode cX4_lastTaken 1 = .ok (.getfield 22, 3) := by decide +kernel
theorem dX4_lastTaken_4 : decode cX4_lastTaken 4 = .ok (.ireturn, 1) := by decide +kernel
theorem dX4_lastResult_0 : decode cX4_lastResult 0 = .ok (.aload_n 0, 1) := by decide +kernel
theorem dX4_lastResult_1 : decode cX4_lastResult 1 = .ok (.aload_n 0, 1) := by decide +kernel
theorem dX4_lastResult_2 : decode cX4_lastResult 2 = .ok (.getfield 15, 3) := by decide +kernel
theorem dX4_lastResult_5 : decode cX4_lastResult 5 = .ok (.iconst 1, 1) := by decide +kernel
theorem dX4_lastResult_6 : decode cX4_lastResult 6 = .ok (.isub, 1) := by decide +kernel
theorem dX4_lastResult_7 : decode cX4_lastResult 7 = .ok (.invokevirtual 58, 3) := by decide +kernel
theorem dX4_lastResult_10 : decode cX4_lastResult 10 = .ok (.ireturn, 1) := by decide +kernel
theorem dX4_resultAt_0 : decode cX4_resultAt 0 = .ok (.iload_n 1, 1) := by decide +kernel
theorem dX4_resultAt_1 : decode cX4_resultAt 1 = .ok (.aload_n 0, 1) := by decide +kernel
theorem dX4_resultAt_2 : decode cX4_resultAt 2 = .ok (.getfield 15, 3) := by decide +kernel
theorem dX4_resultAt_5 : decode cX4_resultAt 5 = .ok (.invokestatic 61, 3) := by decide +kernel
theorem dX4_resultAt_8 : decode cX4_resultAt 8 = .ok (.ifCond .eq 19, 3) := by decide +kernel
theorem dX4_resultAt_11 : decode cX4_resultAt 11 = .ok (.iload_n 1, 1) := by decide +kernel
theorem dX4_resultAt_12 : decode cX4_resultAt 12 = .ok (.sipush 200, 3) := by decide +kernel
theorem dX4_resultAt_15 : decode cX4_resultAt 15 = .ok (.if_icmp .ge 12, 3) := by decide +kernel
theorem dX4_resultAt_18 : decode cX4_resultAt 18 = .ok (.aload_n 0, 1) := by decide +kernel
theorem dX4_resultAt_19 : decode cX4_resultAt 19 = .ok (.getfield 9, 3) := by decide +kernel
theorem dX4_resultAt_22 : decode cX4_resultAt 22 = .ok (.iload_n 1, 1) := by decide +kernel
theorem dX4_resultAt_23 : decode cX4_resultAt 23 = .ok (.iaload, 1) := by decide +kernel
theorem dX4_resultAt_24 : decode cX4_resultAt 24 = .ok (.goto 4, 3) := by decide +kernel
theorem dX4_resultAt_27 : decode cX4_resultAt 27 = .ok (.iconst (-1), 1) := by decide +kernel
theorem dX4_resultAt_28 : decode cX4_resultAt 28 = .ok (.ireturn, 1) := by decide +kernel
theorem dX4_firstDifference_0 : decode cX4_firstDifference 0 = .ok (.iconst 0, 1) := by decide +kernel
theorem dX4_firstDifference_1 : decode cX4_firstDifference 1 = .ok (.istore_n 2, 1) := by decide +kernel
theorem dX4_firstDifference_2 : decode cX4_firstDifference 2 = .ok (.iload_n 2, 1) := by decide +kernel
theorem dX4_firstDifference_3 : decode cX4_firstDifference 3 = .ok (.aload_n 0, 1) := by decide +kernel
theorem dX4_firstDifference_4 : decode cX4_firstDifference 4 = .ok (.getfield 15, 3) := by decide +kernel
theorem dX4_firstDifference_7 : decode cX4_firstDifference 7 = .ok (.if_icmp .ge 24, 3) := by decide +kernel
theorem dX4_firstDifference_10 : decode cX4_firstDifference 10 = .ok (.aload_n 0, 1) := by decide +kernel
theorem dX4_firstDifference_11 : decode cX4_firstDifference 11 = .ok (.iload_n 2, 1) := by decide +kernel
theorem dX4_firstDifference_12 : decode cX4_firstDifference 12 = .ok (.invokevirtual 58, 3) := by decide +kernel
end
section
theorem dX4_firstDifference_15 : decode cX4_firstDifference 15 = .ok (.aload_n 1, 1) := by decide +kernel
theorem dX4_firstDifference_16 : decode cX4_firstDifference 16 = .ok (.iload_n 2, 1) := by decide +kernel
theorem dX4_firstDifference_17 : decode cX4_firstDifference 17 = .ok (.invokevirtual 65, 3) := by decide +kernel
theorem dX4_firstDifference_20 : decode cX4_firstDifference 20 = .ok (.if_icmp .eq 5, 3) := by decide +kernel
theorem dX4_firstDifference_23 : decode cX4_firstDifference 23 = .ok (.iload_n 2, 1) := by decide +kernel
theorem dX4_firstDifference_24 : decode cX4_firstDifference 24 = .ok (.ireturn, 1) := by decide +kernel
theorem dX4_firstDifference_25 : decode cX4_firstDifference 25 = .ok (.iinc 2 1, 3) := by decide +kernel
theorem dX4_firstDifference_28 : decode cX4_firstDifference 28 = .ok (.goto (-26), 3) := by decide +kernel
theorem dX4_firstDifference_31 : decode cX4_firstDifference 31 = .ok (.iconst (-1), 1) := by decide +kernel
theorem dX4_firstDifference_32 : decode cX4_firstDifference 32 = .ok (.ireturn, 1) := by decide +kernel
theorem dX4_differences_0 : decode cX4_differences 0 = .ok (.iconst 0, 1) := by decide +kernel
theorem dX4_differences_1 : decode cX4_differences 1 = .ok (.istore_n 2, 1) := by decide +kernel
theorem dX4_differences_2 : decode cX4_differences 2 = .ok (.iconst 0, 1) := by decide +kernel
theorem dX4_differences_3 : decode cX4_differences 3 = .ok (.istore_n 3, 1) := by decide +kernel
theorem dX4_differences_4 : decode cX4_differences 4 = .ok (.iload_n 3, 1) := by decide +kernel
theorem dX4_differences_5 : decode cX4_differences 5 = .ok (.aload_n 0, 1) := by decide +kernel
theorem dX4_differences_6 : decode cX4_differences 6 = .ok (.getfield 15, 3) := by decide +kernel
theorem dX4_differences_9 : decode cX4_differences 9 = .ok (.if_icmp .ge 30, 3) := by decide +kernel
theorem dX4_differences_12 : decode cX4_differences 12 = .ok (.iload_n 2, 1) := by decide +kernel
theorem dX4_differences_13 : decode cX4_differences 13 = .ok (.aload_n 0, 1) := by decide +kernel
theorem dX4_differences_14 : decode cX4_differences 14 = .ok (.iload_n 3, 1) := by decide +kernel
theorem dX4_differences_15 : decode cX4_differences 15 = .ok (.invokevirtual 58, 3) := by decide +kernel
theorem dX4_differences_18 : decode cX4_differences 18 = .ok (.aload_n 1, 1) := by decide +kernel
theorem dX4_differences_19 : decode cX4_differences 19 = .ok (.iload_n 3, 1) := by decide +kernel
theorem dX4_differences_20 : decode cX4_differences 20 = .ok (.invokevirtual 65, 3) := by decide +kernel
theorem dX4_differences_23 : decode cX4_differences 23 = .ok (.if_icmp .ne 7, 3) := by decide +kernel
theorem dX4_differences_26 : decode cX4_differences 26 = .ok (.iconst 0, 1) := by decide +kernel
theorem dX4_differences_27 : decode cX4_differences 27 = .ok (.goto 4, 3) := by decide +kernel
theorem dX4_differences_30 : decode cX4_differences 30 = .ok (.iconst 1, 1) := by decide +kernel
theorem dX4_differences_31 : decode cX4_differences 31 = .ok (.iadd, 1) := by decide +kernel
theorem dX4_differences_32 : decode cX4_differences 32 = .ok (.istore_n 2, 1) := by decide +kernel
theorem dX4_differences_33 : decode cX4_differences 33 = .ok (.iinc 3 1, 3) := by decide +kernel
theorem dX4_differences_36 : decode cX4_differences 36 = .ok (.goto (-32), 3) := by decide +kernel
theorem dX4_differences_39 : decode cX4_differences 39 = .ok (.iload_n 2, 1) := by decide +kernel
theorem dX4_differences_40 : decode cX4_differences 40 = .ok (.ireturn, 1) := by decide +kernel
theorem dX5_init_0 : decode cX5_init 0 = .ok (.aload_n 0, 1) := by decide +kernel
theorem dX5_init_1 : decode cX5_init 1 = .ok (.invokespecial 3, 3) := by decide +kernel
theorem dX5_init_4 : decode cX5_init 4 = .ok (.aload_n 0, 1) := by decide +kernel
theorem dX5_init_5 : decode cX5_init 5 = .ok (.sipush 200, 3) := by decide +kernel
theorem dX5_init_8 : decode cX5_init 8 = .ok (.newarray .int, 2) := by decide +kernel
theorem dX5_init_10 : decode cX5_init 10 = .ok (.putfield 9, 3) := by decide +kernel
theorem dX5_init_13 : decode cX5_init 13 = .ok (.aload_n 0, 1) := by decide +kernel
theorem dX5_init_14 : decode cX5_init 14 = .ok (.sipush 200, 3) := by decide +kernel
theorem dX5_init_17 : decode cX5_init 17 = .ok (.newarray .int, 2) := by decide +kernel
theorem dX5_init_19 : decode cX5_init 19 = .ok (.putfield 15, 3) := by decide +kernel
theorem dX5_init_22 : decode cX5_init 22 = .ok (.aload_n 0, 1) := by decide +kernel
theorem dX5_init_23 : decode cX5_init 23 = .ok (.iconst 0, 1) := by decide +kernel
theorem dX5_init_24 : decode cX5_init 24 = .ok (.putfield 18, 3) := by decide +kernel
theorem dX5_init_27 : decode cX5_init 27 = .ok (.return_, 1) := by decide +kernel
theorem dX5_size_0 : decode cX5_size 0 = .ok (.aload_n 0, 1) := by decide +kernel
theorem dX5_size_1 : decode cX5_size 1 = .ok (.getfield 18, 3) := by decide +kernel
theorem dX5_size_4 : decode cX5_size 4 = .ok (.ireturn, 1) := by decide +kernel
theorem dX5_callAt_0 : decode cX5_callAt 0 = .ok (.iload_n 1, 1) := by decide +kernel
theorem dX5_callAt_1 : decode cX5_callAt 1 = .ok (.aload_n 0, 1) := by decide +kernel
theorem dX5_callAt_2 : decode cX5_callAt 2 = .ok (.getfield 18, 3) := by decide +kernel
theorem dX5_callAt_5 : decode cX5_callAt 5 = .ok (.invokestatic 22, 3) := by decide +kernel
theorem dX5_callAt_8 : decode cX5_callAt 8 = .ok (.ifCond .eq 12, 3) := by decide +kernel
theorem dX5_callAt_11 : decode cX5_callAt 11 = .ok (.aload_n 0, 1) := by decide +kernel
theorem dX5_callAt_12 : decode cX5_callAt 12 = .ok (.getfield 9, 3) := by decide +kernel
theorem dX5_callAt_15 : decode cX5_callAt 15 = .ok (.iload_n 1, 1) := by decide +kernel
theorem dX5_callAt_16 : decode cX5_callAt 16 = .ok (.iaload, 1) := by decide +kernel
theorem dX5_callAt_17 : decode cX5_callAt 17 = .ok (.goto 4, 3) := by decide +kernel
theorem dX5_callAt_20 : decode cX5_callAt 20 = .ok (.iconst (-1), 1) := by decide +kernel
theorem dX5_callAt_21 : decode cX5_callAt 21 = .ok (.ireturn, 1) := by decide +kernel
theorem dX5_resultAt_0 : decode cX5_resultAt 0 = .ok (.iload_n 1, 1) := by decide +kernel
theorem dX5_resultAt_1 : decode cX5_resultAt 1 = .ok (.aload_n 0, 1) := by decide +kernel
theorem dX5_resultAt_2 : decode cX5_resultAt 2 = .ok (.getfield 18, 3) := by decide +kernel
theorem dX5_resultAt_5 : decode cX5_resultAt 5 = .ok (.invokestatic 22, 3) := by decide +kernel
theorem dX5_resultAt_8 : decode cX5_resultAt 8 = .ok (.ifCond .eq 12, 3) := by decide +kernel
theorem dX5_resultAt_11 : decode cX5_resultAt 11 = .ok (.aload_n 0, 1) := by decide +kernel
theorem dX5_resultAt_12 : decode cX5_resultAt 12 = .ok (.getfield 15, 3) := by decide +kernel
theorem dX5_resultAt_15 : decode cX5_resultAt 15 = .ok (.iload_n 1, 1) := by decide +kernel
theorem dX5_resultAt_16 : decode cX5_resultAt 16 = .ok (.iaload, 1) := by decide +kernel
theorem dX5_resultAt_17 : decode cX5_resultAt 17 = .ok (.goto 4, 3) := by decide +kernel
theorem dX5_resultAt_20 : decode cX5_resultAt 20 = .ok (.iconst (-1), 1) := by decide +kernel
theorem dX5_resultAt_21 : decode cX5_resultAt 21 = .ok (.ireturn, 1) := by decide +kernel
theorem dX5_add_0 : decode cX5_add 0 = .ok (.aload_n 0, 1) := by decide +kernel
theorem dX5_add_1 : decode cX5_add 1 = .ok (.getfield 18, 3) := by decide +kernel
theorem dX5_add_4 : decode cX5_add 4 = .ok (.sipush 200, 3) := by decide +kernel
theorem dX5_add_7 : decode cX5_add 7 = .ok (.if_icmp .ge 33, 3) := by decide +kernel
theorem dX5_add_10 : decode cX5_add 10 = .ok (.aload_n 0, 1) := by decide +kernel
theorem dX5_add_11 : decode cX5_add 11 = .ok (.getfield 9, 3) := by decide +kernel
theorem dX5_add_14 : decode cX5_add 14 = .ok (.aload_n 0, 1) := by decide +kernel
theorem dX5_add_15 : decode cX5_add 15 = .ok (.getfield 18, 3) := by decide +kernel
theorem dX5_add_18 : decode cX5_add 18 = .ok (.iload_n 1, 1) := by decide +kernel
theorem dX5_add_19 : decode cX5_add 19 = .ok (.iastore, 1) := by decide +kernel
theorem dX5_add_20 : decode cX5_add 20 = .ok (.aload_n 0, 1) := by decide +kernel
theorem dX5_add_21 : decode cX5_add 21 = .ok (.getfield 15, 3) := by decide +kernel
theorem dX5_add_24 : decode cX5_add 24 = .ok (.aload_n 0, 1) := by decide +kernel
theorem dX5_add_25 : decode cX5_add 25 = .ok (.getfield 18, 3) := by decide +kernel
theorem dX5_add_28 : decode cX5_add 28 = .ok (.iload_n 2, 1) := by decide +kernel
theorem dX5_add_29 : decode cX5_add 29 = .ok (.iastore, 1) := by decide +kernel
theorem dX5_add_30 : decode cX5_add 30 = .ok (.aload_n 0, 1) := by decide +kernel
theorem dX5_add_31 : decode cX5_add 31 = .ok (.dup, 1) := by decide +kernel
theorem dX5_add_32 : decode cX5_add 32 = .ok (.getfield 18, 3) := by decide +kernel
theorem dX5_add_35 : decode cX5_add 35 = .ok (.iconst 1, 1) := by decide +kernel
theorem dX5_add_36 : decode cX5_add 36 = .ok (.iadd, 1) := by decide +kernel
theorem dX5_add_37 : decode cX5_add 37 = .ok (.putfield 18, 3) := by decide +kernel
theorem dX5_add_40 : decode cX5_add 40 = .ok (.return_, 1) := by decide +kernel
theorem dX5_move_0 : decode cX5_move 0 = .ok (.iload_n 1, 1) := by decide +kernel
theorem dX5_move_1 : decode cX5_move 1 = .ok (.aload_n 0, 1) := by decide +kernel
theorem dX5_move_2 : decode cX5_move 2 = .ok (.getfield 18, 3) := by decide +kernel
theorem dX5_move_5 : decode cX5_move 5 = .ok (.invokestatic 22, 3) := by decide +kernel
theorem dX5_move_8 : decode cX5_move 8 = .ok (.ifCond .eq 26, 3) := by decide +kernel
theorem dX5_move_11 : decode cX5_move 11 = .ok (.iload_n 2, 1) := by decide +kernel
theorem dX5_move_12 : decode cX5_move 12 = .ok (.aload_n 0, 1) := by decide +kernel
theorem dX5_move_13 : decode cX5_move 13 = .ok (.getfield 18, 3) := by decide +kernel
theorem dX5_move_16 : decode cX5_move 16 = .ok (.invokestatic 22, 3) := by decide +kernel
theorem dX5_move_19 : decode cX5_move 19 = .ok (.ifCond .eq 15, 3) := by decide +kernel
theorem dX5_move_22 : decode cX5_move 22 = .ok (.aload_n 0, 1) := by decide +kernel
theorem dX5_move_23 : decode cX5_move 23 = .ok (.getfield 9, 3) := by decide +kernel
theorem dX5_move_26 : decode cX5_move 26 = .ok (.iload_n 2, 1) := by decide +kernel
theorem dX5_move_27 : decode cX5_move 27 = .ok (.aload_n 0, 1) := by decide +kernel
theorem dX5_move_28 : decode cX5_move 28 = .ok (.getfield 9, 3) := by decide +kernel
theorem dX5_move_31 : decode cX5_move 31 = .ok (.iload_n 1, 1) := by decide +kernel
theorem dX5_move_32 : decode cX5_move 32 = .ok (.iaload, 1) := by decide +kernel
theorem dX5_move_33 : decode cX5_move 33 = .ok (.iastore, 1) := by decide +kernel
theorem dX5_move_34 : decode cX5_move 34 = .ok (.return_, 1) := by decide +kernel
theorem dX5_cutTo_0 : decode cX5_cutTo 0 = .ok (.iload_n 1, 1) := by decide +kernel
theorem dX5_cutTo_1 : decode cX5_cutTo 1 = .ok (.aload_n 0, 1) := by decide +kernel
theorem dX5_cutTo_2 : decode cX5_cutTo 2 = .ok (.getfield 18, 3) := by decide +kernel
theorem dX5_cutTo_5 : decode cX5_cutTo 5 = .ok (.invokestatic 22, 3) := by decide +kernel
theorem dX5_cutTo_8 : decode cX5_cutTo 8 = .ok (.ifCond .eq 8, 3) := by decide +kernel
theorem dX5_cutTo_11 : decode cX5_cutTo 11 = .ok (.aload_n 0, 1) := by decide +kernel
theorem dX5_cutTo_12 : decode cX5_cutTo 12 = .ok (.iload_n 1, 1) := by decide +kernel
theorem dX5_cutTo_13 : decode cX5_cutTo 13 = .ok (.putfield 18, 3) := by decide +kernel
theorem dX5_cutTo_16 : decode cX5_cutTo 16 = .ok (.return_, 1) := by decide +kernel
theorem dX5_copyStart_0 : decode cX5_copyStart 0 = .ok (.aload_n 0, 1) := by decide +kernel
theorem dX5_copyStart_1 : decode cX5_copyStart 1 = .ok (.iconst 0, 1) := by decide +kernel
theorem dX5_copyStart_2 : decode cX5_copyStart 2 = .ok (.putfield 18, 3) := by decide +kernel
theorem dX5_copyStart_5 : decode cX5_copyStart 5 = .ok (.iconst 0, 1) := by decide +kernel
theorem dX5_copyStart_6 : decode cX5_copyStart 6 = .ok (.istore_n 3, 1) := by decide +kernel
theorem dX5_copyStart_7 : decode cX5_copyStart 7 = .ok (.iload_n 3, 1) := by decide +kernel
theorem dX5_copyStart_8 : decode cX5_copyStart 8 = .ok (.iload_n 2, 1) := by decide +kernel
theorem dX5_copyStart_9 : decode cX5_copyStart 9 = .ok (.if_icmp .ge 33, 3) := by decide +kernel
theorem dX5_copyStart_12 : decode cX5_copyStart 12 = .ok (.iload_n 3, 1) := by decide +kernel
theorem dX5_copyStart_13 : decode cX5_copyStart 13 = .ok (.aload_n 1, 1) := by decide +kernel
theorem dX5_copyStart_14 : decode cX5_copyStart 14 = .ok (.getfield 18, 3) := by decide +kernel
theorem dX5_copyStart_17 : decode cX5_copyStart 17 = .ok (.if_icmp .ge 25, 3) := by decide +kernel
theorem dX5_copyStart_20 : decode cX5_copyStart 20 = .ok (.aload_n 0, 1) := by decide +kernel
theorem dX5_copyStart_21 : decode cX5_copyStart 21 = .ok (.aload_n 1, 1) := by decide +kernel
theorem dX5_copyStart_22 : decode cX5_copyStart 22 = .ok (.getfield 9, 3) := by decide +kernel
theorem dX5_copyStart_25 : decode cX5_copyStart 25 = .ok (.iload_n 3, 1) := by decide +kernel
theorem dX5_copyStart_26 : decode cX5_copyStart 26 = .ok (.iaload, 1) := by decide +kernel
theorem dX5_copyStart_27 : decode cX5_copyStart 27 = .ok (.aload_n 1, 1) := by decide +kernel
theorem dX5_copyStart_28 : decode cX5_copyStart 28 = .ok (.getfield 15, 3) := by decide +kernel
theorem dX5_copyStart_31 : decode cX5_copyStart 31 = .ok (.iload_n 3, 1) := by decide +kernel
theorem dX5_copyStart_32 : decode cX5_copyStart 32 = .ok (.iaload, 1) := by decide +kernel
theorem dX5_copyStart_33 : decode cX5_copyStart 33 = .ok (.invokevirtual 26, 3) := by decide +kernel
theorem dX5_copyStart_36 : decode cX5_copyStart 36 = .ok (.iinc 3 1, 3) := by decide +kernel
theorem dX5_copyStart_39 : decode cX5_copyStart 39 = .ok (.goto (-32), 3) := by decide +kernel
theorem dX5_copyStart_42 : decode cX5_copyStart 42 = .ok (.return_, 1) := by decide +kernel
theorem dX5_takeResults_0 : decode cX5_takeResults 0 = .ok (.iconst 0, 1) := by decide +kernel
theorem dX5_takeResults_1 : decode cX5_takeResults 1 = .ok (.istore_n 2, 1) := by decide +kernel
theorem dX5_takeResults_2 : decode cX5_takeResults 2 = .ok (.iload_n 2, 1) := by decide +kernel
theorem dX5_takeResults_3 : decode cX5_takeResults 3 = .ok (.aload_n 0, 1) := by decide +kernel
theorem dX5_takeResults_4 : decode cX5_takeResults 4 = .ok (.getfield 18, 3) := by decide +kernel
theorem dX5_takeResults_7 : decode cX5_takeResults 7 = .ok (.if_icmp .ge 20, 3) := by decide +kernel
theorem dX5_takeResults_10 : decode cX5_takeResults 10 = .ok (.aload_n 0, 1) := by decide +kernel
theorem dX5_takeResults_11 : decode cX5_takeResults 11 = .ok (.getfield 15, 3) := by decide +kernel
theorem dX5_takeResults_14 : decode cX5_takeResults 14 = .ok (.iload_n 2, 1) := by decide +kernel
theorem dX5_takeResults_15 : decode cX5_takeResults 15 = .ok (.aload_n 1, 1) := by decide +kernel
theorem dX5_takeResults_16 : decode cX5_takeResults 16 = .ok (.iload_n 2, 1) := by decide +kernel
theorem dX5_takeResults_17 : decode cX5_takeResults 17 = .ok (.invokevirtual 30, 3) := by decide +kernel
theorem dX5_takeResults_20 : decode cX5_takeResults 20 = .ok (.iastore, 1) := by decide +kernel
theorem dX5_takeResults_21 : decode cX5_takeResults 21 = .ok (.iinc 2 1, 3) := by decide +kernel
theorem dX5_takeResults_24 : decode cX5_takeResults 24 = .ok (.goto (-22), 3) := by decide +kernel
theorem dX5_takeResults_27 : decode cX5_takeResults 27 = .ok (.return_, 1) := by decide +kernel
theorem dX5_hasCallOf_0 : decode cX5_hasCallOf 0 = .ok (.iconst 0, 1) := by decide +kernel
theorem dX5_hasCallOf_1 : decode cX5_hasCallOf 1 = .ok (.istore_n 2, 1) := by decide +kernel
theorem dX5_hasCallOf_2 : decode cX5_hasCallOf 2 = .ok (.iload_n 2, 1) := by decide +kernel
theorem dX5_hasCallOf_3 : decode cX5_hasCallOf 3 = .ok (.aload_n 0, 1) := by decide +kernel
theorem dX5_hasCallOf_4 : decode cX5_hasCallOf 4 = .ok (.getfield 18, 3) := by decide +kernel
theorem dX5_hasCallOf_7 : decode cX5_hasCallOf 7 = .ok (.if_icmp .ge 24, 3) := by decide +kernel
theorem dX5_hasCallOf_10 : decode cX5_hasCallOf 10 = .ok (.aload_n 0, 1) := by decide +kernel
theorem dX5_hasCallOf_11 : decode cX5_hasCallOf 11 = .ok (.getfield 9, 3) := by decide +kernel
theorem dX5_hasCallOf_14 : decode cX5_hasCallOf 14 = .ok (.iload_n 2, 1) := by decide +kernel
theorem dX5_hasCallOf_15 : decode cX5_hasCallOf 15 = .ok (.iaload, 1) := by decide +kernel
theorem dX5_hasCallOf_16 : decode cX5_hasCallOf 16 = .ok (.invokestatic 36, 3) := by decide +kernel
theorem dX5_hasCallOf_19 : decode cX5_hasCallOf 19 = .ok (.iload_n 1, 1) := by decide +kernel
theorem dX5_hasCallOf_20 : decode cX5_hasCallOf 20 = .ok (.if_icmp .ne 5, 3) := by decide +kernel
theorem dX5_hasCallOf_23 : decode cX5_hasCallOf 23 = .ok (.iconst 1, 1) := by decide +kernel
theorem dX5_hasCallOf_24 : decode cX5_hasCallOf 24 = .ok (.ireturn, 1) := by decide +kernel
theorem dX5_hasCallOf_25 : decode cX5_hasCallOf 25 = .ok (.iinc 2 1, 3) := by decide +kernel
theorem dX5_hasCallOf_28 : decode cX5_hasCallOf 28 = .ok (.goto (-26), 3) := by decide +kernel
theorem dX5_hasCallOf_31 : decode cX5_hasCallOf 31 = .ok (.iconst 0, 1) := by decide +kernel
theorem dX5_hasCallOf_32 : decode cX5_hasCallOf 32 = .ok (.ireturn, 1) := by decide +kernel
theorem dX5_hasSameCalls_0 : decode cX5_hasSameCalls 0 = .ok (.aload_n 0, 1) := by decide +kernel
theorem dX5_hasSameCalls_1 : decode cX5_hasSameCalls 1 = .ok (.getfield 18, 3) := by decide +kernel
theorem dX5_hasSameCalls_4 : decode cX5_hasSameCalls 4 = .ok (.aload_n 1, 1) := by decide +kernel
theorem dX5_hasSameCalls_5 : decode cX5_hasSameCalls 5 = .ok (.getfield 18, 3) := by decide +kernel
theorem dX5_hasSameCalls_8 : decode cX5_hasSameCalls 8 = .ok (.if_icmp .eq 5, 3) := by decide +kernel
theorem dX5_hasSameCalls_11 : decode cX5_hasSameCalls 11 = .ok (.iconst 0, 1) := by decide +kernel
theorem dX5_hasSameCalls_12 : decode cX5_hasSameCalls 12 = .ok (.ireturn, 1) := by decide +kernel
theorem dX5_hasSameCalls_13 : decode cX5_hasSameCalls 13 = .ok (.iconst 0, 1) := by decide +kernel
theorem dX5_hasSameCalls_14 : decode cX5_hasSameCalls 14 = .ok (.istore_n 2, 1) := by decide +kernel
theorem dX5_hasSameCalls_15 : decode cX5_hasSameCalls 15 = .ok (.iload_n 2, 1) := by decide +kernel
theorem dX5_hasSameCalls_16 : decode cX5_hasSameCalls 16 = .ok (.aload_n 0, 1) := by decide +kernel
theorem dX5_hasSameCalls_17 : decode cX5_hasSameCalls 17 = .ok (.getfield 18, 3) := by decide +kernel
theorem dX5_hasSameCalls_20 : decode cX5_hasSameCalls 20 = .ok (.if_icmp .ge 26, 3) := by decide +kernel
theorem dX5_hasSameCalls_23 : decode cX5_hasSameCalls 23 = .ok (.aload_n 0, 1) := by decide +kernel
theorem dX5_hasSameCalls_24 : decode cX5_hasSameCalls 24 = .ok (.getfield 9, 3) := by decide +kernel
theorem dX5_hasSameCalls_27 : decode cX5_hasSameCalls 27 = .ok (.iload_n 2, 1) := by decide +kernel
theorem dX5_hasSameCalls_28 : decode cX5_hasSameCalls 28 = .ok (.iaload, 1) := by decide +kernel
theorem dX5_hasSameCalls_29 : decode cX5_hasSameCalls 29 = .ok (.aload_n 1, 1) := by decide +kernel
theorem dX5_hasSameCalls_30 : decode cX5_hasSameCalls 30 = .ok (.getfield 9, 3) := by decide +kernel
theorem dX5_hasSameCalls_33 : decode cX5_hasSameCalls 33 = .ok (.iload_n 2, 1) := by decide +kernel
theorem dX5_hasSameCalls_34 : decode cX5_hasSameCalls 34 = .ok (.iaload, 1) := by decide +kernel
theorem dX5_hasSameCalls_35 : decode cX5_hasSameCalls 35 = .ok (.if_icmp .eq 5, 3) := by decide +kernel
theorem dX5_hasSameCalls_38 : decode cX5_hasSameCalls 38 = .ok (.iconst 0, 1) := by decide +kernel
theorem dX5_hasSameCalls_39 : decode cX5_hasSameCalls 39 = .ok (.ireturn, 1) := by decide +kernel
theorem dX5_hasSameCalls_40 : decode cX5_hasSameCalls 40 = .ok (.iinc 2 1, 3) := by decide +kernel
theorem dX5_hasSameCalls_43 : decode cX5_hasSameCalls 43 = .ok (.goto (-28), 3) := by decide +kernel
theorem dX5_hasSameCalls_46 : decode cX5_hasSameCalls 46 = .ok (.iconst 1, 1) := by decide +kernel
theorem dX5_hasSameCalls_47 : decode cX5_hasSameCalls 47 = .ok (.ireturn, 1) := by decide +kernel
theorem dX6_init_0 : decode cX6_init 0 = .ok (.aload_n 0, 1) := by decide +kernel
theorem dX6_init_1 : decode cX6_init 1 = .ok (.invokespecial 3, 3) := by decide +kernel
theorem dX6_init_4 : decode cX6_init 4 = .ok (.aload_n 0, 1) := by decide +kernel
theorem dX6_init_5 : decode cX6_init 5 = .ok (.iconst (-1), 1) := by decide +kernel
theorem dX6_init_6 : decode cX6_init 6 = .ok (.putfield 9, 3) := by decide +kernel
theorem dX6_init_9 : decode cX6_init 9 = .ok (.aload_n 0, 1) := by decide +kernel
theorem dX6_init_10 : decode cX6_init 10 = .ok (.iconst (-1), 1) := by decide +kernel
theorem dX6_init_11 : decode cX6_init 11 = .ok (.putfield 15, 3) := by decide +kernel
theorem dX6_init_14 : decode cX6_init 14 = .ok (.aload_n 0, 1) := by decide +kernel
theorem dX6_init_15 : decode cX6_init 15 = .ok (.aload_n 1, 1) := by decide +kernel
theorem dX6_init_16 : decode cX6_init 16 = .ok (.putfield 18, 3) := by decide +kernel
theorem dX6_init_19 : decode cX6_init 19 = .ok (.return_, 1) := by decide +kernel
theorem dX6_shorten_0 : decode cX6_shorten 0 = .ok (.aload_n 0, 1) := by decide +kernel
theorem dX6_shorten_1 : decode cX6_shorten 1 = .ok (.iload_n 2, 1) := by decide +kernel
theorem dX6_shorten_2 : decode cX6_shorten 2 = .ok (.putfield 9, 3) := by decide +kernel
theorem dX6_shorten_5 : decode cX6_shorten 5 = .ok (.aload_n 0, 1) := by decide +kernel
theorem dX6_shorten_6 : decode cX6_shorten 6 = .ok (.iload_n 3, 1) := by decide +kernel
theorem dX6_shorten_7 : decode cX6_shorten 7 = .ok (.putfield 15, 3) := by decide +kernel
theorem dX6_shorten_10 : decode cX6_shorten 10 = .ok (.iconst 1, 1) := by decide +kernel
theorem dX6_shorten_11 : decode cX6_shorten 11 = .ok (.istore 4, 2) := by decide +kernel
theorem dX6_shorten_13 : decode cX6_shorten 13 = .ok (.iconst 0, 1) := by decide +kernel
theorem dX6_shorten_14 : decode cX6_shorten 14 = .ok (.istore 5, 2) := by decide +kernel
theorem dX6_shorten_16 : decode cX6_shorten 16 = .ok (.iload 4, 2) := by decide +kernel
theorem dX6_shorten_18 : decode cX6_shorten 18 = .ok (.ifCond .eq 24, 3) := by decide +kernel
theorem dX6_shorten_21 : decode cX6_shorten 21 = .ok (.iload 5, 2) := by decide +kernel
theorem dX6_shorten_23 : decode cX6_shorten 23 = .ok (.sipush 200, 3) := by decide +kernel
theorem dX6_shorten_26 : decode cX6_shorten 26 = .ok (.if_icmp .gt 16, 3) := by decide +kernel
theorem dX6_shorten_29 : decode cX6_shorten 29 = .ok (.aload_n 0, 1) := by decide +kernel
theorem dX6_shorten_30 : decode cX6_shorten 30 = .ok (.aload_n 1, 1) := by decide +kernel
theorem dX6_shorten_31 : decode cX6_shorten 31 = .ok (.invokevirtual 22, 3) := by decide +kernel
theorem dX6_shorten_34 : decode cX6_shorten 34 = .ok (.istore 4, 2) := by decide +kernel
theorem dX6_shorten_36 : decode cX6_shorten 36 = .ok (.iinc 5 1, 3) := by decide +kernel
theorem dX6_shorten_39 : decode cX6_shorten 39 = .ok (.goto (-23), 3) := by decide +kernel
theorem dX6_shorten_42 : decode cX6_shorten 42 = .ok (.return_, 1) := by decide +kernel
theorem dX6_leaveOut_0 : decode cX6_leaveOut 0 = .ok (.aload_n 1, 1) := by decide +kernel
theorem dX6_leaveOut_1 : decode cX6_leaveOut 1 = .ok (.invokevirtual 26, 3) := by decide +kernel
theorem dX6_leaveOut_4 : decode cX6_leaveOut 4 = .ok (.iconst 1, 1) := by decide +kernel
theorem dX6_leaveOut_5 : decode cX6_leaveOut 5 = .ok (.isub, 1) := by decide +kernel
theorem dX6_leaveOut_6 : decode cX6_leaveOut 6 = .ok (.istore_n 2, 1) := by decide +kernel
theorem dX6_leaveOut_7 : decode cX6_leaveOut 7 = .ok (.iconst 0, 1) := by decide +kernel
theorem dX6_leaveOut_8 : decode cX6_leaveOut 8 = .ok (.istore_n 3, 1) := by decide +kernel
theorem dX6_leaveOut_9 : decode cX6_leaveOut 9 = .ok (.iconst 0, 1) := by decide +kernel
theorem dX6_leaveOut_10 : decode cX6_leaveOut 10 = .ok (.istore 4, 2) := by decide +kernel
theorem dX6_leaveOut_12 : decode cX6_leaveOut 12 = .ok (.iconst 0, 1) := by decide +kernel
theorem dX6_leaveOut_13 : decode cX6_leaveOut 13 = .ok (.istore 5, 2) := by decide +kernel
theorem dX6_leaveOut_15 : decode cX6_leaveOut 15 = .ok (.iload 5, 2) := by decide +kernel
theorem dX6_leaveOut_17 : decode cX6_leaveOut 17 = .ok (.iload_n 2, 1) := by decide +kernel
theorem dX6_leaveOut_18 : decode cX6_leaveOut 18 = .ok (.if_icmp .ge 68, 3) := by decide +kernel
theorem dX6_leaveOut_21 : decode cX6_leaveOut 21 = .ok (.aload_n 0, 1) := by decide +kernel
theorem dX6_leaveOut_22 : decode cX6_leaveOut 22 = .ok (.aload_n 1, 1) := by decide +kernel
theorem dX6_leaveOut_23 : decode cX6_leaveOut 23 = .ok (.iload 5, 2) := by decide +kernel
theorem dX6_leaveOut_25 : decode cX6_leaveOut 25 = .ok (.iconst 1, 1) := by decide +kernel
theorem dX6_leaveOut_26 : decode cX6_leaveOut 26 = .ok (.iadd, 1) := by decide +kernel
theorem dX6_leaveOut_27 : decode cX6_leaveOut 27 = .ok (.iload 4, 2) := by decide +kernel
theorem dX6_leaveOut_29 : decode cX6_leaveOut 29 = .ok (.invokevirtual 32, 3) := by decide +kernel
theorem dX6_leaveOut_32 : decode cX6_leaveOut 32 = .ok (.ifCond .ne 48, 3) := by decide +kernel
theorem dX6_leaveOut_35 : decode cX6_leaveOut 35 = .ok (.aload_n 1, 1) := by decide +kernel
theorem dX6_leaveOut_36 : decode cX6_leaveOut 36 = .ok (.iload 5, 2) := by decide +kernel
theorem dX6_leaveOut_38 : decode cX6_leaveOut 38 = .ok (.invokevirtual 36, 3) := by decide +kernel
theorem dX6_leaveOut_41 : decode cX6_leaveOut 41 = .ok (.istore 6, 2) := by decide +kernel
theorem dX6_leaveOut_43 : decode cX6_leaveOut 43 = .ok (.aload_n 0, 1) := by decide +kernel
theorem dX6_leaveOut_44 : decode cX6_leaveOut 44 = .ok (.getfield 18, 3) := by decide +kernel
theorem dX6_leaveOut_47 : decode cX6_leaveOut 47 = .ok (.aload_n 0, 1) := by decide +kernel
theorem dX6_leaveOut_48 : decode cX6_leaveOut 48 = .ok (.getfield 18, 3) := by decide +kernel
theorem dX6_leaveOut_51 : decode cX6_leaveOut 51 = .ok (.iload 6, 2) := by decide +kernel
theorem dX6_leaveOut_53 : decode cX6_leaveOut 53 = .ok (.iload 4, 2) := by decide +kernel
theorem dX6_leaveOut_55 : decode cX6_leaveOut 55 = .ok (.invokevirtual 40, 3) := by decide +kernel
theorem dX6_leaveOut_58 : decode cX6_leaveOut 58 = .ok (.iload 4, 2) := by decide +kernel
theorem dX6_leaveOut_60 : decode cX6_leaveOut 60 = .ok (.iload 6, 2) := by decide +kernel
theorem dX6_leaveOut_62 : decode cX6_leaveOut 62 = .ok (.invokestatic 46, 3) := by decide +kernel
theorem dX6_leaveOut_65 : decode cX6_leaveOut 65 = .ok (.invokevirtual 49, 3) := by decide +kernel
theorem dX6_leaveOut_68 : decode cX6_leaveOut 68 = .ok (.istore 4, 2) := by decide +kernel
theorem dX6_leaveOut_70 : decode cX6_leaveOut 70 = .ok (.aload_n 1, 1) := by decide +kernel
theorem dX6_leaveOut_71 : decode cX6_leaveOut 71 = .ok (.iload 5, 2) := by decide +kernel
theorem dX6_leaveOut_73 : decode cX6_leaveOut 73 = .ok (.iload_n 3, 1) := by decide +kernel
theorem dX6_leaveOut_74 : decode cX6_leaveOut 74 = .ok (.invokevirtual 53, 3) := by decide +kernel
theorem dX6_leaveOut_77 : decode cX6_leaveOut 77 = .ok (.iinc 3 1, 3) := by decide +kernel
theorem dX6_leaveOut_80 : decode cX6_leaveOut 80 = .ok (.iinc 5 1, 3) := by decide +kernel
theorem dX6_leaveOut_83 : decode cX6_leaveOut 83 = .ok (.goto (-68), 3) := by decide +kernel
theorem dX6_leaveOut_86 : decode cX6_leaveOut 86 = .ok (.aload_n 1, 1) := by decide +kernel
theorem dX6_leaveOut_87 : decode cX6_leaveOut 87 = .ok (.iload_n 2, 1) := by decide +kernel
theorem dX6_leaveOut_88 : decode cX6_leaveOut 88 = .ok (.iload_n 3, 1) := by decide +kernel
theorem dX6_leaveOut_89 : decode cX6_leaveOut 89 = .ok (.invokevirtual 53, 3) := by decide +kernel
theorem dX6_leaveOut_92 : decode cX6_leaveOut 92 = .ok (.aload_n 1, 1) := by decide +kernel
theorem dX6_leaveOut_93 : decode cX6_leaveOut 93 = .ok (.iload_n 3, 1) := by decide +kernel
theorem dX6_leaveOut_94 : decode cX6_leaveOut 94 = .ok (.iconst 1, 1) := by decide +kernel
theorem dX6_leaveOut_95 : decode cX6_leaveOut 95 = .ok (.iadd, 1) := by decide +kernel
theorem dX6_leaveOut_96 : decode cX6_leaveOut 96 = .ok (.invokevirtual 57, 3) := by decide +kernel
theorem dX6_leaveOut_99 : decode cX6_leaveOut 99 = .ok (.iload_n 3, 1) := by decide +kernel
theorem dX6_leaveOut_100 : decode cX6_leaveOut 100 = .ok (.iload_n 2, 1) := by decide +kernel
theorem dX6_leaveOut_101 : decode cX6_leaveOut 101 = .ok (.if_icmp .ge 7, 3) := by decide +kernel
theorem dX6_leaveOut_104 : decode cX6_leaveOut 104 = .ok (.iconst 1, 1) := by decide +kernel
theorem dX6_leaveOut_105 : decode cX6_leaveOut 105 = .ok (.goto 4, 3) := by decide +kernel
theorem dX6_leaveOut_108 : decode cX6_leaveOut 108 = .ok (.iconst 0, 1) := by decide +kernel
theorem dX6_leaveOut_109 : decode cX6_leaveOut 109 = .ok (.ireturn, 1) := by decide +kernel
theorem dX6_endsAlike_0 : decode cX6_endsAlike 0 = .ok (.iload_n 3, 1) := by decide +kernel
theorem dX6_endsAlike_1 : decode cX6_endsAlike 1 = .ok (.istore 4, 2) := by decide +kernel
theorem dX6_endsAlike_3 : decode cX6_endsAlike 3 = .ok (.iconst (-1), 1) := by decide +kernel
theorem dX6_endsAlike_4 : decode cX6_endsAlike 4 = .ok (.istore 5, 2) := by decide +kernel
theorem dX6_endsAlike_6 : decode cX6_endsAlike 6 = .ok (.iload_n 2, 1) := by decide +kernel
theorem dX6_endsAlike_7 : decode cX6_endsAlike 7 = .ok (.istore 6, 2) := by decide +kernel
theorem dX6_endsAlike_9 : decode cX6_endsAlike 9 = .ok (.iload 6, 2) := by decide +kernel
theorem dX6_endsAlike_11 : decode cX6_endsAlike 11 = .ok (.aload_n 1, 1) := by decide +kernel
theorem dX6_endsAlike_12 : decode cX6_endsAlike 12 = .ok (.invokevirtual 26, 3) := by decide +kernel
theorem dX6_endsAlike_15 : decode cX6_endsAlike 15 = .ok (.if_icmp .ge 48, 3) := by decide +kernel
theorem dX6_endsAlike_18 : decode cX6_endsAlike 18 = .ok (.aload_n 1, 1) := by decide +kernel
theorem dX6_endsAlike_19 : decode cX6_endsAlike 19 = .ok (.iload 6, 2) := by decide +kernel
theorem dX6_endsAlike_21 : decode cX6_endsAlike 21 = .ok (.invokevirtual 36, 3) := by decide +kernel
theorem dX6_endsAlike_24 : decode cX6_endsAlike 24 = .ok (.istore 7, 2) := by decide +kernel
theorem dX6_endsAlike_26 : decode cX6_endsAlike 26 = .ok (.aload_n 0, 1) := by decide +kernel
theorem dX6_endsAlike_27 : decode cX6_endsAlike 27 = .ok (.getfield 18, 3) := by decide +kernel
theorem dX6_endsAlike_30 : decode cX6_endsAlike 30 = .ok (.iload 7, 2) := by decide +kernel
theorem dX6_endsAlike_32 : decode cX6_endsAlike 32 = .ok (.iload 4, 2) := by decide +kernel
theorem dX6_endsAlike_34 : decode cX6_endsAlike 34 = .ok (.invokevirtual 40, 3) := by decide +kernel
theorem dX6_endsAlike_37 : decode cX6_endsAlike 37 = .ok (.istore 5, 2) := by decide +kernel
theorem dX6_endsAlike_39 : decode cX6_endsAlike 39 = .ok (.aload_n 0, 1) := by decide +kernel
theorem dX6_endsAlike_40 : decode cX6_endsAlike 40 = .ok (.getfield 18, 3) := by decide +kernel
theorem dX6_endsAlike_43 : decode cX6_endsAlike 43 = .ok (.iload 5, 2) := by decide +kernel
theorem dX6_endsAlike_45 : decode cX6_endsAlike 45 = .ok (.iload 4, 2) := by decide +kernel
theorem dX6_endsAlike_47 : decode cX6_endsAlike 47 = .ok (.iload 7, 2) := by decide +kernel
theorem dX6_endsAlike_49 : decode cX6_endsAlike 49 = .ok (.invokestatic 46, 3) := by decide +kernel
theorem dX6_endsAlike_52 : decode cX6_endsAlike 52 = .ok (.invokevirtual 49, 3) := by decide +kernel
theorem dX6_endsAlike_55 : decode cX6_endsAlike 55 = .ok (.istore 4, 2) := by decide +kernel
theorem dX6_endsAlike_57 : decode cX6_endsAlike 57 = .ok (.iinc 6 1, 3) := by decide +kernel
theorem dX6_endsAlike_60 : decode cX6_endsAlike 60 = .ok (.goto (-51), 3) := by decide +kernel
theorem dX6_endsAlike_63 : decode cX6_endsAlike 63 = .ok (.iload 5, 2) := by decide +kernel
theorem dX6_endsAlike_65 : decode cX6_endsAlike 65 = .ok (.aload_n 0, 1) := by decide +kernel
theorem dX6_endsAlike_66 : decode cX6_endsAlike 66 = .ok (.getfield 9, 3) := by decide +kernel
theorem dX6_endsAlike_69 : decode cX6_endsAlike 69 = .ok (.if_icmp .ne 25, 3) := by decide +kernel
theorem dX6_endsAlike_72 : decode cX6_endsAlike 72 = .ok (.aload_n 0, 1) := by decide +kernel
theorem dX6_endsAlike_73 : decode cX6_endsAlike 73 = .ok (.getfield 18, 3) := by decide +kernel
theorem dX6_endsAlike_76 : decode cX6_endsAlike 76 = .ok (.iload 5, 2) := by decide +kernel
theorem dX6_endsAlike_78 : decode cX6_endsAlike 78 = .ok (.iload 4, 2) := by decide +kernel
theorem dX6_endsAlike_80 : decode cX6_endsAlike 80 = .ok (.invokevirtual 61, 3) := by decide +kernel
theorem dX6_endsAlike_83 : decode cX6_endsAlike 83 = .ok (.aload_n 0, 1) := by decide +kernel
theorem dX6_endsAlike_84 : decode cX6_endsAlike 84 = .ok (.getfield 15, 3) := by decide +kernel
theorem dX6_endsAlike_87 : decode cX6_endsAlike 87 = .ok (.if_icmp .ne 7, 3) := by decide +kernel
theorem dX6_endsAlike_90 : decode cX6_endsAlike 90 = .ok (.iconst 1, 1) := by decide +kernel
theorem dX6_endsAlike_91 : decode cX6_endsAlike 91 = .ok (.goto 4, 3) := by decide +kernel
theorem dX6_endsAlike_94 : decode cX6_endsAlike 94 = .ok (.iconst 0, 1) := by decide +kernel
theorem dX6_endsAlike_95 : decode cX6_endsAlike 95 = .ok (.ireturn, 1) := by decide +kernel
theorem dX7_init_0 : decode cX7_init 0 = .ok (.aload_n 0, 1) := by decide +kernel
theorem dX7_init_1 : decode cX7_init 1 = .ok (.invokespecial 3, 3) := by decide +kernel
theorem dX7_init_4 : decode cX7_init 4 = .ok (.aload_n 0, 1) := by decide +kernel
theorem dX7_init_5 : decode cX7_init 5 = .ok (.bipush 12, 2) := by decide +kernel
theorem dX7_init_7 : decode cX7_init 7 = .ok (.anewarray 9, 3) := by decide +kernel
theorem dX7_init_10 : decode cX7_init 10 = .ok (.putfield 11, 3) := by decide +kernel
theorem dX7_init_13 : decode cX7_init 13 = .ok (.aload_n 0, 1) := by decide +kernel
theorem dX7_init_14 : decode cX7_init 14 = .ok (.bipush 12, 2) := by decide +kernel
theorem dX7_init_16 : decode cX7_init 16 = .ok (.newarray .int, 2) := by decide +kernel
theorem dX7_init_18 : decode cX7_init 18 = .ok (.putfield 17, 3) := by decide +kernel
theorem dX7_init_21 : decode cX7_init 21 = .ok (.aload_n 0, 1) := by decide +kernel
theorem dX7_init_22 : decode cX7_init 22 = .ok (.iconst 0, 1) := by decide +kernel
theorem dX7_init_23 : decode cX7_init 23 = .ok (.putfield 21, 3) := by decide +kernel
theorem dX7_init_26 : decode cX7_init 26 = .ok (.iconst 0, 1) := by decide +kernel
theorem dX7_init_27 : decode cX7_init 27 = .ok (.istore_n 1, 1) := by decide +kernel
theorem dX7_init_28 : decode cX7_init 28 = .ok (.iload_n 1, 1) := by decide +kernel
theorem dX7_init_29 : decode cX7_init 29 = .ok (.bipush 12, 2) := by decide +kernel
theorem dX7_init_31 : decode cX7_init 31 = .ok (.if_icmp .ge 22, 3) := by decide +kernel
theorem dX7_init_34 : decode cX7_init 34 = .ok (.aload_n 0, 1) := by decide +kernel
theorem dX7_init_35 : decode cX7_init 35 = .ok (.getfield 11, 3) := by decide +kernel
theorem dX7_init_38 : decode cX7_init 38 = .ok (.iload_n 1, 1) := by decide +kernel
theorem dX7_init_39 : decode cX7_init 39 = .ok (.new 9, 3) := by decide +kernel
theorem dX7_init_42 : decode cX7_init 42 = .ok (.dup, 1) := by decide +kernel
theorem dX7_init_43 : decode cX7_init 43 = .ok (.invokespecial 25, 3) := by decide +kernel
theorem dX7_init_46 : decode cX7_init 46 = .ok (.aastore, 1) := by decide +kernel
theorem dX7_init_47 : decode cX7_init 47 = .ok (.iinc 1 1, 3) := by decide +kernel
theorem dX7_init_50 : decode cX7_init 50 = .ok (.goto (-22), 3) := by decide +kernel
theorem dX7_init_53 : decode cX7_init 53 = .ok (.return_, 1) := by decide +kernel
theorem dX7_size_0 : decode cX7_size 0 = .ok (.aload_n 0, 1) := by decide +kernel
theorem dX7_size_1 : decode cX7_size 1 = .ok (.getfield 21, 3) := by decide +kernel
theorem dX7_size_4 : decode cX7_size 4 = .ok (.ireturn, 1) := by decide +kernel
theorem dX7_at_0 : decode cX7_at 0 = .ok (.iload_n 1, 1) := by decide +kernel
theorem dX7_at_1 : decode cX7_at 1 = .ok (.aload_n 0, 1) := by decide +kernel
theorem dX7_at_2 : decode cX7_at 2 = .ok (.getfield 21, 3) := by decide +kernel
theorem dX7_at_5 : decode cX7_at 5 = .ok (.invokestatic 26, 3) := by decide +kernel
theorem dX7_at_8 : decode cX7_at 8 = .ok (.ifCond .eq 12, 3) := by decide +kernel
theorem dX7_at_11 : decode cX7_at 11 = .ok (.aload_n 0, 1) := by decide +kernel
theorem dX7_at_12 : decode cX7_at 12 = .ok (.getfield 11, 3) := by decide +kernel
theorem dX7_at_15 : decode cX7_at 15 = .ok (.iload_n 1, 1) := by decide +kernel
theorem dX7_at_16 : decode cX7_at 16 = .ok (.aaload, 1) := by decide +kernel
theorem dX7_at_17 : decode cX7_at 17 = .ok (.goto 4, 3) := by decide +kernel
theorem dX7_at_20 : decode cX7_at 20 = .ok (.aconst_null, 1) := by decide +kernel
theorem dX7_at_21 : decode cX7_at 21 = .ok (.areturn, 1) := by decide +kernel
theorem dX7_spare_0 : decode cX7_spare 0 = .ok (.aload_n 0, 1) := by decide +kernel
theorem dX7_spare_1 : decode cX7_spare 1 = .ok (.getfield 21, 3) := by decide +kernel
theorem dX7_spare_4 : decode cX7_spare 4 = .ok (.bipush 12, 2) := by decide +kernel
theorem dX7_spare_6 : decode cX7_spare 6 = .ok (.if_icmp .ge 15, 3) := by decide +kernel
theorem dX7_spare_9 : decode cX7_spare 9 = .ok (.aload_n 0, 1) := by decide +kernel
theorem dX7_spare_10 : decode cX7_spare 10 = .ok (.getfield 11, 3) := by decide +kernel
theorem dX7_spare_13 : decode cX7_spare 13 = .ok (.aload_n 0, 1) := by decide +kernel
theorem dX7_spare_14 : decode cX7_spare 14 = .ok (.getfield 21, 3) := by decide +kernel
theorem dX7_spare_17 : decode cX7_spare 17 = .ok (.aaload, 1) := by decide +kernel
theorem dX7_spare_18 : decode cX7_spare 18 = .ok (.goto 4, 3) := by decide +kernel
theorem dX7_spare_21 : decode cX7_spare 21 = .ok (.aconst_null, 1) := by decide +kernel
theorem dX7_spare_22 : decode cX7_spare 22 = .ok (.areturn, 1) := by decide +kernel
theorem dX7_keepSpare_0 : decode cX7_keepSpare 0 = .ok (.aload_n 0, 1) := by decide +kernel
theorem dX7_keepSpare_1 : decode cX7_keepSpare 1 = .ok (.getfield 21, 3) := by decide +kernel
theorem dX7_keepSpare_4 : decode cX7_keepSpare 4 = .ok (.bipush 12, 2) := by decide +kernel
theorem dX7_keepSpare_6 : decode cX7_keepSpare 6 = .ok (.if_icmp .lt 5, 3) := by decide +kernel
theorem dX7_keepSpare_9 : decode cX7_keepSpare 9 = .ok (.iconst (-1), 1) := by decide +kernel
theorem dX7_keepSpare_10 : decode cX7_keepSpare 10 = .ok (.ireturn, 1) := by decide +kernel
theorem dX7_keepSpare_11 : decode cX7_keepSpare 11 = .ok (.aload_n 0, 1) := by decide +kernel
theorem dX7_keepSpare_12 : decode cX7_keepSpare 12 = .ok (.dup, 1) := by decide +kernel
theorem dX7_keepSpare_13 : decode cX7_keepSpare 13 = .ok (.getfield 21, 3) := by decide +kernel
theorem dX7_keepSpare_16 : decode cX7_keepSpare 16 = .ok (.iconst 1, 1) := by decide +kernel
theorem dX7_keepSpare_17 : decode cX7_keepSpare 17 = .ok (.iadd, 1) := by decide +kernel
theorem dX7_keepSpare_18 : decode cX7_keepSpare 18 = .ok (.putfield 21, 3) := by decide +kernel
theorem dX7_keepSpare_21 : decode cX7_keepSpare 21 = .ok (.aload_n 0, 1) := by decide +kernel
theorem dX7_keepSpare_22 : decode cX7_keepSpare 22 = .ok (.getfield 21, 3) := by decide +kernel
theorem dX7_keepSpare_25 : decode cX7_keepSpare 25 = .ok (.iconst 1, 1) := by decide +kernel
theorem dX7_keepSpare_26 : decode cX7_keepSpare 26 = .ok (.isub, 1) := by decide +kernel
theorem dX7_keepSpare_27 : decode cX7_keepSpare 27 = .ok (.ireturn, 1) := by decide +kernel
theorem dX7_remove_0 : decode cX7_remove 0 = .ok (.iload_n 1, 1) := by decide +kernel
theorem dX7_remove_1 : decode cX7_remove 1 = .ok (.aload_n 0, 1) := by decide +kernel
theorem dX7_remove_2 : decode cX7_remove 2 = .ok (.getfield 21, 3) := by decide +kernel
theorem dX7_remove_5 : decode cX7_remove 5 = .ok (.invokestatic 26, 3) := by decide +kernel
theorem dX7_remove_8 : decode cX7_remove 8 = .ok (.ifCond .ne 5, 3) := by decide +kernel
theorem dX7_remove_11 : decode cX7_remove 11 = .ok (.iconst 0, 1) := by decide +kernel
theorem dX7_remove_12 : decode cX7_remove 12 = .ok (.ireturn, 1) := by decide +kernel
theorem dX7_remove_13 : decode cX7_remove 13 = .ok (.aload_n 0, 1) := by decide +kernel
theorem dX7_remove_14 : decode cX7_remove 14 = .ok (.getfield 11, 3) := by decide +kernel
theorem dX7_remove_17 : decode cX7_remove 17 = .ok (.iload_n 1, 1) := by decide +kernel
theorem dX7_remove_18 : decode cX7_remove 18 = .ok (.aaload, 1) := by decide +kernel
theorem dX7_remove_19 : decode cX7_remove 19 = .ok (.astore_n 2, 1) := by decide +kernel
theorem dX7_remove_20 : decode cX7_remove 20 = .ok (.iload_n 1, 1) := by decide +kernel
theorem dX7_remove_21 : decode cX7_remove 21 = .ok (.istore_n 3, 1) := by decide +kernel
theorem dX7_remove_22 : decode cX7_remove 22 = .ok (.iload_n 3, 1) := by decide +kernel
theorem dX7_remove_23 : decode cX7_remove 23 = .ok (.iconst 1, 1) := by decide +kernel
theorem dX7_remove_24 : decode cX7_remove 24 = .ok (.iadd, 1) := by decide +kernel
theorem dX7_remove_25 : decode cX7_remove 25 = .ok (.aload_n 0, 1) := by decide +kernel
theorem dX7_remove_26 : decode cX7_remove 26 = .ok (.getfield 21, 3) := by decide +kernel
theorem dX7_remove_29 : decode cX7_remove 29 = .ok (.if_icmp .ge 23, 3) := by decide +kernel
theorem dX7_remove_32 : decode cX7_remove 32 = .ok (.aload_n 0, 1) := by decide +kernel
theorem dX7_remove_33 : decode cX7_remove 33 = .ok (.getfield 11, 3) := by decide +kernel
theorem dX7_remove_36 : decode cX7_remove 36 = .ok (.iload_n 3, 1) := by decide +kernel
theorem dX7_remove_37 : decode cX7_remove 37 = .ok (.aload_n 0, 1) := by decide +kernel
theorem dX7_remove_38 : decode cX7_remove 38 = .ok (.getfield 11, 3) := by decide +kernel
theorem dX7_remove_41 : decode cX7_remove 41 = .ok (.iload_n 3, 1) := by decide +kernel
theorem dX7_remove_42 : decode cX7_remove 42 = .ok (.iconst 1, 1) := by decide +kernel
theorem dX7_remove_43 : decode cX7_remove 43 = .ok (.iadd, 1) := by decide +kernel
theorem dX7_remove_44 : decode cX7_remove 44 = .ok (.aaload, 1) := by decide +kernel
theorem dX7_remove_45 : decode cX7_remove 45 = .ok (.aastore, 1) := by decide +kernel
theorem dX7_remove_46 : decode cX7_remove 46 = .ok (.iinc 3 1, 3) := by decide +kernel
theorem dX7_remove_49 : decode cX7_remove 49 = .ok (.goto (-27), 3) := by decide +kernel
theorem dX7_remove_52 : decode cX7_remove 52 = .ok (.aload_n 0, 1) := by decide +kernel
theorem dX7_remove_53 : decode cX7_remove 53 = .ok (.dup, 1) := by decide +kernel
theorem dX7_remove_54 : decode cX7_remove 54 = .ok (.getfield 21, 3) := by decide +kernel
theorem dX7_remove_57 : decode cX7_remove 57 = .ok (.iconst 1, 1) := by decide +kernel
theorem dX7_remove_58 : decode cX7_remove 58 = .ok (.isub, 1) := by decide +kernel
theorem dX7_remove_59 : decode cX7_remove 59 = .ok (.putfield 21, 3) := by decide +kernel
theorem dX7_remove_62 : decode cX7_remove 62 = .ok (.aload_n 0, 1) := by decide +kernel
theorem dX7_remove_63 : decode cX7_remove 63 = .ok (.getfield 11, 3) := by decide +kernel
theorem dX7_remove_66 : decode cX7_remove 66 = .ok (.aload_n 0, 1) := by decide +kernel
theorem dX7_remove_67 : decode cX7_remove 67 = .ok (.getfield 21, 3) := by decide +kernel
theorem dX7_remove_70 : decode cX7_remove 70 = .ok (.aload_n 2, 1) := by decide +kernel
theorem dX7_remove_71 : decode cX7_remove 71 = .ok (.aastore, 1) := by decide +kernel
theorem dX7_remove_72 : decode cX7_remove 72 = .ok (.iconst 1, 1) := by decide +kernel
theorem dX7_remove_73 : decode cX7_remove 73 = .ok (.ireturn, 1) := by decide +kernel
theorem dX7_hasLike_0 : decode cX7_hasLike 0 = .ok (.iconst 0, 1) := by decide +kernel
theorem dX7_hasLike_1 : decode cX7_hasLike 1 = .ok (.istore_n 2, 1) := by decide +kernel
theorem dX7_hasLike_2 : decode cX7_hasLike 2 = .ok (.iload_n 2, 1) := by decide +kernel
theorem dX7_hasLike_3 : decode cX7_hasLike 3 = .ok (.aload_n 0, 1) := by decide +kernel
theorem dX7_hasLike_4 : decode cX7_hasLike 4 = .ok (.getfield 21, 3) := by decide +kernel
theorem dX7_hasLike_7 : decode cX7_hasLike 7 = .ok (.if_icmp .ge 30, 3) := by decide +kernel
theorem dX7_hasLike_10 : decode cX7_hasLike 10 = .ok (.aload_n 0, 1) := by decide +kernel
theorem dX7_hasLike_11 : decode cX7_hasLike 11 = .ok (.getfield 11, 3) := by decide +kernel
theorem dX7_hasLike_14 : decode cX7_hasLike 14 = .ok (.iload_n 2, 1) := by decide +kernel
theorem dX7_hasLike_15 : decode cX7_hasLike 15 = .ok (.aaload, 1) := by decide +kernel
theorem dX7_hasLike_16 : decode cX7_hasLike 16 = .ok (.getfield 30, 3) := by decide +kernel
theorem dX7_hasLike_19 : decode cX7_hasLike 19 = .ok (.aload_n 1, 1) := by decide +kernel
theorem dX7_hasLike_20 : decode cX7_hasLike 20 = .ok (.getfield 30, 3) := by decide +kernel
theorem dX7_hasLike_23 : decode cX7_hasLike 23 = .ok (.invokevirtual 34, 3) := by decide +kernel
theorem dX7_hasLike_26 : decode cX7_hasLike 26 = .ok (.ifCond .eq 5, 3) := by decide +kernel
theorem dX7_hasLike_29 : decode cX7_hasLike 29 = .ok (.iconst 1, 1) := by decide +kernel
theorem dX7_hasLike_30 : decode cX7_hasLike 30 = .ok (.ireturn, 1) := by decide +kernel
theorem dX7_hasLike_31 : decode cX7_hasLike 31 = .ok (.iinc 2 1, 3) := by decide +kernel
theorem dX7_hasLike_34 : decode cX7_hasLike 34 = .ok (.goto (-32), 3) := by decide +kernel
theorem dX7_hasLike_37 : decode cX7_hasLike 37 = .ok (.iconst 0, 1) := by decide +kernel
theorem dX7_hasLike_38 : decode cX7_hasLike 38 = .ok (.ireturn, 1) := by decide +kernel
theorem dX7_touchThoseThatMet_0 : decode cX7_touchThoseThatMet 0 = .ok (.iconst 0, 1) := by decide +kernel
theorem dX7_touchThoseThatMet_1 : decode cX7_touchThoseThatMet 1 = .ok (.istore_n 2, 1) := by decide +kernel
theorem dX7_touchThoseThatMet_2 : decode cX7_touchThoseThatMet 2 = .ok (.iload_n 2, 1) := by decide +kernel
theorem dX7_touchThoseThatMet_3 : decode cX7_touchThoseThatMet 3 = .ok (.aload_n 0, 1) := by decide +kernel
theorem dX7_touchThoseThatMet_4 : decode cX7_touchThoseThatMet 4 = .ok (.getfield 21, 3) := by decide +kernel
theorem dX7_touchThoseThatMet_7 : decode cX7_touchThoseThatMet 7 = .ok (.if_icmp .ge 45, 3) := by decide +kernel
theorem dX7_touchThoseThatMet_10 : decode cX7_touchThoseThatMet 10 = .ok (.aload_n 0, 1) := by decide +kernel
theorem dX7_touchThoseThatMet_11 : decode cX7_touchThoseThatMet 11 = .ok (.getfield 11, 3) := by decide +kernel
theorem dX7_touchThoseThatMet_14 : decode cX7_touchThoseThatMet 14 = .ok (.iload_n 2, 1) := by decide +kernel
theorem dX7_touchThoseThatMet_15 : decode cX7_touchThoseThatMet 15 = .ok (.aaload, 1) := by decide +kernel
theorem dX7_touchThoseThatMet_16 : decode cX7_touchThoseThatMet 16 = .ok (.dup, 1) := by decide +kernel
theorem dX7_touchThoseThatMet_17 : decode cX7_touchThoseThatMet 17 = .ok (.getfield 40, 3) := by decide +kernel
theorem dX7_touchThoseThatMet_20 : decode cX7_touchThoseThatMet 20 = .ok (.aload_n 0, 1) := by decide +kernel
theorem dX7_touchThoseThatMet_21 : decode cX7_touchThoseThatMet 21 = .ok (.getfield 11, 3) := by decide +kernel
theorem dX7_touchThoseThatMet_24 : decode cX7_touchThoseThatMet 24 = .ok (.iload_n 2, 1) := by decide +kernel
theorem dX7_touchThoseThatMet_25 : decode cX7_touchThoseThatMet 25 = .ok (.aaload, 1) := by decide +kernel
theorem dX7_touchThoseThatMet_26 : decode cX7_touchThoseThatMet 26 = .ok (.getfield 44, 3) := by decide +kernel
theorem dX7_touchThoseThatMet_29 : decode cX7_touchThoseThatMet 29 = .ok (.iload_n 1, 1) := by decide +kernel
theorem dX7_touchThoseThatMet_30 : decode cX7_touchThoseThatMet 30 = .ok (.ishr, 1) := by decide +kernel
theorem dX7_touchThoseThatMet_31 : decode cX7_touchThoseThatMet 31 = .ok (.iconst 1, 1) := by decide +kernel
theorem dX7_touchThoseThatMet_32 : decode cX7_touchThoseThatMet 32 = .ok (.iand, 1) := by decide +kernel
theorem dX7_touchThoseThatMet_33 : decode cX7_touchThoseThatMet 33 = .ok (.iconst 1, 1) := by decide +kernel
theorem dX7_touchThoseThatMet_34 : decode cX7_touchThoseThatMet 34 = .ok (.if_icmp .ne 7, 3) := by decide +kernel
theorem dX7_touchThoseThatMet_37 : decode cX7_touchThoseThatMet 37 = .ok (.iconst 1, 1) := by decide +kernel
theorem dX7_touchThoseThatMet_38 : decode cX7_touchThoseThatMet 38 = .ok (.goto 4, 3) := by decide +kernel
theorem dX7_touchThoseThatMet_41 : decode cX7_touchThoseThatMet 41 = .ok (.iconst 0, 1) := by decide +kernel
theorem dX7_touchThoseThatMet_42 : decode cX7_touchThoseThatMet 42 = .ok (.ior, 1) := by decide +kernel
theorem dX7_touchThoseThatMet_43 : decode cX7_touchThoseThatMet 43 = .ok (.putfield 40, 3) := by decide +kernel
theorem dX7_touchThoseThatMet_46 : decode cX7_touchThoseThatMet 46 = .ok (.iinc 2 1, 3) := by decide +kernel
theorem dX7_touchThoseThatMet_49 : decode cX7_touchThoseThatMet 49 = .ok (.goto (-47), 3) := by decide +kernel
theorem dX7_touchThoseThatMet_52 : decode cX7_touchThoseThatMet 52 = .ok (.return_, 1) := by decide +kernel
theorem dX7_touchCallersOf_0 : decode cX7_touchCallersOf 0 = .ok (.iconst 0, 1) := by decide +kernel
theorem dX7_touchCallersOf_1 : decode cX7_touchCallersOf 1 = .ok (.istore_n 2, 1) := by decide +kernel
theorem dX7_touchCallersOf_2 : decode cX7_touchCallersOf 2 = .ok (.iload_n 2, 1) := by decide +kernel
theorem dX7_touchCallersOf_3 : decode cX7_touchCallersOf 3 = .ok (.aload_n 0, 1) := by decide +kernel
theorem dX7_touchCallersOf_4 : decode cX7_touchCallersOf 4 = .ok (.getfield 21, 3) := by decide +kernel
theorem dX7_touchCallersOf_7 : decode cX7_touchCallersOf 7 = .ok (.if_icmp .ge 36, 3) := by decide +kernel
theorem dX7_touchCallersOf_10 : decode cX7_touchCallersOf 10 = .ok (.aload_n 0, 1) := by decide +kernel
theorem dX7_touchCallersOf_11 : decode cX7_touchCallersOf 11 = .ok (.getfield 11, 3) := by decide +kernel
theorem dX7_touchCallersOf_14 : decode cX7_touchCallersOf 14 = .ok (.iload_n 2, 1) := by decide +kernel
theorem dX7_touchCallersOf_15 : decode cX7_touchCallersOf 15 = .ok (.aaload, 1) := by decide +kernel
theorem dX7_touchCallersOf_16 : decode cX7_touchCallersOf 16 = .ok (.dup, 1) := by decide +kernel
theorem dX7_touchCallersOf_17 : decode cX7_touchCallersOf 17 = .ok (.getfield 40, 3) := by decide +kernel
theorem dX7_touchCallersOf_20 : decode cX7_touchCallersOf 20 = .ok (.aload_n 0, 1) := by decide +kernel
theorem dX7_touchCallersOf_21 : decode cX7_touchCallersOf 21 = .ok (.getfield 11, 3) := by decide +kernel
theorem dX7_touchCallersOf_24 : decode cX7_touchCallersOf 24 = .ok (.iload_n 2, 1) := by decide +kernel
theorem dX7_touchCallersOf_25 : decode cX7_touchCallersOf 25 = .ok (.aaload, 1) := by decide +kernel
theorem dX7_touchCallersOf_26 : decode cX7_touchCallersOf 26 = .ok (.getfield 30, 3) := by decide +kernel
theorem dX7_touchCallersOf_29 : decode cX7_touchCallersOf 29 = .ok (.iload_n 1, 1) := by decide +kernel
theorem dX7_touchCallersOf_30 : decode cX7_touchCallersOf 30 = .ok (.invokevirtual 47, 3) := by decide +kernel
theorem dX7_touchCallersOf_33 : decode cX7_touchCallersOf 33 = .ok (.ior, 1) := by decide +kernel
theorem dX7_touchCallersOf_34 : decode cX7_touchCallersOf 34 = .ok (.putfield 40, 3) := by decide +kernel
theorem dX7_touchCallersOf_37 : decode cX7_touchCallersOf 37 = .ok (.iinc 2 1, 3) := by decide +kernel
theorem dX7_touchCallersOf_40 : decode cX7_touchCallersOf 40 = .ok (.goto (-38), 3) := by decide +kernel
theorem dX7_touchCallersOf_43 : decode cX7_touchCallersOf 43 = .ok (.return_, 1) := by decide +kernel
theorem dX7_touchedOnes_0 : decode cX7_touchedOnes 0 = .ok (.iconst 0, 1) := by decide +kernel
theorem dX7_touchedOnes_1 : decode cX7_touchedOnes 1 = .ok (.istore_n 1, 1) := by decide +kernel
theorem dX7_touchedOnes_2 : decode cX7_touchedOnes 2 = .ok (.iconst 0, 1) := by decide +kernel
theorem dX7_touchedOnes_3 : decode cX7_touchedOnes 3 = .ok (.istore_n 2, 1) := by decide +kernel
theorem dX7_touchedOnes_4 : decode cX7_touchedOnes 4 = .ok (.iload_n 2, 1) := by decide +kernel
theorem dX7_touchedOnes_5 : decode cX7_touchedOnes 5 = .ok (.aload_n 0, 1) := by decide +kernel
theorem dX7_touchedOnes_6 : decode cX7_touchedOnes 6 = .ok (.getfield 21, 3) := by decide +kernel
theorem dX7_touchedOnes_9 : decode cX7_touchedOnes 9 = .ok (.if_icmp .ge 29, 3) := by decide +kernel
theorem dX7_touchedOnes_12 : decode cX7_touchedOnes 12 = .ok (.iload_n 1, 1) := by decide +kernel
theorem dX7_touchedOnes_13 : decode cX7_touchedOnes 13 = .ok (.aload_n 0, 1) := by decide +kernel
theorem dX7_touchedOnes_14 : decode cX7_touchedOnes 14 = .ok (.getfield 11, 3) := by decide +kernel
theorem dX7_touchedOnes_17 : decode cX7_touchedOnes 17 = .ok (.iload_n 2, 1) := by decide +kernel
theorem dX7_touchedOnes_18 : decode cX7_touchedOnes 18 = .ok (.aaload, 1) := by decide +kernel
theorem dX7_touchedOnes_19 : decode cX7_touchedOnes 19 = .ok (.getfield 40, 3) := by decide +kernel
theorem dX7_touchedOnes_22 : decode cX7_touchedOnes 22 = .ok (.ifCond .eq 7, 3) := by decide +kernel
theorem dX7_touchedOnes_25 : decode cX7_touchedOnes 25 = .ok (.iconst 1, 1) := by decide +kernel
theorem dX7_touchedOnes_26 : decode cX7_touchedOnes 26 = .ok (.goto 4, 3) := by decide +kernel
theorem dX7_touchedOnes_29 : decode cX7_touchedOnes 29 = .ok (.iconst 0, 1) := by decide +kernel
theorem dX7_touchedOnes_30 : decode cX7_touchedOnes 30 = .ok (.iadd, 1) := by decide +kernel
theorem dX7_touchedOnes_31 : decode cX7_touchedOnes 31 = .ok (.istore_n 1, 1) := by decide +kernel
theorem dX7_touchedOnes_32 : decode cX7_touchedOnes 32 = .ok (.iinc 2 1, 3) := by decide +kernel
theorem dX7_touchedOnes_35 : decode cX7_touchedOnes 35 = .ok (.goto (-31), 3) := by decide +kernel
theorem dX7_touchedOnes_38 : decode cX7_touchedOnes 38 = .ok (.iload_n 1, 1) := by decide +kernel
theorem dX7_touchedOnes_39 : decode cX7_touchedOnes 39 = .ok (.ireturn, 1) := by decide +kernel
theorem dX7_brokenOnes_0 : decode cX7_brokenOnes 0 = .ok (.iconst 0, 1) := by decide +kernel
theorem dX7_brokenOnes_1 : decode cX7_brokenOnes 1 = .ok (.istore_n 1, 1) := by decide +kernel
theorem dX7_brokenOnes_2 : decode cX7_brokenOnes 2 = .ok (.iconst 0, 1) := by decide +kernel
theorem dX7_brokenOnes_3 : decode cX7_brokenOnes 3 = .ok (.istore_n 2, 1) := by decide +kernel
theorem dX7_brokenOnes_4 : decode cX7_brokenOnes 4 = .ok (.iload_n 2, 1) := by decide +kernel
theorem dX7_brokenOnes_5 : decode cX7_brokenOnes 5 = .ok (.aload_n 0, 1) := by decide +kernel
theorem dX7_brokenOnes_6 : decode cX7_brokenOnes 6 = .ok (.getfield 21, 3) := by decide +kernel
theorem dX7_brokenOnes_9 : decode cX7_brokenOnes 9 = .ok (.if_icmp .ge 29, 3) := by decide +kernel
theorem dX7_brokenOnes_12 : decode cX7_brokenOnes 12 = .ok (.iload_n 1, 1) := by decide +kernel
theorem dX7_brokenOnes_13 : decode cX7_brokenOnes 13 = .ok (.aload_n 0, 1) := by decide +kernel
theorem dX7_brokenOnes_14 : decode cX7_brokenOnes 14 = .ok (.getfield 11, 3) := by decide +kernel
theorem dX7_brokenOnes_17 : decode cX7_brokenOnes 17 = .ok (.iload_n 2, 1) := by decide +kernel
theorem dX7_brokenOnes_18 : decode cX7_brokenOnes 18 = .ok (.aaload, 1) := by decide +kernel
theorem dX7_brokenOnes_19 : decode cX7_brokenOnes 19 = .ok (.getfield 51, 3) := by decide +kernel
theorem dX7_brokenOnes_22 : decode cX7_brokenOnes 22 = .ok (.ifCond .eq 7, 3) := by decide +kernel
theorem dX7_brokenOnes_25 : decode cX7_brokenOnes 25 = .ok (.iconst 1, 1) := by decide +kernel
theorem dX7_brokenOnes_26 : decode cX7_brokenOnes 26 = .ok (.goto 4, 3) := by decide +kernel
theorem dX7_brokenOnes_29 : decode cX7_brokenOnes 29 = .ok (.iconst 0, 1) := by decide +kernel
theorem dX7_brokenOnes_30 : decode cX7_brokenOnes 30 = .ok (.iadd, 1) := by decide +kernel
theorem dX7_brokenOnes_31 : decode cX7_brokenOnes 31 = .ok (.istore_n 1, 1) := by decide +kernel
theorem dX7_brokenOnes_32 : decode cX7_brokenOnes 32 = .ok (.iinc 2 1, 3) := by decide +kernel
theorem dX7_brokenOnes_35 : decode cX7_brokenOnes 35 = .ok (.goto (-31), 3) := by decide +kernel
theorem dX7_brokenOnes_38 : decode cX7_brokenOnes 38 = .ok (.iload_n 1, 1) := by decide +kernel
theorem dX7_brokenOnes_39 : decode cX7_brokenOnes 39 = .ok (.ireturn, 1) := by decide +kernel
theorem dX7_leastHeap_0 : decode cX7_leastHeap 0 = .ok (.iconst 0, 1) := by decide +kernel
theorem dX7_leastHeap_1 : decode cX7_leastHeap 1 = .ok (.istore_n 2, 1) := by decide +kernel
end
section
theorem dX7_leastHeap_2 : decode cX7_leastHeap 2 = .ok (.iload_n 2, 1) := by decide +kernel
theorem dX7_leastHeap_3 : decode cX7_leastHeap 3 = .ok (.aload_n 0, 1) := by decide +kernel
theorem dX7_leastHeap_4 : decode cX7_leastHeap 4 = .ok (.getfield 21, 3) := by decide +kernel
theorem dX7_leastHeap_7 : decode cX7_leastHeap 7 = .ok (.if_icmp .ge 28, 3) := by decide +kernel
theorem dX7_leastHeap_10 : decode cX7_leastHeap 10 = .ok (.aload_n 0, 1) := by decide +kernel
theorem dX7_leastHeap_11 : decode cX7_leastHeap 11 = .ok (.getfield 17, 3) := by decide +kernel
theorem dX7_leastHeap_14 : decode cX7_leastHeap 14 = .ok (.iload_n 2, 1) := by decide +kernel
theorem dX7_leastHeap_15 : decode cX7_leastHeap 15 = .ok (.aload_n 1, 1) := by decide +kernel
theorem dX7_leastHeap_16 : decode cX7_leastHeap 16 = .ok (.aload_n 0, 1) := by decide +kernel
theorem dX7_leastHeap_17 : decode cX7_leastHeap 17 = .ok (.getfield 11, 3) := by decide +kernel
theorem dX7_leastHeap_20 : decode cX7_leastHeap 20 = .ok (.iload_n 2, 1) := by decide +kernel
theorem dX7_leastHeap_21 : decode cX7_leastHeap 21 = .ok (.aaload, 1) := by decide +kernel
theorem dX7_leastHeap_22 : decode cX7_leastHeap 22 = .ok (.getfield 30, 3) := by decide +kernel
theorem dX7_leastHeap_25 : decode cX7_leastHeap 25 = .ok (.invokevirtual 54, 3) := by decide +kernel
theorem dX7_leastHeap_28 : decode cX7_leastHeap 28 = .ok (.iastore, 1) := by decide +kernel
theorem dX7_leastHeap_29 : decode cX7_leastHeap 29 = .ok (.iinc 2 1, 3) := by decide +kernel
theorem dX7_leastHeap_32 : decode cX7_leastHeap 32 = .ok (.goto (-30), 3) := by decide +kernel
theorem dX7_leastHeap_35 : decode cX7_leastHeap 35 = .ok (.iconst 1, 1) := by decide +kernel
theorem dX7_leastHeap_36 : decode cX7_leastHeap 36 = .ok (.aload_n 0, 1) := by decide +kernel
theorem dX7_leastHeap_37 : decode cX7_leastHeap 37 = .ok (.getfield 21, 3) := by decide +kernel
theorem dX7_leastHeap_40 : decode cX7_leastHeap 40 = .ok (.ishl, 1) := by decide +kernel
theorem dX7_leastHeap_41 : decode cX7_leastHeap 41 = .ok (.iconst 1, 1) := by decide +kernel
theorem dX7_leastHeap_42 : decode cX7_leastHeap 42 = .ok (.isub, 1) := by decide +kernel
theorem dX7_leastHeap_43 : decode cX7_leastHeap 43 = .ok (.istore_n 2, 1) := by decide +kernel
theorem dX7_leastHeap_44 : decode cX7_leastHeap 44 = .ok (.aload_n 0, 1) := by decide +kernel
theorem dX7_leastHeap_45 : decode cX7_leastHeap 45 = .ok (.iload_n 2, 1) := by decide +kernel
theorem dX7_leastHeap_46 : decode cX7_leastHeap 46 = .ok (.invokevirtual 59, 3) := by decide +kernel
theorem dX7_leastHeap_49 : decode cX7_leastHeap 49 = .ok (.istore_n 3, 1) := by decide +kernel
theorem dX7_leastHeap_50 : decode cX7_leastHeap 50 = .ok (.iconst 0, 1) := by decide +kernel
theorem dX7_leastHeap_51 : decode cX7_leastHeap 51 = .ok (.istore 4, 2) := by decide +kernel
theorem dX7_leastHeap_53 : decode cX7_leastHeap 53 = .ok (.iload 4, 2) := by decide +kernel
theorem dX7_leastHeap_55 : decode cX7_leastHeap 55 = .ok (.iconst 1, 1) := by decide +kernel
theorem dX7_leastHeap_56 : decode cX7_leastHeap 56 = .ok (.aload_n 0, 1) := by decide +kernel
theorem dX7_leastHeap_57 : decode cX7_leastHeap 57 = .ok (.getfield 21, 3) := by decide +kernel
theorem dX7_leastHeap_60 : decode cX7_leastHeap 60 = .ok (.ishl, 1) := by decide +kernel
theorem dX7_leastHeap_61 : decode cX7_leastHeap 61 = .ok (.if_icmp .ge 34, 3) := by decide +kernel
theorem dX7_leastHeap_64 : decode cX7_leastHeap 64 = .ok (.iload 4, 2) := by decide +kernel
theorem dX7_leastHeap_66 : decode cX7_leastHeap 66 = .ok (.invokestatic 63, 3) := by decide +kernel
theorem dX7_leastHeap_69 : decode cX7_leastHeap 69 = .ok (.iload_n 2, 1) := by decide +kernel
theorem dX7_leastHeap_70 : decode cX7_leastHeap 70 = .ok (.invokestatic 63, 3) := by decide +kernel
theorem dX7_leastHeap_73 : decode cX7_leastHeap 73 = .ok (.if_icmp .ge 16, 3) := by decide +kernel
theorem dX7_leastHeap_76 : decode cX7_leastHeap 76 = .ok (.aload_n 0, 1) := by decide +kernel
theorem dX7_leastHeap_77 : decode cX7_leastHeap 77 = .ok (.iload 4, 2) := by decide +kernel
theorem dX7_leastHeap_79 : decode cX7_leastHeap 79 = .ok (.invokevirtual 59, 3) := by decide +kernel
theorem dX7_leastHeap_82 : decode cX7_leastHeap 82 = .ok (.iload_n 3, 1) := by decide +kernel
theorem dX7_leastHeap_83 : decode cX7_leastHeap 83 = .ok (.if_icmp .ne 6, 3) := by decide +kernel
theorem dX7_leastHeap_86 : decode cX7_leastHeap 86 = .ok (.iload 4, 2) := by decide +kernel
theorem dX7_leastHeap_88 : decode cX7_leastHeap 88 = .ok (.istore_n 2, 1) := by decide +kernel
theorem dX7_leastHeap_89 : decode cX7_leastHeap 89 = .ok (.iinc 4 1, 3) := by decide +kernel
theorem dX7_leastHeap_92 : decode cX7_leastHeap 92 = .ok (.goto (-39), 3) := by decide +kernel
theorem dX7_leastHeap_95 : decode cX7_leastHeap 95 = .ok (.iload_n 2, 1) := by decide +kernel
theorem dX7_leastHeap_96 : decode cX7_leastHeap 96 = .ok (.ireturn, 1) := by decide +kernel
theorem dX7_metByHeap_0 : decode cX7_metByHeap 0 = .ok (.iconst 0, 1) := by decide +kernel
theorem dX7_metByHeap_1 : decode cX7_metByHeap 1 = .ok (.istore_n 2, 1) := by decide +kernel
theorem dX7_metByHeap_2 : decode cX7_metByHeap 2 = .ok (.iconst 0, 1) := by decide +kernel
theorem dX7_metByHeap_3 : decode cX7_metByHeap 3 = .ok (.istore_n 3, 1) := by decide +kernel
theorem dX7_metByHeap_4 : decode cX7_metByHeap 4 = .ok (.iload_n 3, 1) := by decide +kernel
theorem dX7_metByHeap_5 : decode cX7_metByHeap 5 = .ok (.aload_n 0, 1) := by decide +kernel
theorem dX7_metByHeap_6 : decode cX7_metByHeap 6 = .ok (.getfield 21, 3) := by decide +kernel
theorem dX7_metByHeap_9 : decode cX7_metByHeap 9 = .ok (.if_icmp .ge 31, 3) := by decide +kernel
theorem dX7_metByHeap_12 : decode cX7_metByHeap 12 = .ok (.iload_n 2, 1) := by decide +kernel
theorem dX7_metByHeap_13 : decode cX7_metByHeap 13 = .ok (.iload_n 1, 1) := by decide +kernel
theorem dX7_metByHeap_14 : decode cX7_metByHeap 14 = .ok (.iload_n 3, 1) := by decide +kernel
theorem dX7_metByHeap_15 : decode cX7_metByHeap 15 = .ok (.ishr, 1) := by decide +kernel
theorem dX7_metByHeap_16 : decode cX7_metByHeap 16 = .ok (.iconst 1, 1) := by decide +kernel
theorem dX7_metByHeap_17 : decode cX7_metByHeap 17 = .ok (.iand, 1) := by decide +kernel
theorem dX7_metByHeap_18 : decode cX7_metByHeap 18 = .ok (.iconst 1, 1) := by decide +kernel
theorem dX7_metByHeap_19 : decode cX7_metByHeap 19 = .ok (.if_icmp .ne 12, 3) := by decide +kernel
theorem dX7_metByHeap_22 : decode cX7_metByHeap 22 = .ok (.aload_n 0, 1) := by decide +kernel
theorem dX7_metByHeap_23 : decode cX7_metByHeap 23 = .ok (.getfield 17, 3) := by decide +kernel
theorem dX7_metByHeap_26 : decode cX7_metByHeap 26 = .ok (.iload_n 3, 1) := by decide +kernel
theorem dX7_metByHeap_27 : decode cX7_metByHeap 27 = .ok (.iaload, 1) := by decide +kernel
theorem dX7_metByHeap_28 : decode cX7_metByHeap 28 = .ok (.goto 4, 3) := by decide +kernel
theorem dX7_metByHeap_31 : decode cX7_metByHeap 31 = .ok (.iconst 0, 1) := by decide +kernel
theorem dX7_metByHeap_32 : decode cX7_metByHeap 32 = .ok (.ior, 1) := by decide +kernel
theorem dX7_metByHeap_33 : decode cX7_metByHeap 33 = .ok (.istore_n 2, 1) := by decide +kernel
theorem dX7_metByHeap_34 : decode cX7_metByHeap 34 = .ok (.iinc 3 1, 3) := by decide +kernel
theorem dX7_metByHeap_37 : decode cX7_metByHeap 37 = .ok (.goto (-33), 3) := by decide +kernel
theorem dX7_metByHeap_40 : decode cX7_metByHeap 40 = .ok (.iload_n 2, 1) := by decide +kernel
theorem dX7_metByHeap_41 : decode cX7_metByHeap 41 = .ok (.ireturn, 1) := by decide +kernel
theorem dX8_init_0 : decode cX8_init 0 = .ok (.aload_n 0, 1) := by decide +kernel
theorem dX8_init_1 : decode cX8_init 1 = .ok (.invokespecial 3, 3) := by decide +kernel
theorem dX8_init_4 : decode cX8_init 4 = .ok (.aload_n 0, 1) := by decide +kernel
theorem dX8_init_5 : decode cX8_init 5 = .ok (.new 9, 3) := by decide +kernel
theorem dX8_init_8 : decode cX8_init 8 = .ok (.dup, 1) := by decide +kernel
theorem dX8_init_9 : decode cX8_init 9 = .ok (.invokespecial 11, 3) := by decide +kernel
theorem dX8_init_12 : decode cX8_init 12 = .ok (.putfield 12, 3) := by decide +kernel
theorem dX8_init_15 : decode cX8_init 15 = .ok (.aload_n 0, 1) := by decide +kernel
theorem dX8_init_16 : decode cX8_init 16 = .ok (.new 16, 3) := by decide +kernel
theorem dX8_init_19 : decode cX8_init 19 = .ok (.dup, 1) := by decide +kernel
theorem dX8_init_20 : decode cX8_init 20 = .ok (.invokespecial 18, 3) := by decide +kernel
theorem dX8_init_23 : decode cX8_init 23 = .ok (.putfield 19, 3) := by decide +kernel
theorem dX8_init_26 : decode cX8_init 26 = .ok (.aload_n 0, 1) := by decide +kernel
theorem dX8_init_27 : decode cX8_init 27 = .ok (.new 23, 3) := by decide +kernel
theorem dX8_init_30 : decode cX8_init 30 = .ok (.dup, 1) := by decide +kernel
theorem dX8_init_31 : decode cX8_init 31 = .ok (.invokespecial 25, 3) := by decide +kernel
theorem dX8_init_34 : decode cX8_init 34 = .ok (.putfield 26, 3) := by decide +kernel
theorem dX8_init_37 : decode cX8_init 37 = .ok (.aload_n 0, 1) := by decide +kernel
theorem dX8_init_38 : decode cX8_init 38 = .ok (.new 30, 3) := by decide +kernel
theorem dX8_init_41 : decode cX8_init 41 = .ok (.dup, 1) := by decide +kernel
theorem dX8_init_42 : decode cX8_init 42 = .ok (.aload_n 0, 1) := by decide +kernel
theorem dX8_init_43 : decode cX8_init 43 = .ok (.getfield 12, 3) := by decide +kernel
theorem dX8_init_46 : decode cX8_init 46 = .ok (.invokespecial 32, 3) := by decide +kernel
theorem dX8_init_49 : decode cX8_init 49 = .ok (.putfield 35, 3) := by decide +kernel
theorem dX8_init_52 : decode cX8_init 52 = .ok (.aload_n 0, 1) := by decide +kernel
theorem dX8_init_53 : decode cX8_init 53 = .ok (.new 39, 3) := by decide +kernel
theorem dX8_init_56 : decode cX8_init 56 = .ok (.dup, 1) := by decide +kernel
theorem dX8_init_57 : decode cX8_init 57 = .ok (.aload_n 0, 1) := by decide +kernel
theorem dX8_init_58 : decode cX8_init 58 = .ok (.getfield 12, 3) := by decide +kernel
theorem dX8_init_61 : decode cX8_init 61 = .ok (.invokespecial 41, 3) := by decide +kernel
theorem dX8_init_64 : decode cX8_init 64 = .ok (.putfield 42, 3) := by decide +kernel
theorem dX8_init_67 : decode cX8_init 67 = .ok (.return_, 1) := by decide +kernel
theorem dX8_branch_0 : decode cX8_branch 0 = .ok (.aload_n 0, 1) := by decide +kernel
theorem dX8_branch_1 : decode cX8_branch 1 = .ok (.getfield 12, 3) := by decide +kernel
theorem dX8_branch_4 : decode cX8_branch 4 = .ok (.iload_n 1, 1) := by decide +kernel
theorem dX8_branch_5 : decode cX8_branch 5 = .ok (.invokevirtual 46, 3) := by decide +kernel
theorem dX8_branch_8 : decode cX8_branch 8 = .ok (.ifCond .eq 13, 3) := by decide +kernel
theorem dX8_branch_11 : decode cX8_branch 11 = .ok (.iload_n 2, 1) := by decide +kernel
theorem dX8_branch_12 : decode cX8_branch 12 = .ok (.iload_n 3, 1) := by decide +kernel
theorem dX8_branch_13 : decode cX8_branch 13 = .ok (.iload 4, 2) := by decide +kernel
theorem dX8_branch_15 : decode cX8_branch 15 = .ok (.invokestatic 50, 3) := by decide +kernel
theorem dX8_branch_18 : decode cX8_branch 18 = .ok (.ifCond .ne 5, 3) := by decide +kernel
theorem dX8_branch_21 : decode cX8_branch 21 = .ok (.iconst (-1), 1) := by decide +kernel
theorem dX8_branch_22 : decode cX8_branch 22 = .ok (.ireturn, 1) := by decide +kernel
theorem dX8_branch_23 : decode cX8_branch 23 = .ok (.aload_n 0, 1) := by decide +kernel
theorem dX8_branch_24 : decode cX8_branch 24 = .ok (.getfield 26, 3) := by decide +kernel
theorem dX8_branch_27 : decode cX8_branch 27 = .ok (.iload_n 1, 1) := by decide +kernel
theorem dX8_branch_28 : decode cX8_branch 28 = .ok (.invokevirtual 56, 3) := by decide +kernel
theorem dX8_branch_31 : decode cX8_branch 31 = .ok (.aload_n 0, 1) := by decide +kernel
theorem dX8_branch_32 : decode cX8_branch 32 = .ok (.getfield 12, 3) := by decide +kernel
theorem dX8_branch_35 : decode cX8_branch 35 = .ok (.iload_n 1, 1) := by decide +kernel
theorem dX8_branch_36 : decode cX8_branch 36 = .ok (.new 51, 3) := by decide +kernel
theorem dX8_branch_39 : decode cX8_branch 39 = .ok (.dup, 1) := by decide +kernel
theorem dX8_branch_40 : decode cX8_branch 40 = .ok (.iload_n 2, 1) := by decide +kernel
theorem dX8_branch_41 : decode cX8_branch 41 = .ok (.iload_n 3, 1) := by decide +kernel
theorem dX8_branch_42 : decode cX8_branch 42 = .ok (.iload 4, 2) := by decide +kernel
theorem dX8_branch_44 : decode cX8_branch 44 = .ok (.invokespecial 60, 3) := by decide +kernel
theorem dX8_branch_47 : decode cX8_branch 47 = .ok (.invokevirtual 63, 3) := by decide +kernel
theorem dX8_branch_50 : decode cX8_branch 50 = .ok (.ireturn, 1) := by decide +kernel
theorem dX8_change_0 : decode cX8_change 0 = .ok (.aload_n 0, 1) := by decide +kernel
theorem dX8_change_1 : decode cX8_change 1 = .ok (.getfield 12, 3) := by decide +kernel
theorem dX8_change_4 : decode cX8_change 4 = .ok (.iload_n 1, 1) := by decide +kernel
theorem dX8_change_5 : decode cX8_change 5 = .ok (.invokevirtual 67, 3) := by decide +kernel
theorem dX8_change_8 : decode cX8_change 8 = .ok (.ifCond .eq 13, 3) := by decide +kernel
theorem dX8_change_11 : decode cX8_change 11 = .ok (.iload_n 2, 1) := by decide +kernel
theorem dX8_change_12 : decode cX8_change 12 = .ok (.iload_n 3, 1) := by decide +kernel
theorem dX8_change_13 : decode cX8_change 13 = .ok (.iload 4, 2) := by decide +kernel
theorem dX8_change_15 : decode cX8_change 15 = .ok (.invokestatic 50, 3) := by decide +kernel
theorem dX8_change_18 : decode cX8_change 18 = .ok (.ifCond .ne 5, 3) := by decide +kernel
theorem dX8_change_21 : decode cX8_change 21 = .ok (.iconst 0, 1) := by decide +kernel
theorem dX8_change_22 : decode cX8_change 22 = .ok (.ireturn, 1) := by decide +kernel
theorem dX8_change_23 : decode cX8_change 23 = .ok (.aload_n 0, 1) := by decide +kernel
theorem dX8_change_24 : decode cX8_change 24 = .ok (.getfield 26, 3) := by decide +kernel
theorem dX8_change_27 : decode cX8_change 27 = .ok (.iload_n 1, 1) := by decide +kernel
theorem dX8_change_28 : decode cX8_change 28 = .ok (.invokevirtual 70, 3) := by decide +kernel
theorem dX8_change_31 : decode cX8_change 31 = .ok (.aload_n 0, 1) := by decide +kernel
theorem dX8_change_32 : decode cX8_change 32 = .ok (.getfield 12, 3) := by decide +kernel
theorem dX8_change_35 : decode cX8_change 35 = .ok (.iload_n 1, 1) := by decide +kernel
theorem dX8_change_36 : decode cX8_change 36 = .ok (.new 51, 3) := by decide +kernel
theorem dX8_change_39 : decode cX8_change 39 = .ok (.dup, 1) := by decide +kernel
theorem dX8_change_40 : decode cX8_change 40 = .ok (.iload_n 2, 1) := by decide +kernel
theorem dX8_change_41 : decode cX8_change 41 = .ok (.iload_n 3, 1) := by decide +kernel
theorem dX8_change_42 : decode cX8_change 42 = .ok (.iload 4, 2) := by decide +kernel
theorem dX8_change_44 : decode cX8_change 44 = .ok (.invokespecial 60, 3) := by decide +kernel
theorem dX8_change_47 : decode cX8_change 47 = .ok (.invokevirtual 73, 3) := by decide +kernel
theorem dX8_change_50 : decode cX8_change 50 = .ok (.iconst 1, 1) := by decide +kernel
theorem dX8_change_51 : decode cX8_change 51 = .ok (.ireturn, 1) := by decide +kernel
theorem dX8_call_0 : decode cX8_call 0 = .ok (.iload_n 1, 1) := by decide +kernel
theorem dX8_call_1 : decode cX8_call 1 = .ok (.bipush 6, 2) := by decide +kernel
theorem dX8_call_3 : decode cX8_call 3 = .ok (.invokestatic 77, 3) := by decide +kernel
theorem dX8_call_6 : decode cX8_call 6 = .ok (.ifCond .eq 12, 3) := by decide +kernel
theorem dX8_call_9 : decode cX8_call 9 = .ok (.iload_n 2, 1) := by decide +kernel
theorem dX8_call_10 : decode cX8_call 10 = .ok (.bipush 16, 2) := by decide +kernel
theorem dX8_call_12 : decode cX8_call 12 = .ok (.invokestatic 77, 3) := by decide +kernel
theorem dX8_call_15 : decode cX8_call 15 = .ok (.ifCond .ne 5, 3) := by decide +kernel
theorem dX8_call_18 : decode cX8_call 18 = .ok (.iconst (-1), 1) := by decide +kernel
theorem dX8_call_19 : decode cX8_call 19 = .ok (.ireturn, 1) := by decide +kernel
theorem dX8_call_20 : decode cX8_call 20 = .ok (.aload_n 0, 1) := by decide +kernel
theorem dX8_call_21 : decode cX8_call 21 = .ok (.getfield 19, 3) := by decide +kernel
theorem dX8_call_24 : decode cX8_call 24 = .ok (.iload_n 1, 1) := by decide +kernel
theorem dX8_call_25 : decode cX8_call 25 = .ok (.iload_n 2, 1) := by decide +kernel
theorem dX8_call_26 : decode cX8_call 26 = .ok (.invokestatic 81, 3) := by decide +kernel
theorem dX8_call_29 : decode cX8_call 29 = .ok (.aload_n 0, 1) := by decide +kernel
theorem dX8_call_30 : decode cX8_call 30 = .ok (.getfield 12, 3) := by decide +kernel
theorem dX8_call_33 : decode cX8_call 33 = .ok (.invokevirtual 85, 3) := by decide +kernel
theorem dX8_call_36 : decode cX8_call 36 = .ok (.ireturn, 1) := by decide +kernel
theorem dX8_fresh_0 : decode cX8_fresh 0 = .ok (.aload_n 0, 1) := by decide +kernel
theorem dX8_fresh_1 : decode cX8_fresh 1 = .ok (.getfield 19, 3) := by decide +kernel
theorem dX8_fresh_4 : decode cX8_fresh 4 = .ok (.invokevirtual 88, 3) := by decide +kernel
theorem dX8_fresh_7 : decode cX8_fresh 7 = .ok (.ireturn, 1) := by decide +kernel
theorem dX8_logged_0 : decode cX8_logged 0 = .ok (.aload_n 0, 1) := by decide +kernel
theorem dX8_logged_1 : decode cX8_logged 1 = .ok (.getfield 19, 3) := by decide +kernel
theorem dX8_logged_4 : decode cX8_logged 4 = .ok (.iload_n 1, 1) := by decide +kernel
theorem dX8_logged_5 : decode cX8_logged 5 = .ok (.iload_n 2, 1) := by decide +kernel
theorem dX8_logged_6 : decode cX8_logged 6 = .ok (.invokevirtual 92, 3) := by decide +kernel
theorem dX8_logged_9 : decode cX8_logged 9 = .ok (.ireturn, 1) := by decide +kernel
theorem dX8_make_0 : decode cX8_make 0 = .ok (.aload_n 0, 1) := by decide +kernel
theorem dX8_make_1 : decode cX8_make 1 = .ok (.getfield 26, 3) := by decide +kernel
theorem dX8_make_4 : decode cX8_make 4 = .ok (.invokevirtual 95, 3) := by decide +kernel
theorem dX8_make_7 : decode cX8_make 7 = .ok (.astore_n 2, 1) := by decide +kernel
theorem dX8_make_8 : decode cX8_make 8 = .ok (.aload_n 2, 1) := by decide +kernel
theorem dX8_make_9 : decode cX8_make 9 = .ok (.ifnull 17, 3) := by decide +kernel
theorem dX8_make_12 : decode cX8_make 12 = .ok (.iload_n 1, 1) := by decide +kernel
theorem dX8_make_13 : decode cX8_make 13 = .ok (.aload_n 0, 1) := by decide +kernel
theorem dX8_make_14 : decode cX8_make 14 = .ok (.getfield 19, 3) := by decide +kernel
theorem dX8_make_17 : decode cX8_make 17 = .ok (.invokevirtual 99, 3) := by decide +kernel
theorem dX8_make_20 : decode cX8_make 20 = .ok (.invokestatic 77, 3) := by decide +kernel
theorem dX8_make_23 : decode cX8_make 23 = .ok (.ifCond .ne 5, 3) := by decide +kernel
theorem dX8_make_26 : decode cX8_make 26 = .ok (.iconst (-1), 1) := by decide +kernel
theorem dX8_make_27 : decode cX8_make 27 = .ok (.ireturn, 1) := by decide +kernel
theorem dX8_make_28 : decode cX8_make 28 = .ok (.aload_n 2, 1) := by decide +kernel
theorem dX8_make_29 : decode cX8_make 29 = .ok (.getfield 102, 3) := by decide +kernel
theorem dX8_make_32 : decode cX8_make 32 = .ok (.aload_n 0, 1) := by decide +kernel
theorem dX8_make_33 : decode cX8_make 33 = .ok (.getfield 19, 3) := by decide +kernel
theorem dX8_make_36 : decode cX8_make 36 = .ok (.getfield 108, 3) := by decide +kernel
theorem dX8_make_39 : decode cX8_make 39 = .ok (.iload_n 1, 1) := by decide +kernel
theorem dX8_make_40 : decode cX8_make 40 = .ok (.iconst 1, 1) := by decide +kernel
theorem dX8_make_41 : decode cX8_make 41 = .ok (.iadd, 1) := by decide +kernel
theorem dX8_make_42 : decode cX8_make 42 = .ok (.invokevirtual 109, 3) := by decide +kernel
theorem dX8_make_45 : decode cX8_make 45 = .ok (.aload_n 0, 1) := by decide +kernel
theorem dX8_make_46 : decode cX8_make 46 = .ok (.getfield 35, 3) := by decide +kernel
theorem dX8_make_49 : decode cX8_make 49 = .ok (.aload_n 2, 1) := by decide +kernel
theorem dX8_make_50 : decode cX8_make 50 = .ok (.getfield 102, 3) := by decide +kernel
theorem dX8_make_53 : decode cX8_make 53 = .ok (.invokevirtual 115, 3) := by decide +kernel
theorem dX8_make_56 : decode cX8_make 56 = .ok (.aload_n 0, 1) := by decide +kernel
theorem dX8_make_57 : decode cX8_make 57 = .ok (.getfield 42, 3) := by decide +kernel
theorem dX8_make_60 : decode cX8_make 60 = .ok (.aload_n 2, 1) := by decide +kernel
theorem dX8_make_61 : decode cX8_make 61 = .ok (.getfield 102, 3) := by decide +kernel
theorem dX8_make_64 : decode cX8_make 64 = .ok (.aload_n 0, 1) := by decide +kernel
theorem dX8_make_65 : decode cX8_make 65 = .ok (.getfield 35, 3) := by decide +kernel
theorem dX8_make_68 : decode cX8_make 68 = .ok (.invokevirtual 119, 3) := by decide +kernel
theorem dX8_make_71 : decode cX8_make 71 = .ok (.aload_n 0, 1) := by decide +kernel
theorem dX8_make_72 : decode cX8_make 72 = .ok (.getfield 35, 3) := by decide +kernel
theorem dX8_make_75 : decode cX8_make 75 = .ok (.invokevirtual 122, 3) := by decide +kernel
theorem dX8_make_78 : decode cX8_make 78 = .ok (.invokevirtual 125, 3) := by decide +kernel
theorem dX8_make_81 : decode cX8_make 81 = .ok (.aload_n 0, 1) := by decide +kernel
theorem dX8_make_82 : decode cX8_make 82 = .ok (.getfield 26, 3) := by decide +kernel
theorem dX8_make_85 : decode cX8_make 85 = .ok (.aload_n 2, 1) := by decide +kernel
theorem dX8_make_86 : decode cX8_make 86 = .ok (.invokevirtual 129, 3) := by decide +kernel
theorem dX8_make_89 : decode cX8_make 89 = .ok (.ifCond .eq 5, 3) := by decide +kernel
theorem dX8_make_92 : decode cX8_make 92 = .ok (.iconst (-1), 1) := by decide +kernel
theorem dX8_make_93 : decode cX8_make 93 = .ok (.ireturn, 1) := by decide +kernel
theorem dX8_make_94 : decode cX8_make 94 = .ok (.aload_n 0, 1) := by decide +kernel
theorem dX8_make_95 : decode cX8_make 95 = .ok (.getfield 35, 3) := by decide +kernel
theorem dX8_make_98 : decode cX8_make 98 = .ok (.aload_n 2, 1) := by decide +kernel
theorem dX8_make_99 : decode cX8_make 99 = .ok (.getfield 102, 3) := by decide +kernel
theorem dX8_make_102 : decode cX8_make 102 = .ok (.invokevirtual 115, 3) := by decide +kernel
theorem dX8_make_105 : decode cX8_make 105 = .ok (.aload_n 2, 1) := by decide +kernel
theorem dX8_make_106 : decode cX8_make 106 = .ok (.aload_n 0, 1) := by decide +kernel
theorem dX8_make_107 : decode cX8_make 107 = .ok (.getfield 35, 3) := by decide +kernel
theorem dX8_make_110 : decode cX8_make 110 = .ok (.invokevirtual 133, 3) := by decide +kernel
theorem dX8_make_113 : decode cX8_make 113 = .ok (.aload_n 0, 1) := by decide +kernel
theorem dX8_make_114 : decode cX8_make 114 = .ok (.getfield 26, 3) := by decide +kernel
theorem dX8_make_117 : decode cX8_make 117 = .ok (.invokevirtual 137, 3) := by decide +kernel
theorem dX8_make_120 : decode cX8_make 120 = .ok (.ireturn, 1) := by decide +kernel
theorem dX8_drop_0 : decode cX8_drop 0 = .ok (.aload_n 0, 1) := by decide +kernel
theorem dX8_drop_1 : decode cX8_drop 1 = .ok (.getfield 26, 3) := by decide +kernel
theorem dX8_drop_4 : decode cX8_drop 4 = .ok (.iload_n 1, 1) := by decide +kernel
theorem dX8_drop_5 : decode cX8_drop 5 = .ok (.invokevirtual 140, 3) := by decide +kernel
theorem dX8_drop_8 : decode cX8_drop 8 = .ok (.ireturn, 1) := by decide +kernel
theorem dX8_told_0 : decode cX8_told 0 = .ok (.aload_n 0, 1) := by decide +kernel
theorem dX8_told_1 : decode cX8_told 1 = .ok (.getfield 26, 3) := by decide +kernel
theorem dX8_told_4 : decode cX8_told 4 = .ok (.iload_n 1, 1) := by decide +kernel
theorem dX8_told_5 : decode cX8_told 5 = .ok (.invokevirtual 143, 3) := by decide +kernel
theorem dX8_told_8 : decode cX8_told 8 = .ok (.astore_n 3, 1) := by decide +kernel
theorem dX8_told_9 : decode cX8_told 9 = .ok (.aload_n 3, 1) := by decide +kernel
theorem dX8_told_10 : decode cX8_told 10 = .ok (.ifnonnull 5, 3) := by decide +kernel
theorem dX8_told_13 : decode cX8_told 13 = .ok (.iconst (-1), 1) := by decide +kernel
theorem dX8_told_14 : decode cX8_told 14 = .ok (.ireturn, 1) := by decide +kernel
theorem dX8_told_15 : decode cX8_told 15 = .ok (.iload_n 2, 1) := by decide +kernel
theorem dX8_told_16 : decode cX8_told 16 = .ok (.tableswitch 106 0 5 #[40, 48, 61, 74, 89, 94], 40) := by decide +kernel
theorem dX8_told_56 : decode cX8_told 56 = .ok (.aload_n 3, 1) := by decide +kernel
theorem dX8_told_57 : decode cX8_told 57 = .ok (.getfield 102, 3) := by decide +kernel
theorem dX8_told_60 : decode cX8_told 60 = .ok (.invokevirtual 147, 3) := by decide +kernel
theorem dX8_told_63 : decode cX8_told 63 = .ok (.ireturn, 1) := by decide +kernel
theorem dX8_told_64 : decode cX8_told 64 = .ok (.aload_n 3, 1) := by decide +kernel
theorem dX8_told_65 : decode cX8_told 65 = .ok (.getfield 148, 3) := by decide +kernel
theorem dX8_told_68 : decode cX8_told 68 = .ok (.ifCond .eq 7, 3) := by decide +kernel
theorem dX8_told_71 : decode cX8_told 71 = .ok (.iconst 1, 1) := by decide +kernel
theorem dX8_told_72 : decode cX8_told 72 = .ok (.goto 4, 3) := by decide +kernel
theorem dX8_told_75 : decode cX8_told 75 = .ok (.iconst 0, 1) := by decide +kernel
theorem dX8_told_76 : decode cX8_told 76 = .ok (.ireturn, 1) := by decide +kernel
theorem dX8_told_77 : decode cX8_told 77 = .ok (.aload_n 3, 1) := by decide +kernel
theorem dX8_told_78 : decode cX8_told 78 = .ok (.getfield 152, 3) := by decide +kernel
theorem dX8_told_81 : decode cX8_told 81 = .ok (.ifCond .eq 7, 3) := by decide +kernel
theorem dX8_told_84 : decode cX8_told 84 = .ok (.iconst 1, 1) := by decide +kernel
theorem dX8_told_85 : decode cX8_told 85 = .ok (.goto 4, 3) := by decide +kernel
theorem dX8_told_88 : decode cX8_told 88 = .ok (.iconst 0, 1) := by decide +kernel
theorem dX8_told_89 : decode cX8_told 89 = .ok (.ireturn, 1) := by decide +kernel
theorem dX8_told_90 : decode cX8_told 90 = .ok (.aload_n 0, 1) := by decide +kernel
theorem dX8_told_91 : decode cX8_told 91 = .ok (.aload_n 3, 1) := by decide +kernel
theorem dX8_told_92 : decode cX8_told 92 = .ok (.invokevirtual 155, 3) := by decide +kernel
theorem dX8_told_95 : decode cX8_told 95 = .ok (.iconst (-1), 1) := by decide +kernel
theorem dX8_told_96 : decode cX8_told 96 = .ok (.if_icmp .ne 7, 3) := by decide +kernel
theorem dX8_told_99 : decode cX8_told 99 = .ok (.iconst 0, 1) := by decide +kernel
theorem dX8_told_100 : decode cX8_told 100 = .ok (.goto 4, 3) := by decide +kernel
theorem dX8_told_103 : decode cX8_told 103 = .ok (.iconst 1, 1) := by decide +kernel
theorem dX8_told_104 : decode cX8_told 104 = .ok (.ireturn, 1) := by decide +kernel
theorem dX8_told_105 : decode cX8_told 105 = .ok (.aload_n 3, 1) := by decide +kernel
theorem dX8_told_106 : decode cX8_told 106 = .ok (.getfield 159, 3) := by decide +kernel
theorem dX8_told_109 : decode cX8_told 109 = .ok (.ireturn, 1) := by decide +kernel
theorem dX8_told_110 : decode cX8_told 110 = .ok (.aload_n 0, 1) := by decide +kernel
theorem dX8_told_111 : decode cX8_told 111 = .ok (.getfield 35, 3) := by decide +kernel
theorem dX8_told_114 : decode cX8_told 114 = .ok (.aload_n 3, 1) := by decide +kernel
theorem dX8_told_115 : decode cX8_told 115 = .ok (.getfield 102, 3) := by decide +kernel
theorem dX8_told_118 : decode cX8_told 118 = .ok (.invokevirtual 163, 3) := by decide +kernel
theorem dX8_told_121 : decode cX8_told 121 = .ok (.ireturn, 1) := by decide +kernel
theorem dX8_told_122 : decode cX8_told 122 = .ok (.iconst (-1), 1) := by decide +kernel
theorem dX8_told_123 : decode cX8_told 123 = .ok (.ireturn, 1) := by decide +kernel
theorem dX8_row_0 : decode cX8_row 0 = .ok (.aload_n 0, 1) := by decide +kernel
theorem dX8_row_1 : decode cX8_row 1 = .ok (.getfield 26, 3) := by decide +kernel
theorem dX8_row_4 : decode cX8_row 4 = .ok (.iload_n 1, 1) := by decide +kernel
theorem dX8_row_5 : decode cX8_row 5 = .ok (.invokevirtual 143, 3) := by decide +kernel
theorem dX8_row_8 : decode cX8_row 8 = .ok (.astore 4, 2) := by decide +kernel
theorem dX8_row_10 : decode cX8_row 10 = .ok (.aload 4, 2) := by decide +kernel
theorem dX8_row_12 : decode cX8_row 12 = .ok (.ifnull 18, 3) := by decide +kernel
theorem dX8_row_15 : decode cX8_row 15 = .ok (.iload_n 2, 1) := by decide +kernel
theorem dX8_row_16 : decode cX8_row 16 = .ok (.aload 4, 2) := by decide +kernel
theorem dX8_row_18 : decode cX8_row 18 = .ok (.getfield 102, 3) := by decide +kernel
theorem dX8_row_21 : decode cX8_row 21 = .ok (.invokevirtual 147, 3) := by decide +kernel
theorem dX8_row_24 : decode cX8_row 24 = .ok (.invokestatic 77, 3) := by decide +kernel
theorem dX8_row_27 : decode cX8_row 27 = .ok (.ifCond .ne 5, 3) := by decide +kernel
theorem dX8_row_30 : decode cX8_row 30 = .ok (.iconst (-1), 1) := by decide +kernel
theorem dX8_row_31 : decode cX8_row 31 = .ok (.ireturn, 1) := by decide +kernel
theorem dX8_row_32 : decode cX8_row 32 = .ok (.iload_n 3, 1) := by decide +kernel
theorem dX8_row_33 : decode cX8_row 33 = .ok (.tableswitch 75 0 3 #[31, 44, 57, 67], 31) := by decide +kernel
theorem dX8_row_64 : decode cX8_row 64 = .ok (.aload 4, 2) := by decide +kernel
theorem dX8_row_66 : decode cX8_row 66 = .ok (.getfield 102, 3) := by decide +kernel
theorem dX8_row_69 : decode cX8_row 69 = .ok (.iload_n 2, 1) := by decide +kernel
theorem dX8_row_70 : decode cX8_row 70 = .ok (.invokevirtual 167, 3) := by decide +kernel
theorem dX8_row_73 : decode cX8_row 73 = .ok (.invokestatic 171, 3) := by decide +kernel
theorem dX8_row_76 : decode cX8_row 76 = .ok (.ireturn, 1) := by decide +kernel
theorem dX8_row_77 : decode cX8_row 77 = .ok (.aload 4, 2) := by decide +kernel
theorem dX8_row_79 : decode cX8_row 79 = .ok (.getfield 102, 3) := by decide +kernel
theorem dX8_row_82 : decode cX8_row 82 = .ok (.iload_n 2, 1) := by decide +kernel
theorem dX8_row_83 : decode cX8_row 83 = .ok (.invokevirtual 167, 3) := by decide +kernel
theorem dX8_row_86 : decode cX8_row 86 = .ok (.invokestatic 174, 3) := by decide +kernel
theorem dX8_row_89 : decode cX8_row 89 = .ok (.ireturn, 1) := by decide +kernel
theorem dX8_row_90 : decode cX8_row 90 = .ok (.aload 4, 2) := by decide +kernel
theorem dX8_row_92 : decode cX8_row 92 = .ok (.getfield 102, 3) := by decide +kernel
theorem dX8_row_95 : decode cX8_row 95 = .ok (.iload_n 2, 1) := by decide +kernel
theorem dX8_row_96 : decode cX8_row 96 = .ok (.invokevirtual 177, 3) := by decide +kernel
theorem dX8_row_99 : decode cX8_row 99 = .ok (.ireturn, 1) := by decide +kernel
theorem dX8_row_100 : decode cX8_row 100 = .ok (.aload_n 0, 1) := by decide +kernel
theorem dX8_row_101 : decode cX8_row 101 = .ok (.aload 4, 2) := by decide +kernel
theorem dX8_row_103 : decode cX8_row 103 = .ok (.iload_n 2, 1) := by decide +kernel
theorem dX8_row_104 : decode cX8_row 104 = .ok (.invokevirtual 180, 3) := by decide +kernel
theorem dX8_row_107 : decode cX8_row 107 = .ok (.ireturn, 1) := by decide +kernel
theorem dX8_row_108 : decode cX8_row 108 = .ok (.iconst (-1), 1) := by decide +kernel
theorem dX8_row_109 : decode cX8_row 109 = .ok (.ireturn, 1) := by decide +kernel
theorem dX8_differs_0 : decode cX8_differs 0 = .ok (.aload_n 0, 1) := by decide +kernel
theorem dX8_differs_1 : decode cX8_differs 1 = .ok (.getfield 26, 3) := by decide +kernel
theorem dX8_differs_4 : decode cX8_differs 4 = .ok (.iload_n 1, 1) := by decide +kernel
theorem dX8_differs_5 : decode cX8_differs 5 = .ok (.invokevirtual 143, 3) := by decide +kernel
theorem dX8_differs_8 : decode cX8_differs 8 = .ok (.astore_n 2, 1) := by decide +kernel
theorem dX8_differs_9 : decode cX8_differs 9 = .ok (.aload_n 2, 1) := by decide +kernel
theorem dX8_differs_10 : decode cX8_differs 10 = .ok (.ifnonnull 7, 3) := by decide +kernel
theorem dX8_differs_13 : decode cX8_differs 13 = .ok (.iconst (-1), 1) := by decide +kernel
theorem dX8_differs_14 : decode cX8_differs 14 = .ok (.goto 8, 3) := by decide +kernel
theorem dX8_differs_17 : decode cX8_differs 17 = .ok (.aload_n 0, 1) := by decide +kernel
theorem dX8_differs_18 : decode cX8_differs 18 = .ok (.aload_n 2, 1) := by decide +kernel
theorem dX8_differs_19 : decode cX8_differs 19 = .ok (.invokevirtual 155, 3) := by decide +kernel
theorem dX8_differs_22 : decode cX8_differs 22 = .ok (.ireturn, 1) := by decide +kernel
theorem dX8_run_0 : decode cX8_run 0 = .ok (.iconst 0, 1) := by decide +kernel
theorem dX8_run_1 : decode cX8_run 1 = .ok (.istore_n 1, 1) := by decide +kernel
theorem dX8_run_2 : decode cX8_run 2 = .ok (.iconst 0, 1) := by decide +kernel
theorem dX8_run_3 : decode cX8_run 3 = .ok (.istore_n 2, 1) := by decide +kernel
theorem dX8_run_4 : decode cX8_run 4 = .ok (.iload_n 2, 1) := by decide +kernel
theorem dX8_run_5 : decode cX8_run 5 = .ok (.aload_n 0, 1) := by decide +kernel
theorem dX8_run_6 : decode cX8_run 6 = .ok (.getfield 26, 3) := by decide +kernel
theorem dX8_run_9 : decode cX8_run 9 = .ok (.invokevirtual 184, 3) := by decide +kernel
theorem dX8_run_12 : decode cX8_run 12 = .ok (.if_icmp .ge 67, 3) := by decide +kernel
theorem dX8_run_15 : decode cX8_run 15 = .ok (.aload_n 0, 1) := by decide +kernel
theorem dX8_run_16 : decode cX8_run 16 = .ok (.getfield 26, 3) := by decide +kernel
theorem dX8_run_19 : decode cX8_run 19 = .ok (.iload_n 2, 1) := by decide +kernel
theorem dX8_run_20 : decode cX8_run 20 = .ok (.invokevirtual 143, 3) := by decide +kernel
theorem dX8_run_23 : decode cX8_run 23 = .ok (.astore_n 3, 1) := by decide +kernel
theorem dX8_run_24 : decode cX8_run 24 = .ok (.aload_n 3, 1) := by decide +kernel
theorem dX8_run_25 : decode cX8_run 25 = .ok (.ifnull 48, 3) := by decide +kernel
theorem dX8_run_28 : decode cX8_run 28 = .ok (.aload_n 3, 1) := by decide +kernel
theorem dX8_run_29 : decode cX8_run 29 = .ok (.getfield 148, 3) := by decide +kernel
theorem dX8_run_32 : decode cX8_run 32 = .ok (.ifCond .eq 41, 3) := by decide +kernel
theorem dX8_run_35 : decode cX8_run 35 = .ok (.aload_n 3, 1) := by decide +kernel
theorem dX8_run_36 : decode cX8_run 36 = .ok (.iconst 0, 1) := by decide +kernel
theorem dX8_run_37 : decode cX8_run 37 = .ok (.putfield 148, 3) := by decide +kernel
theorem dX8_run_40 : decode cX8_run 40 = .ok (.aload_n 3, 1) := by decide +kernel
theorem dX8_run_41 : decode cX8_run 41 = .ok (.aload_n 0, 1) := by decide +kernel
theorem dX8_run_42 : decode cX8_run 42 = .ok (.aload_n 3, 1) := by decide +kernel
theorem dX8_run_43 : decode cX8_run 43 = .ok (.invokevirtual 155, 3) := by decide +kernel
theorem dX8_run_46 : decode cX8_run 46 = .ok (.iconst (-1), 1) := by decide +kernel
theorem dX8_run_47 : decode cX8_run 47 = .ok (.if_icmp .eq 7, 3) := by decide +kernel
theorem dX8_run_50 : decode cX8_run 50 = .ok (.iconst 1, 1) := by decide +kernel
theorem dX8_run_51 : decode cX8_run 51 = .ok (.goto 4, 3) := by decide +kernel
theorem dX8_run_54 : decode cX8_run 54 = .ok (.iconst 0, 1) := by decide +kernel
theorem dX8_run_55 : decode cX8_run 55 = .ok (.putfield 152, 3) := by decide +kernel
theorem dX8_run_58 : decode cX8_run 58 = .ok (.iload_n 1, 1) := by decide +kernel
theorem dX8_run_59 : decode cX8_run 59 = .ok (.aload_n 3, 1) := by decide +kernel
theorem dX8_run_60 : decode cX8_run 60 = .ok (.getfield 152, 3) := by decide +kernel
theorem dX8_run_63 : decode cX8_run 63 = .ok (.ifCond .eq 7, 3) := by decide +kernel
theorem dX8_run_66 : decode cX8_run 66 = .ok (.iconst 1, 1) := by decide +kernel
theorem dX8_run_67 : decode cX8_run 67 = .ok (.goto 4, 3) := by decide +kernel
theorem dX8_run_70 : decode cX8_run 70 = .ok (.iconst 0, 1) := by decide +kernel
theorem dX8_run_71 : decode cX8_run 71 = .ok (.iadd, 1) := by decide +kernel
theorem dX8_run_72 : decode cX8_run 72 = .ok (.istore_n 1, 1) := by decide +kernel
theorem dX8_run_73 : decode cX8_run 73 = .ok (.iinc 2 1, 3) := by decide +kernel
theorem dX8_run_76 : decode cX8_run 76 = .ok (.goto (-72), 3) := by decide +kernel
theorem dX8_run_79 : decode cX8_run 79 = .ok (.iload_n 1, 1) := by decide +kernel
theorem dX8_run_80 : decode cX8_run 80 = .ok (.ireturn, 1) := by decide +kernel
theorem dX8_accept_0 : decode cX8_accept 0 = .ok (.aload_n 0, 1) := by decide +kernel
theorem dX8_accept_1 : decode cX8_accept 1 = .ok (.getfield 26, 3) := by decide +kernel
theorem dX8_accept_4 : decode cX8_accept 4 = .ok (.iload_n 1, 1) := by decide +kernel
theorem dX8_accept_5 : decode cX8_accept 5 = .ok (.invokevirtual 143, 3) := by decide +kernel
theorem dX8_accept_8 : decode cX8_accept 8 = .ok (.astore_n 2, 1) := by decide +kernel
theorem dX8_accept_9 : decode cX8_accept 9 = .ok (.aload_n 2, 1) := by decide +kernel
theorem dX8_accept_10 : decode cX8_accept 10 = .ok (.ifnonnull 5, 3) := by decide +kernel
theorem dX8_accept_13 : decode cX8_accept 13 = .ok (.iconst 0, 1) := by decide +kernel
theorem dX8_accept_14 : decode cX8_accept 14 = .ok (.ireturn, 1) := by decide +kernel
theorem dX8_accept_15 : decode cX8_accept 15 = .ok (.aload_n 0, 1) := by decide +kernel
theorem dX8_accept_16 : decode cX8_accept 16 = .ok (.getfield 35, 3) := by decide +kernel
theorem dX8_accept_19 : decode cX8_accept 19 = .ok (.aload_n 2, 1) := by decide +kernel
theorem dX8_accept_20 : decode cX8_accept 20 = .ok (.getfield 102, 3) := by decide +kernel
theorem dX8_accept_23 : decode cX8_accept 23 = .ok (.invokevirtual 115, 3) := by decide +kernel
theorem dX8_accept_26 : decode cX8_accept 26 = .ok (.aload_n 2, 1) := by decide +kernel
theorem dX8_accept_27 : decode cX8_accept 27 = .ok (.aload_n 0, 1) := by decide +kernel
theorem dX8_accept_28 : decode cX8_accept 28 = .ok (.getfield 35, 3) := by decide +kernel
theorem dX8_accept_31 : decode cX8_accept 31 = .ok (.invokevirtual 133, 3) := by decide +kernel
theorem dX8_accept_34 : decode cX8_accept 34 = .ok (.iconst 1, 1) := by decide +kernel
theorem dX8_accept_35 : decode cX8_accept 35 = .ok (.ireturn, 1) := by decide +kernel
theorem dX8_reached_0 : decode cX8_reached 0 = .ok (.aload_n 0, 1) := by decide +kernel
theorem dX8_reached_1 : decode cX8_reached 1 = .ok (.getfield 35, 3) := by decide +kernel
theorem dX8_reached_4 : decode cX8_reached 4 = .ok (.aload_n 0, 1) := by decide +kernel
theorem dX8_reached_5 : decode cX8_reached 5 = .ok (.getfield 19, 3) := by decide +kernel
theorem dX8_reached_8 : decode cX8_reached 8 = .ok (.getfield 108, 3) := by decide +kernel
theorem dX8_reached_11 : decode cX8_reached 11 = .ok (.invokevirtual 163, 3) := by decide +kernel
theorem dX8_reached_14 : decode cX8_reached 14 = .ok (.ireturn, 1) := by decide +kernel
theorem dX8_never_0 : decode cX8_never 0 = .ok (.aload_n 0, 1) := by decide +kernel
theorem dX8_never_1 : decode cX8_never 1 = .ok (.getfield 12, 3) := by decide +kernel
theorem dX8_never_4 : decode cX8_never 4 = .ok (.invokevirtual 185, 3) := by decide +kernel
theorem dX8_never_7 : decode cX8_never 7 = .ok (.aload_n 0, 1) := by decide +kernel
theorem dX8_never_8 : decode cX8_never 8 = .ok (.getfield 35, 3) := by decide +kernel
theorem dX8_never_11 : decode cX8_never 11 = .ok (.aload_n 0, 1) := by decide +kernel
theorem dX8_never_12 : decode cX8_never 12 = .ok (.getfield 19, 3) := by decide +kernel
theorem dX8_never_15 : decode cX8_never 15 = .ok (.getfield 108, 3) := by decide +kernel
theorem dX8_never_18 : decode cX8_never 18 = .ok (.invokevirtual 163, 3) := by decide +kernel
theorem dX8_never_21 : decode cX8_never 21 = .ok (.iconst (-1), 1) := by decide +kernel
theorem dX8_never_22 : decode cX8_never 22 = .ok (.ixor, 1) := by decide +kernel
theorem dX8_never_23 : decode cX8_never 23 = .ok (.iand, 1) := by decide +kernel
theorem dX8_never_24 : decode cX8_never 24 = .ok (.ireturn, 1) := by decide +kernel
theorem dX8_fewest_0 : decode cX8_fewest 0 = .ok (.aload_n 0, 1) := by decide +kernel
theorem dX8_fewest_1 : decode cX8_fewest 1 = .ok (.getfield 26, 3) := by decide +kernel
theorem dX8_fewest_4 : decode cX8_fewest 4 = .ok (.aload_n 0, 1) := by decide +kernel
theorem dX8_fewest_5 : decode cX8_fewest 5 = .ok (.getfield 35, 3) := by decide +kernel
theorem dX8_fewest_8 : decode cX8_fewest 8 = .ok (.invokevirtual 188, 3) := by decide +kernel
theorem dX8_fewest_11 : decode cX8_fewest 11 = .ok (.invokestatic 192, 3) := by decide +kernel
theorem dX8_fewest_14 : decode cX8_fewest 14 = .ok (.ireturn, 1) := by decide +kernel
theorem dX8_chosen_0 : decode cX8_chosen 0 = .ok (.aload_n 0, 1) := by decide +kernel
theorem dX8_chosen_1 : decode cX8_chosen 1 = .ok (.getfield 26, 3) := by decide +kernel
theorem dX8_chosen_4 : decode cX8_chosen 4 = .ok (.aload_n 0, 1) := by decide +kernel
theorem dX8_chosen_5 : decode cX8_chosen 5 = .ok (.getfield 35, 3) := by decide +kernel
theorem dX8_chosen_8 : decode cX8_chosen 8 = .ok (.invokevirtual 188, 3) := by decide +kernel
theorem dX8_chosen_11 : decode cX8_chosen 11 = .ok (.ireturn, 1) := by decide +kernel
theorem dX8_register_0 : decode cX8_register 0 = .ok (.iload_n 1, 1) := by decide +kernel
theorem dX8_register_1 : decode cX8_register 1 = .ok (.iconst 4, 1) := by decide +kernel
theorem dX8_register_2 : decode cX8_register 2 = .ok (.invokestatic 77, 3) := by decide +kernel
theorem dX8_register_5 : decode cX8_register 5 = .ok (.ifCond .eq 17, 3) := by decide +kernel
theorem dX8_register_8 : decode cX8_register 8 = .ok (.aload_n 0, 1) := by decide +kernel
theorem dX8_register_9 : decode cX8_register 9 = .ok (.getfield 19, 3) := by decide +kernel
theorem dX8_register_12 : decode cX8_register 12 = .ok (.getfield 197, 3) := by decide +kernel
theorem dX8_register_15 : decode cX8_register 15 = .ok (.iload_n 1, 1) := by decide +kernel
theorem dX8_register_16 : decode cX8_register 16 = .ok (.invokestatic 200, 3) := by decide +kernel
theorem dX8_register_19 : decode cX8_register 19 = .ok (.goto 4, 3) := by decide +kernel
theorem dX8_register_22 : decode cX8_register 22 = .ok (.iconst (-1), 1) := by decide +kernel
theorem dX8_register_23 : decode cX8_register 23 = .ok (.ireturn, 1) := by decide +kernel
theorem dX8_count_0 : decode cX8_count 0 = .ok (.iload_n 1, 1) := by decide +kernel
theorem dX8_count_1 : decode cX8_count 1 = .ok (.tableswitch 87 0 5 #[39, 47, 55, 66, 74, 82], 39) := by decide +kernel
theorem dX8_count_40 : decode cX8_count 40 = .ok (.aload_n 0, 1) := by decide +kernel
theorem dX8_count_41 : decode cX8_count 41 = .ok (.getfield 19, 3) := by decide +kernel
theorem dX8_count_44 : decode cX8_count 44 = .ok (.invokevirtual 99, 3) := by decide +kernel
theorem dX8_count_47 : decode cX8_count 47 = .ok (.ireturn, 1) := by decide +kernel
theorem dX8_count_48 : decode cX8_count 48 = .ok (.aload_n 0, 1) := by decide +kernel
theorem dX8_count_49 : decode cX8_count 49 = .ok (.getfield 26, 3) := by decide +kernel
theorem dX8_count_52 : decode cX8_count 52 = .ok (.invokevirtual 184, 3) := by decide +kernel
theorem dX8_count_55 : decode cX8_count 55 = .ok (.ireturn, 1) := by decide +kernel
theorem dX8_count_56 : decode cX8_count 56 = .ok (.aload_n 0, 1) := by decide +kernel
theorem dX8_count_57 : decode cX8_count 57 = .ok (.getfield 12, 3) := by decide +kernel
theorem dX8_count_60 : decode cX8_count 60 = .ok (.invokevirtual 185, 3) := by decide +kernel
theorem dX8_count_63 : decode cX8_count 63 = .ok (.invokestatic 192, 3) := by decide +kernel
theorem dX8_count_66 : decode cX8_count 66 = .ok (.ireturn, 1) := by decide +kernel
theorem dX8_count_67 : decode cX8_count 67 = .ok (.aload_n 0, 1) := by decide +kernel
theorem dX8_count_68 : decode cX8_count 68 = .ok (.getfield 26, 3) := by decide +kernel
theorem dX8_count_71 : decode cX8_count 71 = .ok (.invokevirtual 203, 3) := by decide +kernel
theorem dX8_count_74 : decode cX8_count 74 = .ok (.ireturn, 1) := by decide +kernel
theorem dX8_count_75 : decode cX8_count 75 = .ok (.aload_n 0, 1) := by decide +kernel
theorem dX8_count_76 : decode cX8_count 76 = .ok (.getfield 26, 3) := by decide +kernel
theorem dX8_count_79 : decode cX8_count 79 = .ok (.invokevirtual 206, 3) := by decide +kernel
theorem dX8_count_82 : decode cX8_count 82 = .ok (.ireturn, 1) := by decide +kernel
theorem dX8_count_83 : decode cX8_count 83 = .ok (.aload_n 0, 1) := by decide +kernel
theorem dX8_count_84 : decode cX8_count 84 = .ok (.invokevirtual 209, 3) := by decide +kernel
theorem dX8_count_87 : decode cX8_count 87 = .ok (.ireturn, 1) := by decide +kernel
theorem dX8_count_88 : decode cX8_count 88 = .ok (.iconst (-1), 1) := by decide +kernel
theorem dX8_count_89 : decode cX8_count 89 = .ok (.ireturn, 1) := by decide +kernel
theorem dX8_firstDifference_0 : decode cX8_firstDifference 0 = .ok (.aload_n 0, 1) := by decide +kernel
theorem dX8_firstDifference_1 : decode cX8_firstDifference 1 = .ok (.getfield 35, 3) := by decide +kernel
theorem dX8_firstDifference_4 : decode cX8_firstDifference 4 = .ok (.aload_n 1, 1) := by decide +kernel
theorem dX8_firstDifference_5 : decode cX8_firstDifference 5 = .ok (.getfield 102, 3) := by decide +kernel
theorem dX8_firstDifference_8 : decode cX8_firstDifference 8 = .ok (.invokevirtual 115, 3) := by decide +kernel
theorem dX8_firstDifference_11 : decode cX8_firstDifference 11 = .ok (.aload_n 0, 1) := by decide +kernel
theorem dX8_firstDifference_12 : decode cX8_firstDifference 12 = .ok (.getfield 35, 3) := by decide +kernel
theorem dX8_firstDifference_15 : decode cX8_firstDifference 15 = .ok (.aload_n 1, 1) := by decide +kernel
theorem dX8_firstDifference_16 : decode cX8_firstDifference 16 = .ok (.getfield 102, 3) := by decide +kernel
theorem dX8_firstDifference_19 : decode cX8_firstDifference 19 = .ok (.invokevirtual 212, 3) := by decide +kernel
theorem dX8_firstDifference_22 : decode cX8_firstDifference 22 = .ok (.ireturn, 1) := by decide +kernel
theorem dX8_resultNow_0 : decode cX8_resultNow 0 = .ok (.aload_n 0, 1) := by decide +kernel
theorem dX8_resultNow_1 : decode cX8_resultNow 1 = .ok (.getfield 35, 3) := by decide +kernel
theorem dX8_resultNow_4 : decode cX8_resultNow 4 = .ok (.aload_n 1, 1) := by decide +kernel
theorem dX8_resultNow_5 : decode cX8_resultNow 5 = .ok (.getfield 102, 3) := by decide +kernel
theorem dX8_resultNow_8 : decode cX8_resultNow 8 = .ok (.invokevirtual 115, 3) := by decide +kernel
theorem dX8_resultNow_11 : decode cX8_resultNow 11 = .ok (.aload_n 0, 1) := by decide +kernel
theorem dX8_resultNow_12 : decode cX8_resultNow 12 = .ok (.getfield 35, 3) := by decide +kernel
theorem dX8_resultNow_15 : decode cX8_resultNow 15 = .ok (.iload_n 2, 1) := by decide +kernel
theorem dX8_resultNow_16 : decode cX8_resultNow 16 = .ok (.invokevirtual 214, 3) := by decide +kernel
theorem dX8_resultNow_19 : decode cX8_resultNow 19 = .ok (.ireturn, 1) := by decide +kernel
theorem dX8_differencesOfLog_0 : decode cX8_differencesOfLog 0 = .ok (.aload_n 0, 1) := by decide +kernel
theorem dX8_differencesOfLog_1 : decode cX8_differencesOfLog 1 = .ok (.getfield 35, 3) := by decide +kernel
theorem dX8_differencesOfLog_4 : decode cX8_differencesOfLog 4 = .ok (.aload_n 0, 1) := by decide +kernel
theorem dX8_differencesOfLog_5 : decode cX8_differencesOfLog 5 = .ok (.getfield 19, 3) := by decide +kernel
theorem dX8_differencesOfLog_8 : decode cX8_differencesOfLog 8 = .ok (.getfield 108, 3) := by decide +kernel
theorem dX8_differencesOfLog_11 : decode cX8_differencesOfLog 11 = .ok (.invokevirtual 115, 3) := by decide +kernel
theorem dX8_differencesOfLog_14 : decode cX8_differencesOfLog 14 = .ok (.aload_n 0, 1) := by decide +kernel
theorem dX8_differencesOfLog_15 : decode cX8_differencesOfLog 15 = .ok (.getfield 35, 3) := by decide +kernel
theorem dX8_differencesOfLog_18 : decode cX8_differencesOfLog 18 = .ok (.aload_n 0, 1) := by decide +kernel
theorem dX8_differencesOfLog_19 : decode cX8_differencesOfLog 19 = .ok (.getfield 19, 3) := by decide +kernel
theorem dX8_differencesOfLog_22 : decode cX8_differencesOfLog 22 = .ok (.getfield 108, 3) := by decide +kernel
theorem dX8_differencesOfLog_25 : decode cX8_differencesOfLog 25 = .ok (.invokevirtual 215, 3) := by decide +kernel
theorem dX8_differencesOfLog_28 : decode cX8_differencesOfLog 28 = .ok (.ireturn, 1) := by decide +kernel
theorem dX8_isBelow_0 : decode cX8_isBelow 0 = .ok (.iload_n 0, 1) := by decide +kernel
theorem dX8_isBelow_1 : decode cX8_isBelow 1 = .ok (.ifCond .lt 12, 3) := by decide +kernel
theorem dX8_isBelow_4 : decode cX8_isBelow 4 = .ok (.iload_n 0, 1) := by decide +kernel
theorem dX8_isBelow_5 : decode cX8_isBelow 5 = .ok (.iload_n 1, 1) := by decide +kernel
theorem dX8_isBelow_6 : decode cX8_isBelow 6 = .ok (.if_icmp .ge 7, 3) := by decide +kernel
theorem dX8_isBelow_9 : decode cX8_isBelow 9 = .ok (.iconst 1, 1) := by decide +kernel
theorem dX8_isBelow_10 : decode cX8_isBelow 10 = .ok (.goto 4, 3) := by decide +kernel
theorem dX8_isBelow_13 : decode cX8_isBelow 13 = .ok (.iconst 0, 1) := by decide +kernel
theorem dX8_isBelow_14 : decode cX8_isBelow 14 = .ok (.ireturn, 1) := by decide +kernel
theorem dX8_callOf_0 : decode cX8_callOf 0 = .ok (.iload_n 0, 1) := by decide +kernel
theorem dX8_callOf_1 : decode cX8_callOf 1 = .ok (.bipush 16, 2) := by decide +kernel
theorem dX8_callOf_3 : decode cX8_callOf 3 = .ok (.imul, 1) := by decide +kernel
theorem dX8_callOf_4 : decode cX8_callOf 4 = .ok (.iload_n 1, 1) := by decide +kernel
theorem dX8_callOf_5 : decode cX8_callOf 5 = .ok (.iadd, 1) := by decide +kernel
theorem dX8_callOf_6 : decode cX8_callOf 6 = .ok (.ireturn, 1) := by decide +kernel
theorem dX8_kindOf_0 : decode cX8_kindOf 0 = .ok (.iload_n 0, 1) := by decide +kernel
theorem dX8_kindOf_1 : decode cX8_kindOf 1 = .ok (.bipush 16, 2) := by decide +kernel
theorem dX8_kindOf_3 : decode cX8_kindOf 3 = .ok (.idiv, 1) := by decide +kernel
theorem dX8_kindOf_4 : decode cX8_kindOf 4 = .ok (.ireturn, 1) := by decide +kernel
theorem dX8_numberOf_0 : decode cX8_numberOf 0 = .ok (.iload_n 0, 1) := by decide +kernel
theorem dX8_numberOf_1 : decode cX8_numberOf 1 = .ok (.bipush 16, 2) := by decide +kernel
theorem dX8_numberOf_3 : decode cX8_numberOf 3 = .ok (.irem, 1) := by decide +kernel
theorem dX8_numberOf_4 : decode cX8_numberOf 4 = .ok (.ireturn, 1) := by decide +kernel
theorem dX8_valueIn_0 : decode cX8_valueIn 0 = .ok (.iload_n 0, 1) := by decide +kernel
theorem dX8_valueIn_1 : decode cX8_valueIn 1 = .ok (.iload_n 1, 1) := by decide +kernel
theorem dX8_valueIn_2 : decode cX8_valueIn 2 = .ok (.iconst 4, 1) := by decide +kernel
theorem dX8_valueIn_3 : decode cX8_valueIn 3 = .ok (.imul, 1) := by decide +kernel
theorem dX8_valueIn_4 : decode cX8_valueIn 4 = .ok (.ishr, 1) := by decide +kernel
theorem dX8_valueIn_5 : decode cX8_valueIn 5 = .ok (.bipush 15, 2) := by decide +kernel
theorem dX8_valueIn_7 : decode cX8_valueIn 7 = .ok (.iand, 1) := by decide +kernel
theorem dX8_valueIn_8 : decode cX8_valueIn 8 = .ok (.ireturn, 1) := by decide +kernel
theorem dX8_withValue_0 : decode cX8_withValue 0 = .ok (.iload_n 1, 1) := by decide +kernel
theorem dX8_withValue_1 : decode cX8_withValue 1 = .ok (.iconst 4, 1) := by decide +kernel
theorem dX8_withValue_2 : decode cX8_withValue 2 = .ok (.imul, 1) := by decide +kernel
theorem dX8_withValue_3 : decode cX8_withValue 3 = .ok (.istore_n 3, 1) := by decide +kernel
theorem dX8_withValue_4 : decode cX8_withValue 4 = .ok (.iload_n 0, 1) := by decide +kernel
theorem dX8_withValue_5 : decode cX8_withValue 5 = .ok (.bipush 15, 2) := by decide +kernel
theorem dX8_withValue_7 : decode cX8_withValue 7 = .ok (.iload_n 3, 1) := by decide +kernel
theorem dX8_withValue_8 : decode cX8_withValue 8 = .ok (.ishl, 1) := by decide +kernel
theorem dX8_withValue_9 : decode cX8_withValue 9 = .ok (.iconst (-1), 1) := by decide +kernel
theorem dX8_withValue_10 : decode cX8_withValue 10 = .ok (.ixor, 1) := by decide +kernel
theorem dX8_withValue_11 : decode cX8_withValue 11 = .ok (.iand, 1) := by decide +kernel
theorem dX8_withValue_12 : decode cX8_withValue 12 = .ok (.istore 4, 2) := by decide +kernel
theorem dX8_withValue_14 : decode cX8_withValue 14 = .ok (.iload 4, 2) := by decide +kernel
theorem dX8_withValue_16 : decode cX8_withValue 16 = .ok (.iload_n 2, 1) := by decide +kernel
theorem dX8_withValue_17 : decode cX8_withValue 17 = .ok (.bipush 15, 2) := by decide +kernel
theorem dX8_withValue_19 : decode cX8_withValue 19 = .ok (.iand, 1) := by decide +kernel
theorem dX8_withValue_20 : decode cX8_withValue 20 = .ok (.iload_n 3, 1) := by decide +kernel
theorem dX8_withValue_21 : decode cX8_withValue 21 = .ok (.ishl, 1) := by decide +kernel
theorem dX8_withValue_22 : decode cX8_withValue 22 = .ok (.ior, 1) := by decide +kernel
theorem dX8_withValue_23 : decode cX8_withValue 23 = .ok (.ireturn, 1) := by decide +kernel
theorem dJ6_bitCount_0f7a4_0 : decode cJ6_bitCount_0f7a4 0 = .ok (.iload_n 0, 1) := by decide +kernel
theorem dJ6_bitCount_0f7a4_1 : decode cJ6_bitCount_0f7a4 1 = .ok (.iload_n 0, 1) := by decide +kernel
theorem dJ6_bitCount_0f7a4_2 : decode cJ6_bitCount_0f7a4 2 = .ok (.iconst 1, 1) := by decide +kernel
theorem dJ6_bitCount_0f7a4_3 : decode cJ6_bitCount_0f7a4 3 = .ok (.iushr, 1) := by decide +kernel
theorem dJ6_bitCount_0f7a4_4 : decode cJ6_bitCount_0f7a4 4 = .ok (.ldc_w 265, 3) := by decide +kernel
theorem dJ6_bitCount_0f7a4_7 : decode cJ6_bitCount_0f7a4 7 = .ok (.iand, 1) := by decide +kernel
theorem dJ6_bitCount_0f7a4_8 : decode cJ6_bitCount_0f7a4 8 = .ok (.isub, 1) := by decide +kernel
theorem dJ6_bitCount_0f7a4_9 : decode cJ6_bitCount_0f7a4 9 = .ok (.istore_n 0, 1) := by decide +kernel
theorem dJ6_bitCount_0f7a4_10 : decode cJ6_bitCount_0f7a4 10 = .ok (.iload_n 0, 1) := by decide +kernel
theorem dJ6_bitCount_0f7a4_11 : decode cJ6_bitCount_0f7a4 11 = .ok (.ldc_w 266, 3) := by decide +kernel
theorem dJ6_bitCount_0f7a4_14 : decode cJ6_bitCount_0f7a4 14 = .ok (.iand, 1) := by decide +kernel
theorem dJ6_bitCount_0f7a4_15 : decode cJ6_bitCount_0f7a4 15 = .ok (.iload_n 0, 1) := by decide +kernel
theorem dJ6_bitCount_0f7a4_16 : decode cJ6_bitCount_0f7a4 16 = .ok (.iconst 2, 1) := by decide +kernel
theorem dJ6_bitCount_0f7a4_17 : decode cJ6_bitCount_0f7a4 17 = .ok (.iushr, 1) := by decide +kernel
end
section
theorem dJ6_bitCount_0f7a4_18 : decode cJ6_bitCount_0f7a4 18 = .ok (.ldc_w 266, 3) := by decide +kernel
theorem dJ6_bitCount_0f7a4_21 : decode cJ6_bitCount_0f7a4 21 = .ok (.iand, 1) := by decide +kernel
theorem dJ6_bitCount_0f7a4_22 : decode cJ6_bitCount_0f7a4 22 = .ok (.iadd, 1) := by decide +kernel
theorem dJ6_bitCount_0f7a4_23 : decode cJ6_bitCount_0f7a4 23 = .ok (.istore_n 0, 1) := by decide +kernel
theorem dJ6_bitCount_0f7a4_24 : decode cJ6_bitCount_0f7a4 24 = .ok (.iload_n 0, 1) := by decide +kernel
theorem dJ6_bitCount_0f7a4_25 : decode cJ6_bitCount_0f7a4 25 = .ok (.iload_n 0, 1) := by decide +kernel
theorem dJ6_bitCount_0f7a4_26 : decode cJ6_bitCount_0f7a4 26 = .ok (.iconst 4, 1) := by decide +kernel
theorem dJ6_bitCount_0f7a4_27 : decode cJ6_bitCount_0f7a4 27 = .ok (.iushr, 1) := by decide +kernel
theorem dJ6_bitCount_0f7a4_28 : decode cJ6_bitCount_0f7a4 28 = .ok (.iadd, 1) := by decide +kernel
theorem dJ6_bitCount_0f7a4_29 : decode cJ6_bitCount_0f7a4 29 = .ok (.ldc_w 267, 3) := by decide +kernel
theorem dJ6_bitCount_0f7a4_32 : decode cJ6_bitCount_0f7a4 32 = .ok (.iand, 1) := by decide +kernel
theorem dJ6_bitCount_0f7a4_33 : decode cJ6_bitCount_0f7a4 33 = .ok (.istore_n 0, 1) := by decide +kernel
theorem dJ6_bitCount_0f7a4_34 : decode cJ6_bitCount_0f7a4 34 = .ok (.iload_n 0, 1) := by decide +kernel
theorem dJ6_bitCount_0f7a4_35 : decode cJ6_bitCount_0f7a4 35 = .ok (.iload_n 0, 1) := by decide +kernel
theorem dJ6_bitCount_0f7a4_36 : decode cJ6_bitCount_0f7a4 36 = .ok (.bipush 8, 2) := by decide +kernel
theorem dJ6_bitCount_0f7a4_38 : decode cJ6_bitCount_0f7a4 38 = .ok (.iushr, 1) := by decide +kernel
theorem dJ6_bitCount_0f7a4_39 : decode cJ6_bitCount_0f7a4 39 = .ok (.iadd, 1) := by decide +kernel
theorem dJ6_bitCount_0f7a4_40 : decode cJ6_bitCount_0f7a4 40 = .ok (.istore_n 0, 1) := by decide +kernel
theorem dJ6_bitCount_0f7a4_41 : decode cJ6_bitCount_0f7a4 41 = .ok (.iload_n 0, 1) := by decide +kernel
theorem dJ6_bitCount_0f7a4_42 : decode cJ6_bitCount_0f7a4 42 = .ok (.iload_n 0, 1) := by decide +kernel
theorem dJ6_bitCount_0f7a4_43 : decode cJ6_bitCount_0f7a4 43 = .ok (.bipush 16, 2) := by decide +kernel
theorem dJ6_bitCount_0f7a4_45 : decode cJ6_bitCount_0f7a4 45 = .ok (.iushr, 1) := by decide +kernel
theorem dJ6_bitCount_0f7a4_46 : decode cJ6_bitCount_0f7a4 46 = .ok (.iadd, 1) := by decide +kernel
theorem dJ6_bitCount_0f7a4_47 : decode cJ6_bitCount_0f7a4 47 = .ok (.istore_n 0, 1) := by decide +kernel
theorem dJ6_bitCount_0f7a4_48 : decode cJ6_bitCount_0f7a4 48 = .ok (.iload_n 0, 1) := by decide +kernel
theorem dJ6_bitCount_0f7a4_49 : decode cJ6_bitCount_0f7a4 49 = .ok (.bipush 63, 2) := by decide +kernel
theorem dJ6_bitCount_0f7a4_51 : decode cJ6_bitCount_0f7a4 51 = .ok (.iand, 1) := by decide +kernel
theorem dJ6_bitCount_0f7a4_52 : decode cJ6_bitCount_0f7a4 52 = .ok (.ireturn, 1) := by decide +kernel
end
section
theorem dX9_init_0 : decode cX9_init 0 = .ok (.aload_n 0, 1) := by decide +kernel
theorem dX9_init_1 : decode cX9_init 1 = .ok (.invokespecial 1, 3) := by decide +kernel
theorem dX9_init_4 : decode cX9_init 4 = .ok (.aload_n 0, 1) := by decide +kernel
theorem dX9_init_5 : decode cX9_init 5 = .ok (.bipush 6, 2) := by decide +kernel
theorem dX9_init_7 : decode cX9_init 7 = .ok (.newarray .int, 2) := by decide +kernel
theorem dX9_init_9 : decode cX9_init 9 = .ok (.putfield 9, 3) := by decide +kernel
theorem dX9_init_12 : decode cX9_init 12 = .ok (.aload_n 0, 1) := by decide +kernel
theorem dX9_init_13 : decode cX9_init 13 = .ok (.bipush 24, 2) := by decide +kernel
theorem dX9_init_15 : decode cX9_init 15 = .ok (.newarray .int, 2) := by decide +kernel
theorem dX9_init_17 : decode cX9_init 17 = .ok (.putfield 13, 3) := by decide +kernel
theorem dX9_init_20 : decode cX9_init 20 = .ok (.aload_n 0, 1) := by decide +kernel
theorem dX9_init_21 : decode cX9_init 21 = .ok (.bipush 24, 2) := by decide +kernel
theorem dX9_init_23 : decode cX9_init 23 = .ok (.newarray .int, 2) := by decide +kernel
theorem dX9_init_25 : decode cX9_init 25 = .ok (.putfield 16, 3) := by decide +kernel
theorem dX9_init_28 : decode cX9_init 28 = .ok (.aload_n 0, 1) := by decide +kernel
theorem dX9_init_29 : decode cX9_init 29 = .ok (.bipush 24, 2) := by decide +kernel
theorem dX9_init_31 : decode cX9_init 31 = .ok (.newarray .int, 2) := by decide +kernel
theorem dX9_init_33 : decode cX9_init 33 = .ok (.putfield 19, 3) := by decide +kernel
theorem dX9_init_36 : decode cX9_init 36 = .ok (.aload_n 0, 1) := by decide +kernel
theorem dX9_init_37 : decode cX9_init 37 = .ok (.sipush 200, 3) := by decide +kernel
theorem dX9_init_40 : decode cX9_init 40 = .ok (.newarray .int, 2) := by decide +kernel
theorem dX9_init_42 : decode cX9_init 42 = .ok (.putfield 22, 3) := by decide +kernel
theorem dX9_init_45 : decode cX9_init 45 = .ok (.aload_n 0, 1) := by decide +kernel
theorem dX9_init_46 : decode cX9_init 46 = .ok (.sipush 200, 3) := by decide +kernel
theorem dX9_init_49 : decode cX9_init 49 = .ok (.newarray .int, 2) := by decide +kernel
theorem dX9_init_51 : decode cX9_init 51 = .ok (.putfield 25, 3) := by decide +kernel
theorem dX9_init_54 : decode cX9_init 54 = .ok (.aload_n 0, 1) := by decide +kernel
theorem dX9_init_55 : decode cX9_init 55 = .ok (.sipush 200, 3) := by decide +kernel
theorem dX9_init_58 : decode cX9_init 58 = .ok (.newarray .int, 2) := by decide +kernel
theorem dX9_init_60 : decode cX9_init 60 = .ok (.putfield 28, 3) := by decide +kernel
theorem dX9_init_63 : decode cX9_init 63 = .ok (.aload_n 0, 1) := by decide +kernel
theorem dX9_init_64 : decode cX9_init 64 = .ok (.sipush 200, 3) := by decide +kernel
theorem dX9_init_67 : decode cX9_init 67 = .ok (.newarray .int, 2) := by decide +kernel
theorem dX9_init_69 : decode cX9_init 69 = .ok (.putfield 31, 3) := by decide +kernel
theorem dX9_init_72 : decode cX9_init 72 = .ok (.aload_n 0, 1) := by decide +kernel
theorem dX9_init_73 : decode cX9_init 73 = .ok (.iconst 4, 1) := by decide +kernel
theorem dX9_init_74 : decode cX9_init 74 = .ok (.newarray .int, 2) := by decide +kernel
theorem dX9_init_76 : decode cX9_init 76 = .ok (.putfield 34, 3) := by decide +kernel
theorem dX9_init_79 : decode cX9_init 79 = .ok (.aload_n 0, 1) := by decide +kernel
theorem dX9_init_80 : decode cX9_init 80 = .ok (.bipush 12, 2) := by decide +kernel
theorem dX9_init_82 : decode cX9_init 82 = .ok (.newarray .int, 2) := by decide +kernel
theorem dX9_init_84 : decode cX9_init 84 = .ok (.putfield 37, 3) := by decide +kernel
theorem dX9_init_87 : decode cX9_init 87 = .ok (.aload_n 0, 1) := by decide +kernel
theorem dX9_init_88 : decode cX9_init 88 = .ok (.sipush 2400, 3) := by decide +kernel
theorem dX9_init_91 : decode cX9_init 91 = .ok (.newarray .int, 2) := by decide +kernel
theorem dX9_init_93 : decode cX9_init 93 = .ok (.putfield 40, 3) := by decide +kernel
theorem dX9_init_96 : decode cX9_init 96 = .ok (.aload_n 0, 1) := by decide +kernel
theorem dX9_init_97 : decode cX9_init 97 = .ok (.sipush 2400, 3) := by decide +kernel
theorem dX9_init_100 : decode cX9_init 100 = .ok (.newarray .int, 2) := by decide +kernel
theorem dX9_init_102 : decode cX9_init 102 = .ok (.putfield 43, 3) := by decide +kernel
theorem dX9_init_105 : decode cX9_init 105 = .ok (.aload_n 0, 1) := by decide +kernel
theorem dX9_init_106 : decode cX9_init 106 = .ok (.sipush 2400, 3) := by decide +kernel
theorem dX9_init_109 : decode cX9_init 109 = .ok (.newarray .int, 2) := by decide +kernel
theorem dX9_init_111 : decode cX9_init 111 = .ok (.putfield 46, 3) := by decide +kernel
theorem dX9_init_114 : decode cX9_init 114 = .ok (.aload_n 0, 1) := by decide +kernel
theorem dX9_init_115 : decode cX9_init 115 = .ok (.bipush 12, 2) := by decide +kernel
theorem dX9_init_117 : decode cX9_init 117 = .ok (.newarray .int, 2) := by decide +kernel
theorem dX9_init_119 : decode cX9_init 119 = .ok (.putfield 49, 3) := by decide +kernel
theorem dX9_init_122 : decode cX9_init 122 = .ok (.aload_n 0, 1) := by decide +kernel
theorem dX9_init_123 : decode cX9_init 123 = .ok (.bipush 12, 2) := by decide +kernel
theorem dX9_init_125 : decode cX9_init 125 = .ok (.newarray .boolean, 2) := by decide +kernel
theorem dX9_init_127 : decode cX9_init 127 = .ok (.putfield 52, 3) := by decide +kernel
theorem dX9_init_130 : decode cX9_init 130 = .ok (.aload_n 0, 1) := by decide +kernel
theorem dX9_init_131 : decode cX9_init 131 = .ok (.bipush 12, 2) := by decide +kernel
theorem dX9_init_133 : decode cX9_init 133 = .ok (.newarray .boolean, 2) := by decide +kernel
theorem dX9_init_135 : decode cX9_init 135 = .ok (.putfield 56, 3) := by decide +kernel
theorem dX9_init_138 : decode cX9_init 138 = .ok (.aload_n 0, 1) := by decide +kernel
theorem dX9_init_139 : decode cX9_init 139 = .ok (.iconst 4, 1) := by decide +kernel
theorem dX9_init_140 : decode cX9_init 140 = .ok (.newarray .int, 2) := by decide +kernel
theorem dX9_init_142 : decode cX9_init 142 = .ok (.putfield 59, 3) := by decide +kernel
theorem dX9_init_145 : decode cX9_init 145 = .ok (.aload_n 0, 1) := by decide +kernel
theorem dX9_init_146 : decode cX9_init 146 = .ok (.sipush 200, 3) := by decide +kernel
theorem dX9_init_149 : decode cX9_init 149 = .ok (.newarray .boolean, 2) := by decide +kernel
theorem dX9_init_151 : decode cX9_init 151 = .ok (.putfield 62, 3) := by decide +kernel
theorem dX9_init_154 : decode cX9_init 154 = .ok (.aload_n 0, 1) := by decide +kernel
theorem dX9_init_155 : decode cX9_init 155 = .ok (.bipush 12, 2) := by decide +kernel
theorem dX9_init_157 : decode cX9_init 157 = .ok (.newarray .int, 2) := by decide +kernel
theorem dX9_init_159 : decode cX9_init 159 = .ok (.putfield 65, 3) := by decide +kernel
theorem dX9_init_162 : decode cX9_init 162 = .ok (.return_, 1) := by decide +kernel
theorem dX9_in_0 : decode cX9_in 0 = .ok (.iload_n 0, 1) := by decide +kernel
theorem dX9_in_1 : decode cX9_in 1 = .ok (.iload_n 1, 1) := by decide +kernel
theorem dX9_in_2 : decode cX9_in 2 = .ok (.if_icmp .lt 12, 3) := by decide +kernel
theorem dX9_in_5 : decode cX9_in 5 = .ok (.iload_n 0, 1) := by decide +kernel
theorem dX9_in_6 : decode cX9_in 6 = .ok (.iload_n 2, 1) := by decide +kernel
theorem dX9_in_7 : decode cX9_in 7 = .ok (.if_icmp .gt 7, 3) := by decide +kernel
theorem dX9_in_10 : decode cX9_in 10 = .ok (.iconst 1, 1) := by decide +kernel
theorem dX9_in_11 : decode cX9_in 11 = .ok (.goto 4, 3) := by decide +kernel
theorem dX9_in_14 : decode cX9_in 14 = .ok (.iconst 0, 1) := by decide +kernel
theorem dX9_in_15 : decode cX9_in 15 = .ok (.ireturn, 1) := by decide +kernel
theorem dX9_isKind_0 : decode cX9_isKind 0 = .ok (.iload_n 0, 1) := by decide +kernel
theorem dX9_isKind_1 : decode cX9_isKind 1 = .ok (.iconst 0, 1) := by decide +kernel
theorem dX9_isKind_2 : decode cX9_isKind 2 = .ok (.iconst 5, 1) := by decide +kernel
theorem dX9_isKind_3 : decode cX9_isKind 3 = .ok (.invokestatic 68, 3) := by decide +kernel
theorem dX9_isKind_6 : decode cX9_isKind 6 = .ok (.ireturn, 1) := by decide +kernel
theorem dX9_isBranch_0 : decode cX9_isBranch 0 = .ok (.iload_n 0, 1) := by decide +kernel
theorem dX9_isBranch_1 : decode cX9_isBranch 1 = .ok (.ifCond .lt 32, 3) := by decide +kernel
theorem dX9_isBranch_4 : decode cX9_isBranch 4 = .ok (.iload_n 0, 1) := by decide +kernel
theorem dX9_isBranch_5 : decode cX9_isBranch 5 = .ok (.sipush 1000, 3) := by decide +kernel
theorem dX9_isBranch_8 : decode cX9_isBranch 8 = .ok (.idiv, 1) := by decide +kernel
theorem dX9_isBranch_9 : decode cX9_isBranch 9 = .ok (.iconst 4, 1) := by decide +kernel
theorem dX9_isBranch_10 : decode cX9_isBranch 10 = .ok (.if_icmp .ge 23, 3) := by decide +kernel
theorem dX9_isBranch_13 : decode cX9_isBranch 13 = .ok (.iload_n 0, 1) := by decide +kernel
theorem dX9_isBranch_14 : decode cX9_isBranch 14 = .ok (.bipush 100, 2) := by decide +kernel
theorem dX9_isBranch_16 : decode cX9_isBranch 16 = .ok (.idiv, 1) := by decide +kernel
theorem dX9_isBranch_17 : decode cX9_isBranch 17 = .ok (.bipush 10, 2) := by decide +kernel
theorem dX9_isBranch_19 : decode cX9_isBranch 19 = .ok (.irem, 1) := by decide +kernel
theorem dX9_isBranch_20 : decode cX9_isBranch 20 = .ok (.iconst 2, 1) := by decide +kernel
theorem dX9_isBranch_21 : decode cX9_isBranch 21 = .ok (.if_icmp .gt 12, 3) := by decide +kernel
theorem dX9_isBranch_24 : decode cX9_isBranch 24 = .ok (.iload_n 0, 1) := by decide +kernel
theorem dX9_isBranch_25 : decode cX9_isBranch 25 = .ok (.bipush 100, 2) := by decide +kernel
theorem dX9_isBranch_27 : decode cX9_isBranch 27 = .ok (.irem, 1) := by decide +kernel
theorem dX9_isBranch_28 : decode cX9_isBranch 28 = .ok (.bipush 16, 2) := by decide +kernel
theorem dX9_isBranch_30 : decode cX9_isBranch 30 = .ok (.if_icmp .lt 5, 3) := by decide +kernel
theorem dX9_isBranch_33 : decode cX9_isBranch 33 = .ok (.iconst 0, 1) := by decide +kernel
theorem dX9_isBranch_34 : decode cX9_isBranch 34 = .ok (.ireturn, 1) := by decide +kernel
theorem dX9_isBranch_35 : decode cX9_isBranch 35 = .ok (.iload_n 1, 1) := by decide +kernel
theorem dX9_isBranch_36 : decode cX9_isBranch 36 = .ok (.ifCond .lt 34, 3) := by decide +kernel
theorem dX9_isBranch_39 : decode cX9_isBranch 39 = .ok (.iload_n 1, 1) := by decide +kernel
theorem dX9_isBranch_40 : decode cX9_isBranch 40 = .ok (.sipush 10000, 3) := by decide +kernel
theorem dX9_isBranch_43 : decode cX9_isBranch 43 = .ok (.idiv, 1) := by decide +kernel
theorem dX9_isBranch_44 : decode cX9_isBranch 44 = .ok (.iconst 4, 1) := by decide +kernel
theorem dX9_isBranch_45 : decode cX9_isBranch 45 = .ok (.if_icmp .ge 25, 3) := by decide +kernel
theorem dX9_isBranch_48 : decode cX9_isBranch 48 = .ok (.iload_n 1, 1) := by decide +kernel
theorem dX9_isBranch_49 : decode cX9_isBranch 49 = .ok (.bipush 100, 2) := by decide +kernel
theorem dX9_isBranch_51 : decode cX9_isBranch 51 = .ok (.irem, 1) := by decide +kernel
theorem dX9_isBranch_52 : decode cX9_isBranch 52 = .ok (.bipush 16, 2) := by decide +kernel
theorem dX9_isBranch_54 : decode cX9_isBranch 54 = .ok (.if_icmp .ge 16, 3) := by decide +kernel
theorem dX9_isBranch_57 : decode cX9_isBranch 57 = .ok (.iload_n 2, 1) := by decide +kernel
theorem dX9_isBranch_58 : decode cX9_isBranch 58 = .ok (.iconst 0, 1) := by decide +kernel
theorem dX9_isBranch_59 : decode cX9_isBranch 59 = .ok (.iconst 3, 1) := by decide +kernel
theorem dX9_isBranch_60 : decode cX9_isBranch 60 = .ok (.invokestatic 68, 3) := by decide +kernel
theorem dX9_isBranch_63 : decode cX9_isBranch 63 = .ok (.ifCond .eq 7, 3) := by decide +kernel
theorem dX9_isBranch_66 : decode cX9_isBranch 66 = .ok (.iconst 1, 1) := by decide +kernel
theorem dX9_isBranch_67 : decode cX9_isBranch 67 = .ok (.goto 4, 3) := by decide +kernel
theorem dX9_isBranch_70 : decode cX9_isBranch 70 = .ok (.iconst 0, 1) := by decide +kernel
theorem dX9_isBranch_71 : decode cX9_isBranch 71 = .ok (.ireturn, 1) := by decide +kernel
theorem dX9_tells_0 : decode cX9_tells 0 = .ok (.aload_n 0, 1) := by decide +kernel
theorem dX9_tells_1 : decode cX9_tells 1 = .ok (.getfield 13, 3) := by decide +kernel
theorem dX9_tells_4 : decode cX9_tells 4 = .ok (.iload_n 1, 1) := by decide +kernel
theorem dX9_tells_5 : decode cX9_tells 5 = .ok (.iload_n 2, 1) := by decide +kernel
theorem dX9_tells_6 : decode cX9_tells 6 = .ok (.iastore, 1) := by decide +kernel
theorem dX9_tells_7 : decode cX9_tells 7 = .ok (.aload_n 0, 1) := by decide +kernel
theorem dX9_tells_8 : decode cX9_tells 8 = .ok (.getfield 16, 3) := by decide +kernel
theorem dX9_tells_11 : decode cX9_tells 11 = .ok (.iload_n 1, 1) := by decide +kernel
theorem dX9_tells_12 : decode cX9_tells 12 = .ok (.iload_n 3, 1) := by decide +kernel
theorem dX9_tells_13 : decode cX9_tells 13 = .ok (.iastore, 1) := by decide +kernel
theorem dX9_tells_14 : decode cX9_tells 14 = .ok (.aload_n 0, 1) := by decide +kernel
theorem dX9_tells_15 : decode cX9_tells 15 = .ok (.getfield 19, 3) := by decide +kernel
theorem dX9_tells_18 : decode cX9_tells 18 = .ok (.iload_n 1, 1) := by decide +kernel
theorem dX9_tells_19 : decode cX9_tells 19 = .ok (.iload 4, 2) := by decide +kernel
theorem dX9_tells_21 : decode cX9_tells 21 = .ok (.iastore, 1) := by decide +kernel
theorem dX9_tells_22 : decode cX9_tells 22 = .ok (.return_, 1) := by decide +kernel
theorem dX9_branch_0 : decode cX9_branch 0 = .ok (.iload_n 1, 1) := by decide +kernel
theorem dX9_branch_1 : decode cX9_branch 1 = .ok (.invokestatic 72, 3) := by decide +kernel
theorem dX9_branch_4 : decode cX9_branch 4 = .ok (.ifCond .eq 23, 3) := by decide +kernel
theorem dX9_branch_7 : decode cX9_branch 7 = .ok (.iload_n 2, 1) := by decide +kernel
theorem dX9_branch_8 : decode cX9_branch 8 = .ok (.iload_n 3, 1) := by decide +kernel
theorem dX9_branch_9 : decode cX9_branch 9 = .ok (.iload 4, 2) := by decide +kernel
theorem dX9_branch_11 : decode cX9_branch 11 = .ok (.invokestatic 76, 3) := by decide +kernel
theorem dX9_branch_14 : decode cX9_branch 14 = .ok (.ifCond .eq 13, 3) := by decide +kernel
theorem dX9_branch_17 : decode cX9_branch 17 = .ok (.aload_n 0, 1) := by decide +kernel
theorem dX9_branch_18 : decode cX9_branch 18 = .ok (.getfield 9, 3) := by decide +kernel
theorem dX9_branch_21 : decode cX9_branch 21 = .ok (.iload_n 1, 1) := by decide +kernel
theorem dX9_branch_22 : decode cX9_branch 22 = .ok (.iaload, 1) := by decide +kernel
theorem dX9_branch_23 : decode cX9_branch 23 = .ok (.iconst 4, 1) := by decide +kernel
theorem dX9_branch_24 : decode cX9_branch 24 = .ok (.if_icmp .ne 5, 3) := by decide +kernel
theorem dX9_branch_27 : decode cX9_branch 27 = .ok (.iconst (-1), 1) := by decide +kernel
theorem dX9_branch_28 : decode cX9_branch 28 = .ok (.ireturn, 1) := by decide +kernel
theorem dX9_branch_29 : decode cX9_branch 29 = .ok (.aload_n 0, 1) := by decide +kernel
theorem dX9_branch_30 : decode cX9_branch 30 = .ok (.iconst 4, 1) := by decide +kernel
theorem dX9_branch_31 : decode cX9_branch 31 = .ok (.iload_n 1, 1) := by decide +kernel
theorem dX9_branch_32 : decode cX9_branch 32 = .ok (.imul, 1) := by decide +kernel
theorem dX9_branch_33 : decode cX9_branch 33 = .ok (.aload_n 0, 1) := by decide +kernel
theorem dX9_branch_34 : decode cX9_branch 34 = .ok (.getfield 9, 3) := by decide +kernel
theorem dX9_branch_37 : decode cX9_branch 37 = .ok (.iload_n 1, 1) := by decide +kernel
theorem dX9_branch_38 : decode cX9_branch 38 = .ok (.iaload, 1) := by decide +kernel
theorem dX9_branch_39 : decode cX9_branch 39 = .ok (.iadd, 1) := by decide +kernel
theorem dX9_branch_40 : decode cX9_branch 40 = .ok (.iload_n 2, 1) := by decide +kernel
theorem dX9_branch_41 : decode cX9_branch 41 = .ok (.iload_n 3, 1) := by decide +kernel
theorem dX9_branch_42 : decode cX9_branch 42 = .ok (.iload 4, 2) := by decide +kernel
theorem dX9_branch_44 : decode cX9_branch 44 = .ok (.invokevirtual 79, 3) := by decide +kernel
theorem dX9_branch_47 : decode cX9_branch 47 = .ok (.iconst 0, 1) := by decide +kernel
theorem dX9_branch_48 : decode cX9_branch 48 = .ok (.istore 5, 2) := by decide +kernel
theorem dX9_branch_50 : decode cX9_branch 50 = .ok (.iload 5, 2) := by decide +kernel
theorem dX9_branch_52 : decode cX9_branch 52 = .ok (.aload_n 0, 1) := by decide +kernel
theorem dX9_branch_53 : decode cX9_branch 53 = .ok (.getfield 83, 3) := by decide +kernel
theorem dX9_branch_56 : decode cX9_branch 56 = .ok (.if_icmp .ge 111, 3) := by decide +kernel
theorem dX9_branch_59 : decode cX9_branch 59 = .ok (.aload_n 0, 1) := by decide +kernel
theorem dX9_branch_60 : decode cX9_branch 60 = .ok (.getfield 49, 3) := by decide +kernel
theorem dX9_branch_63 : decode cX9_branch 63 = .ok (.iload 5, 2) := by decide +kernel
theorem dX9_branch_65 : decode cX9_branch 65 = .ok (.iaload, 1) := by decide +kernel
theorem dX9_branch_66 : decode cX9_branch 66 = .ok (.iconst 4, 1) := by decide +kernel
theorem dX9_branch_67 : decode cX9_branch 67 = .ok (.iload_n 1, 1) := by decide +kernel
theorem dX9_branch_68 : decode cX9_branch 68 = .ok (.imul, 1) := by decide +kernel
theorem dX9_branch_69 : decode cX9_branch 69 = .ok (.ishr, 1) := by decide +kernel
theorem dX9_branch_70 : decode cX9_branch 70 = .ok (.bipush 15, 2) := by decide +kernel
theorem dX9_branch_72 : decode cX9_branch 72 = .ok (.iand, 1) := by decide +kernel
theorem dX9_branch_73 : decode cX9_branch 73 = .ok (.ifCond .eq 7, 3) := by decide +kernel
theorem dX9_branch_76 : decode cX9_branch 76 = .ok (.iconst 1, 1) := by decide +kernel
theorem dX9_branch_77 : decode cX9_branch 77 = .ok (.goto 4, 3) := by decide +kernel
theorem dX9_branch_80 : decode cX9_branch 80 = .ok (.iconst 0, 1) := by decide +kernel
theorem dX9_branch_81 : decode cX9_branch 81 = .ok (.istore 6, 2) := by decide +kernel
theorem dX9_branch_83 : decode cX9_branch 83 = .ok (.iconst 0, 1) := by decide +kernel
theorem dX9_branch_84 : decode cX9_branch 84 = .ok (.istore 7, 2) := by decide +kernel
theorem dX9_branch_86 : decode cX9_branch 86 = .ok (.iload 7, 2) := by decide +kernel
theorem dX9_branch_88 : decode cX9_branch 88 = .ok (.aload_n 0, 1) := by decide +kernel
theorem dX9_branch_89 : decode cX9_branch 89 = .ok (.getfield 37, 3) := by decide +kernel
theorem dX9_branch_92 : decode cX9_branch 92 = .ok (.iload 5, 2) := by decide +kernel
theorem dX9_branch_94 : decode cX9_branch 94 = .ok (.iaload, 1) := by decide +kernel
theorem dX9_branch_95 : decode cX9_branch 95 = .ok (.if_icmp .ge 39, 3) := by decide +kernel
theorem dX9_branch_98 : decode cX9_branch 98 = .ok (.iload 6, 2) := by decide +kernel
theorem dX9_branch_100 : decode cX9_branch 100 = .ok (.ifCond .ne 21, 3) := by decide +kernel
theorem dX9_branch_103 : decode cX9_branch 103 = .ok (.aload_n 0, 1) := by decide +kernel
theorem dX9_branch_104 : decode cX9_branch 104 = .ok (.getfield 40, 3) := by decide +kernel
theorem dX9_branch_107 : decode cX9_branch 107 = .ok (.sipush 200, 3) := by decide +kernel
theorem dX9_branch_110 : decode cX9_branch 110 = .ok (.iload 5, 2) := by decide +kernel
theorem dX9_branch_112 : decode cX9_branch 112 = .ok (.imul, 1) := by decide +kernel
theorem dX9_branch_113 : decode cX9_branch 113 = .ok (.iload 7, 2) := by decide +kernel
theorem dX9_branch_115 : decode cX9_branch 115 = .ok (.iadd, 1) := by decide +kernel
theorem dX9_branch_116 : decode cX9_branch 116 = .ok (.iaload, 1) := by decide +kernel
theorem dX9_branch_117 : decode cX9_branch 117 = .ok (.iload_n 1, 1) := by decide +kernel
theorem dX9_branch_118 : decode cX9_branch 118 = .ok (.if_icmp .ne 7, 3) := by decide +kernel
theorem dX9_branch_121 : decode cX9_branch 121 = .ok (.iconst 1, 1) := by decide +kernel
theorem dX9_branch_122 : decode cX9_branch 122 = .ok (.goto 4, 3) := by decide +kernel
theorem dX9_branch_125 : decode cX9_branch 125 = .ok (.iconst 0, 1) := by decide +kernel
theorem dX9_branch_126 : decode cX9_branch 126 = .ok (.istore 6, 2) := by decide +kernel
theorem dX9_branch_128 : decode cX9_branch 128 = .ok (.iinc 7 1, 3) := by decide +kernel
theorem dX9_branch_131 : decode cX9_branch 131 = .ok (.goto (-45), 3) := by decide +kernel
theorem dX9_branch_134 : decode cX9_branch 134 = .ok (.aload_n 0, 1) := by decide +kernel
theorem dX9_branch_135 : decode cX9_branch 135 = .ok (.getfield 52, 3) := by decide +kernel
theorem dX9_branch_138 : decode cX9_branch 138 = .ok (.iload 5, 2) := by decide +kernel
theorem dX9_branch_140 : decode cX9_branch 140 = .ok (.aload_n 0, 1) := by decide +kernel
theorem dX9_branch_141 : decode cX9_branch 141 = .ok (.getfield 52, 3) := by decide +kernel
theorem dX9_branch_144 : decode cX9_branch 144 = .ok (.iload 5, 2) := by decide +kernel
theorem dX9_branch_146 : decode cX9_branch 146 = .ok (.baload, 1) := by decide +kernel
theorem dX9_branch_147 : decode cX9_branch 147 = .ok (.ifCond .ne 8, 3) := by decide +kernel
theorem dX9_branch_150 : decode cX9_branch 150 = .ok (.iload 6, 2) := by decide +kernel
theorem dX9_branch_152 : decode cX9_branch 152 = .ok (.ifCond .eq 7, 3) := by decide +kernel
theorem dX9_branch_155 : decode cX9_branch 155 = .ok (.iconst 1, 1) := by decide +kernel
theorem dX9_branch_156 : decode cX9_branch 156 = .ok (.goto 4, 3) := by decide +kernel
theorem dX9_branch_159 : decode cX9_branch 159 = .ok (.iconst 0, 1) := by decide +kernel
theorem dX9_branch_160 : decode cX9_branch 160 = .ok (.bastore, 1) := by decide +kernel
theorem dX9_branch_161 : decode cX9_branch 161 = .ok (.iinc 5 1, 3) := by decide +kernel
theorem dX9_branch_164 : decode cX9_branch 164 = .ok (.goto (-114), 3) := by decide +kernel
theorem dX9_branch_167 : decode cX9_branch 167 = .ok (.aload_n 0, 1) := by decide +kernel
theorem dX9_branch_168 : decode cX9_branch 168 = .ok (.getfield 9, 3) := by decide +kernel
theorem dX9_branch_171 : decode cX9_branch 171 = .ok (.iload_n 1, 1) := by decide +kernel
theorem dX9_branch_172 : decode cX9_branch 172 = .ok (.dup2, 1) := by decide +kernel
theorem dX9_branch_173 : decode cX9_branch 173 = .ok (.iaload, 1) := by decide +kernel
theorem dX9_branch_174 : decode cX9_branch 174 = .ok (.iconst 1, 1) := by decide +kernel
theorem dX9_branch_175 : decode cX9_branch 175 = .ok (.iadd, 1) := by decide +kernel
theorem dX9_branch_176 : decode cX9_branch 176 = .ok (.iastore, 1) := by decide +kernel
theorem dX9_branch_177 : decode cX9_branch 177 = .ok (.aload_n 0, 1) := by decide +kernel
theorem dX9_branch_178 : decode cX9_branch 178 = .ok (.getfield 9, 3) := by decide +kernel
theorem dX9_branch_181 : decode cX9_branch 181 = .ok (.iload_n 1, 1) := by decide +kernel
theorem dX9_branch_182 : decode cX9_branch 182 = .ok (.iaload, 1) := by decide +kernel
theorem dX9_branch_183 : decode cX9_branch 183 = .ok (.ireturn, 1) := by decide +kernel
theorem dX9_isThere_0 : decode cX9_isThere 0 = .ok (.iload_n 1, 1) := by decide +kernel
theorem dX9_isThere_1 : decode cX9_isThere 1 = .ok (.iconst 0, 1) := by decide +kernel
theorem dX9_isThere_2 : decode cX9_isThere 2 = .ok (.bipush 23, 2) := by decide +kernel
theorem dX9_isThere_4 : decode cX9_isThere 4 = .ok (.invokestatic 68, 3) := by decide +kernel
theorem dX9_isThere_7 : decode cX9_isThere 7 = .ok (.ifCond .eq 21, 3) := by decide +kernel
theorem dX9_isThere_10 : decode cX9_isThere 10 = .ok (.iload_n 1, 1) := by decide +kernel
theorem dX9_isThere_11 : decode cX9_isThere 11 = .ok (.iconst 4, 1) := by decide +kernel
theorem dX9_isThere_12 : decode cX9_isThere 12 = .ok (.irem, 1) := by decide +kernel
theorem dX9_isThere_13 : decode cX9_isThere 13 = .ok (.aload_n 0, 1) := by decide +kernel
theorem dX9_isThere_14 : decode cX9_isThere 14 = .ok (.getfield 9, 3) := by decide +kernel
theorem dX9_isThere_17 : decode cX9_isThere 17 = .ok (.iload_n 1, 1) := by decide +kernel
theorem dX9_isThere_18 : decode cX9_isThere 18 = .ok (.iconst 4, 1) := by decide +kernel
theorem dX9_isThere_19 : decode cX9_isThere 19 = .ok (.idiv, 1) := by decide +kernel
theorem dX9_isThere_20 : decode cX9_isThere 20 = .ok (.iaload, 1) := by decide +kernel
theorem dX9_isThere_21 : decode cX9_isThere 21 = .ok (.if_icmp .ge 7, 3) := by decide +kernel
theorem dX9_isThere_24 : decode cX9_isThere 24 = .ok (.iconst 1, 1) := by decide +kernel
theorem dX9_isThere_25 : decode cX9_isThere 25 = .ok (.goto 4, 3) := by decide +kernel
theorem dX9_isThere_28 : decode cX9_isThere 28 = .ok (.iconst 0, 1) := by decide +kernel
theorem dX9_isThere_29 : decode cX9_isThere 29 = .ok (.ireturn, 1) := by decide +kernel
theorem dX9_change_0 : decode cX9_change 0 = .ok (.aload_n 0, 1) := by decide +kernel
theorem dX9_change_1 : decode cX9_change 1 = .ok (.iload_n 1, 1) := by decide +kernel
theorem dX9_change_2 : decode cX9_change 2 = .ok (.invokevirtual 87, 3) := by decide +kernel
theorem dX9_change_5 : decode cX9_change 5 = .ok (.ifCond .eq 13, 3) := by decide +kernel
theorem dX9_change_8 : decode cX9_change 8 = .ok (.iload_n 2, 1) := by decide +kernel
theorem dX9_change_9 : decode cX9_change 9 = .ok (.iload_n 3, 1) := by decide +kernel
theorem dX9_change_10 : decode cX9_change 10 = .ok (.iload 4, 2) := by decide +kernel
theorem dX9_change_12 : decode cX9_change 12 = .ok (.invokestatic 76, 3) := by decide +kernel
theorem dX9_change_15 : decode cX9_change 15 = .ok (.ifCond .ne 5, 3) := by decide +kernel
theorem dX9_change_18 : decode cX9_change 18 = .ok (.iconst 0, 1) := by decide +kernel
theorem dX9_change_19 : decode cX9_change 19 = .ok (.ireturn, 1) := by decide +kernel
theorem dX9_change_20 : decode cX9_change 20 = .ok (.aload_n 0, 1) := by decide +kernel
theorem dX9_change_21 : decode cX9_change 21 = .ok (.iload_n 1, 1) := by decide +kernel
theorem dX9_change_22 : decode cX9_change 22 = .ok (.iload_n 2, 1) := by decide +kernel
theorem dX9_change_23 : decode cX9_change 23 = .ok (.iload_n 3, 1) := by decide +kernel
theorem dX9_change_24 : decode cX9_change 24 = .ok (.iload 4, 2) := by decide +kernel
theorem dX9_change_26 : decode cX9_change 26 = .ok (.invokevirtual 79, 3) := by decide +kernel
theorem dX9_change_29 : decode cX9_change 29 = .ok (.iconst 0, 1) := by decide +kernel
theorem dX9_change_30 : decode cX9_change 30 = .ok (.istore 5, 2) := by decide +kernel
theorem dX9_change_32 : decode cX9_change 32 = .ok (.iload 5, 2) := by decide +kernel
theorem dX9_change_34 : decode cX9_change 34 = .ok (.aload_n 0, 1) := by decide +kernel
theorem dX9_change_35 : decode cX9_change 35 = .ok (.getfield 83, 3) := by decide +kernel
theorem dX9_change_38 : decode cX9_change 38 = .ok (.if_icmp .ge 46, 3) := by decide +kernel
theorem dX9_change_41 : decode cX9_change 41 = .ok (.aload_n 0, 1) := by decide +kernel
theorem dX9_change_42 : decode cX9_change 42 = .ok (.getfield 52, 3) := by decide +kernel
theorem dX9_change_45 : decode cX9_change 45 = .ok (.iload 5, 2) := by decide +kernel
theorem dX9_change_47 : decode cX9_change 47 = .ok (.aload_n 0, 1) := by decide +kernel
theorem dX9_change_48 : decode cX9_change 48 = .ok (.getfield 52, 3) := by decide +kernel
theorem dX9_change_51 : decode cX9_change 51 = .ok (.iload 5, 2) := by decide +kernel
theorem dX9_change_53 : decode cX9_change 53 = .ok (.baload, 1) := by decide +kernel
theorem dX9_change_54 : decode cX9_change 54 = .ok (.ifCond .ne 18, 3) := by decide +kernel
theorem dX9_change_57 : decode cX9_change 57 = .ok (.aload_n 0, 1) := by decide +kernel
theorem dX9_change_58 : decode cX9_change 58 = .ok (.getfield 49, 3) := by decide +kernel
theorem dX9_change_61 : decode cX9_change 61 = .ok (.iload 5, 2) := by decide +kernel
theorem dX9_change_63 : decode cX9_change 63 = .ok (.iaload, 1) := by decide +kernel
theorem dX9_change_64 : decode cX9_change 64 = .ok (.iload_n 1, 1) := by decide +kernel
theorem dX9_change_65 : decode cX9_change 65 = .ok (.ishr, 1) := by decide +kernel
theorem dX9_change_66 : decode cX9_change 66 = .ok (.iconst 1, 1) := by decide +kernel
theorem dX9_change_67 : decode cX9_change 67 = .ok (.iand, 1) := by decide +kernel
theorem dX9_change_68 : decode cX9_change 68 = .ok (.iconst 1, 1) := by decide +kernel
theorem dX9_change_69 : decode cX9_change 69 = .ok (.if_icmp .ne 7, 3) := by decide +kernel
theorem dX9_change_72 : decode cX9_change 72 = .ok (.iconst 1, 1) := by decide +kernel
theorem dX9_change_73 : decode cX9_change 73 = .ok (.goto 4, 3) := by decide +kernel
theorem dX9_change_76 : decode cX9_change 76 = .ok (.iconst 0, 1) := by decide +kernel
theorem dX9_change_77 : decode cX9_change 77 = .ok (.bastore, 1) := by decide +kernel
theorem dX9_change_78 : decode cX9_change 78 = .ok (.iinc 5 1, 3) := by decide +kernel
theorem dX9_change_81 : decode cX9_change 81 = .ok (.goto (-49), 3) := by decide +kernel
theorem dX9_change_84 : decode cX9_change 84 = .ok (.iconst 1, 1) := by decide +kernel
theorem dX9_change_85 : decode cX9_change 85 = .ok (.ireturn, 1) := by decide +kernel
theorem dX9_begins_0 : decode cX9_begins 0 = .ok (.iconst 0, 1) := by decide +kernel
theorem dX9_begins_1 : decode cX9_begins 1 = .ok (.istore_n 1, 1) := by decide +kernel
theorem dX9_begins_2 : decode cX9_begins 2 = .ok (.iload_n 1, 1) := by decide +kernel
theorem dX9_begins_3 : decode cX9_begins 3 = .ok (.iconst 4, 1) := by decide +kernel
theorem dX9_begins_4 : decode cX9_begins 4 = .ok (.if_icmp .ge 16, 3) := by decide +kernel
theorem dX9_begins_7 : decode cX9_begins 7 = .ok (.aload_n 0, 1) := by decide +kernel
theorem dX9_begins_8 : decode cX9_begins 8 = .ok (.getfield 59, 3) := by decide +kernel
theorem dX9_begins_11 : decode cX9_begins 11 = .ok (.iload_n 1, 1) := by decide +kernel
theorem dX9_begins_12 : decode cX9_begins 12 = .ok (.iconst 0, 1) := by decide +kernel
theorem dX9_begins_13 : decode cX9_begins 13 = .ok (.iastore, 1) := by decide +kernel
theorem dX9_begins_14 : decode cX9_begins 14 = .ok (.iinc 1 1, 3) := by decide +kernel
theorem dX9_begins_17 : decode cX9_begins 17 = .ok (.goto (-15), 3) := by decide +kernel
theorem dX9_begins_20 : decode cX9_begins 20 = .ok (.return_, 1) := by decide +kernel
theorem dX9_holds_0 : decode cX9_holds 0 = .ok (.aload_n 0, 1) := by decide +kernel
theorem dX9_holds_1 : decode cX9_holds 1 = .ok (.getfield 59, 3) := by decide +kernel
theorem dX9_holds_4 : decode cX9_holds 4 = .ok (.aload_n 0, 1) := by decide +kernel
theorem dX9_holds_5 : decode cX9_holds 5 = .ok (.getfield 13, 3) := by decide +kernel
theorem dX9_holds_8 : decode cX9_holds 8 = .ok (.iload_n 1, 1) := by decide +kernel
theorem dX9_holds_9 : decode cX9_holds 9 = .ok (.iaload, 1) := by decide +kernel
theorem dX9_holds_10 : decode cX9_holds 10 = .ok (.sipush 1000, 3) := by decide +kernel
theorem dX9_holds_13 : decode cX9_holds 13 = .ok (.idiv, 1) := by decide +kernel
theorem dX9_holds_14 : decode cX9_holds 14 = .ok (.iaload, 1) := by decide +kernel
theorem dX9_holds_15 : decode cX9_holds 15 = .ok (.istore_n 2, 1) := by decide +kernel
theorem dX9_holds_16 : decode cX9_holds 16 = .ok (.aload_n 0, 1) := by decide +kernel
theorem dX9_holds_17 : decode cX9_holds 17 = .ok (.getfield 13, 3) := by decide +kernel
theorem dX9_holds_20 : decode cX9_holds 20 = .ok (.iload_n 1, 1) := by decide +kernel
theorem dX9_holds_21 : decode cX9_holds 21 = .ok (.iaload, 1) := by decide +kernel
theorem dX9_holds_22 : decode cX9_holds 22 = .ok (.bipush 100, 2) := by decide +kernel
theorem dX9_holds_24 : decode cX9_holds 24 = .ok (.irem, 1) := by decide +kernel
theorem dX9_holds_25 : decode cX9_holds 25 = .ok (.istore_n 3, 1) := by decide +kernel
theorem dX9_holds_26 : decode cX9_holds 26 = .ok (.aload_n 0, 1) := by decide +kernel
theorem dX9_holds_27 : decode cX9_holds 27 = .ok (.getfield 13, 3) := by decide +kernel
theorem dX9_holds_30 : decode cX9_holds 30 = .ok (.iload_n 1, 1) := by decide +kernel
theorem dX9_holds_31 : decode cX9_holds 31 = .ok (.iaload, 1) := by decide +kernel
theorem dX9_holds_32 : decode cX9_holds 32 = .ok (.bipush 100, 2) := by decide +kernel
theorem dX9_holds_34 : decode cX9_holds 34 = .ok (.idiv, 1) := by decide +kernel
theorem dX9_holds_35 : decode cX9_holds 35 = .ok (.bipush 10, 2) := by decide +kernel
theorem dX9_holds_37 : decode cX9_holds 37 = .ok (.irem, 1) := by decide +kernel
theorem dX9_holds_38 : decode cX9_holds 38 = .ok (.istore 4, 2) := by decide +kernel
theorem dX9_holds_40 : decode cX9_holds 40 = .ok (.iload 4, 2) := by decide +kernel
theorem dX9_holds_42 : decode cX9_holds 42 = .ok (.ifCond .ne 16, 3) := by decide +kernel
theorem dX9_holds_45 : decode cX9_holds 45 = .ok (.iload_n 2, 1) := by decide +kernel
theorem dX9_holds_46 : decode cX9_holds 46 = .ok (.iload_n 3, 1) := by decide +kernel
theorem dX9_holds_47 : decode cX9_holds 47 = .ok (.if_icmp .ge 7, 3) := by decide +kernel
theorem dX9_holds_50 : decode cX9_holds 50 = .ok (.iconst 1, 1) := by decide +kernel
theorem dX9_holds_51 : decode cX9_holds 51 = .ok (.goto 36, 3) := by decide +kernel
theorem dX9_holds_54 : decode cX9_holds 54 = .ok (.iconst 0, 1) := by decide +kernel
theorem dX9_holds_55 : decode cX9_holds 55 = .ok (.goto 32, 3) := by decide +kernel
theorem dX9_holds_58 : decode cX9_holds 58 = .ok (.iload 4, 2) := by decide +kernel
theorem dX9_holds_60 : decode cX9_holds 60 = .ok (.iconst 1, 1) := by decide +kernel
theorem dX9_holds_61 : decode cX9_holds 61 = .ok (.if_icmp .ne 16, 3) := by decide +kernel
theorem dX9_holds_64 : decode cX9_holds 64 = .ok (.iload_n 2, 1) := by decide +kernel
theorem dX9_holds_65 : decode cX9_holds 65 = .ok (.iload_n 3, 1) := by decide +kernel
theorem dX9_holds_66 : decode cX9_holds 66 = .ok (.if_icmp .ne 7, 3) := by decide +kernel
theorem dX9_holds_69 : decode cX9_holds 69 = .ok (.iconst 1, 1) := by decide +kernel
theorem dX9_holds_70 : decode cX9_holds 70 = .ok (.goto 17, 3) := by decide +kernel
theorem dX9_holds_73 : decode cX9_holds 73 = .ok (.iconst 0, 1) := by decide +kernel
theorem dX9_holds_74 : decode cX9_holds 74 = .ok (.goto 13, 3) := by decide +kernel
theorem dX9_holds_77 : decode cX9_holds 77 = .ok (.iload_n 2, 1) := by decide +kernel
theorem dX9_holds_78 : decode cX9_holds 78 = .ok (.iload_n 3, 1) := by decide +kernel
theorem dX9_holds_79 : decode cX9_holds 79 = .ok (.if_icmp .le 7, 3) := by decide +kernel
theorem dX9_holds_82 : decode cX9_holds 82 = .ok (.iconst 1, 1) := by decide +kernel
theorem dX9_holds_83 : decode cX9_holds 83 = .ok (.goto 4, 3) := by decide +kernel
theorem dX9_holds_86 : decode cX9_holds 86 = .ok (.iconst 0, 1) := by decide +kernel
theorem dX9_holds_87 : decode cX9_holds 87 = .ok (.ireturn, 1) := by decide +kernel
theorem dX9_goes_0 : decode cX9_goes 0 = .ok (.aload_n 0, 1) := by decide +kernel
theorem dX9_goes_1 : decode cX9_goes 1 = .ok (.iconst (-1), 1) := by decide +kernel
theorem dX9_goes_2 : decode cX9_goes 2 = .ok (.putfield 90, 3) := by decide +kernel
theorem dX9_goes_5 : decode cX9_goes 5 = .ok (.iconst 0, 1) := by decide +kernel
theorem dX9_goes_6 : decode cX9_goes 6 = .ok (.istore_n 3, 1) := by decide +kernel
theorem dX9_goes_7 : decode cX9_goes 7 = .ok (.iload_n 3, 1) := by decide +kernel
theorem dX9_goes_8 : decode cX9_goes 8 = .ok (.aload_n 0, 1) := by decide +kernel
theorem dX9_goes_9 : decode cX9_goes 9 = .ok (.getfield 9, 3) := by decide +kernel
theorem dX9_goes_12 : decode cX9_goes 12 = .ok (.iload_n 1, 1) := by decide +kernel
theorem dX9_goes_13 : decode cX9_goes 13 = .ok (.iaload, 1) := by decide +kernel
theorem dX9_goes_14 : decode cX9_goes 14 = .ok (.if_icmp .ge 38, 3) := by decide +kernel
theorem dX9_goes_17 : decode cX9_goes 17 = .ok (.aload_n 0, 1) := by decide +kernel
theorem dX9_goes_18 : decode cX9_goes 18 = .ok (.getfield 90, 3) := by decide +kernel
theorem dX9_goes_21 : decode cX9_goes 21 = .ok (.iconst (-1), 1) := by decide +kernel
theorem dX9_goes_22 : decode cX9_goes 22 = .ok (.if_icmp .ne 30, 3) := by decide +kernel
theorem dX9_goes_25 : decode cX9_goes 25 = .ok (.aload_n 0, 1) := by decide +kernel
theorem dX9_goes_26 : decode cX9_goes 26 = .ok (.iconst 4, 1) := by decide +kernel
theorem dX9_goes_27 : decode cX9_goes 27 = .ok (.iload_n 1, 1) := by decide +kernel
theorem dX9_goes_28 : decode cX9_goes 28 = .ok (.imul, 1) := by decide +kernel
theorem dX9_goes_29 : decode cX9_goes 29 = .ok (.iload_n 3, 1) := by decide +kernel
theorem dX9_goes_30 : decode cX9_goes 30 = .ok (.iadd, 1) := by decide +kernel
theorem dX9_goes_31 : decode cX9_goes 31 = .ok (.invokevirtual 93, 3) := by decide +kernel
theorem dX9_goes_34 : decode cX9_goes 34 = .ok (.ifCond .eq 12, 3) := by decide +kernel
theorem dX9_goes_37 : decode cX9_goes 37 = .ok (.aload_n 0, 1) := by decide +kernel
theorem dX9_goes_38 : decode cX9_goes 38 = .ok (.iconst 4, 1) := by decide +kernel
theorem dX9_goes_39 : decode cX9_goes 39 = .ok (.iload_n 1, 1) := by decide +kernel
theorem dX9_goes_40 : decode cX9_goes 40 = .ok (.imul, 1) := by decide +kernel
theorem dX9_goes_41 : decode cX9_goes 41 = .ok (.iload_n 3, 1) := by decide +kernel
theorem dX9_goes_42 : decode cX9_goes 42 = .ok (.iadd, 1) := by decide +kernel
theorem dX9_goes_43 : decode cX9_goes 43 = .ok (.putfield 90, 3) := by decide +kernel
theorem dX9_goes_46 : decode cX9_goes 46 = .ok (.iinc 3 1, 3) := by decide +kernel
theorem dX9_goes_49 : decode cX9_goes 49 = .ok (.goto (-42), 3) := by decide +kernel
theorem dX9_goes_52 : decode cX9_goes 52 = .ok (.aload_n 0, 1) := by decide +kernel
theorem dX9_goes_53 : decode cX9_goes 53 = .ok (.getfield 90, 3) := by decide +kernel
theorem dX9_goes_56 : decode cX9_goes 56 = .ok (.iconst (-1), 1) := by decide +kernel
theorem dX9_goes_57 : decode cX9_goes 57 = .ok (.if_icmp .ne 5, 3) := by decide +kernel
theorem dX9_goes_60 : decode cX9_goes 60 = .ok (.iconst (-1), 1) := by decide +kernel
theorem dX9_goes_61 : decode cX9_goes 61 = .ok (.ireturn, 1) := by decide +kernel
theorem dX9_goes_62 : decode cX9_goes 62 = .ok (.aload_n 0, 1) := by decide +kernel
theorem dX9_goes_63 : decode cX9_goes 63 = .ok (.getfield 16, 3) := by decide +kernel
theorem dX9_goes_66 : decode cX9_goes 66 = .ok (.aload_n 0, 1) := by decide +kernel
theorem dX9_goes_67 : decode cX9_goes 67 = .ok (.getfield 90, 3) := by decide +kernel
theorem dX9_goes_70 : decode cX9_goes 70 = .ok (.iaload, 1) := by decide +kernel
theorem dX9_goes_71 : decode cX9_goes 71 = .ok (.istore_n 3, 1) := by decide +kernel
theorem dX9_goes_72 : decode cX9_goes 72 = .ok (.iload_n 3, 1) := by decide +kernel
theorem dX9_goes_73 : decode cX9_goes 73 = .ok (.sipush 10000, 3) := by decide +kernel
theorem dX9_goes_76 : decode cX9_goes 76 = .ok (.idiv, 1) := by decide +kernel
theorem dX9_goes_77 : decode cX9_goes 77 = .ok (.istore 4, 2) := by decide +kernel
theorem dX9_goes_79 : decode cX9_goes 79 = .ok (.aload_n 0, 1) := by decide +kernel
theorem dX9_goes_80 : decode cX9_goes 80 = .ok (.getfield 59, 3) := by decide +kernel
theorem dX9_goes_83 : decode cX9_goes 83 = .ok (.iload 4, 2) := by decide +kernel
theorem dX9_goes_85 : decode cX9_goes 85 = .ok (.iload_n 3, 1) := by decide +kernel
theorem dX9_goes_86 : decode cX9_goes 86 = .ok (.sipush 1000, 3) := by decide +kernel
theorem dX9_goes_89 : decode cX9_goes 89 = .ok (.idiv, 1) := by decide +kernel
theorem dX9_goes_90 : decode cX9_goes 90 = .ok (.bipush 10, 2) := by decide +kernel
theorem dX9_goes_92 : decode cX9_goes 92 = .ok (.irem, 1) := by decide +kernel
theorem dX9_goes_93 : decode cX9_goes 93 = .ok (.aload_n 0, 1) := by decide +kernel
theorem dX9_goes_94 : decode cX9_goes 94 = .ok (.getfield 59, 3) := by decide +kernel
theorem dX9_goes_97 : decode cX9_goes 97 = .ok (.iload 4, 2) := by decide +kernel
theorem dX9_goes_99 : decode cX9_goes 99 = .ok (.iaload, 1) := by decide +kernel
theorem dX9_goes_100 : decode cX9_goes 100 = .ok (.imul, 1) := by decide +kernel
theorem dX9_goes_101 : decode cX9_goes 101 = .ok (.iload_n 3, 1) := by decide +kernel
theorem dX9_goes_102 : decode cX9_goes 102 = .ok (.bipush 100, 2) := by decide +kernel
theorem dX9_goes_104 : decode cX9_goes 104 = .ok (.idiv, 1) := by decide +kernel
theorem dX9_goes_105 : decode cX9_goes 105 = .ok (.bipush 10, 2) := by decide +kernel
theorem dX9_goes_107 : decode cX9_goes 107 = .ok (.irem, 1) := by decide +kernel
theorem dX9_goes_108 : decode cX9_goes 108 = .ok (.iload_n 2, 1) := by decide +kernel
theorem dX9_goes_109 : decode cX9_goes 109 = .ok (.imul, 1) := by decide +kernel
theorem dX9_goes_110 : decode cX9_goes 110 = .ok (.iadd, 1) := by decide +kernel
theorem dX9_goes_111 : decode cX9_goes 111 = .ok (.iload_n 3, 1) := by decide +kernel
theorem dX9_goes_112 : decode cX9_goes 112 = .ok (.bipush 100, 2) := by decide +kernel
theorem dX9_goes_114 : decode cX9_goes 114 = .ok (.irem, 1) := by decide +kernel
theorem dX9_goes_115 : decode cX9_goes 115 = .ok (.iadd, 1) := by decide +kernel
theorem dX9_goes_116 : decode cX9_goes 116 = .ok (.bipush 16, 2) := by decide +kernel
theorem dX9_goes_118 : decode cX9_goes 118 = .ok (.irem, 1) := by decide +kernel
theorem dX9_goes_119 : decode cX9_goes 119 = .ok (.iastore, 1) := by decide +kernel
theorem dX9_goes_120 : decode cX9_goes 120 = .ok (.aload_n 0, 1) := by decide +kernel
theorem dX9_goes_121 : decode cX9_goes 121 = .ok (.getfield 59, 3) := by decide +kernel
theorem dX9_goes_124 : decode cX9_goes 124 = .ok (.aload_n 0, 1) := by decide +kernel
theorem dX9_goes_125 : decode cX9_goes 125 = .ok (.getfield 19, 3) := by decide +kernel
theorem dX9_goes_128 : decode cX9_goes 128 = .ok (.aload_n 0, 1) := by decide +kernel
theorem dX9_goes_129 : decode cX9_goes 129 = .ok (.getfield 90, 3) := by decide +kernel
theorem dX9_goes_132 : decode cX9_goes 132 = .ok (.iaload, 1) := by decide +kernel
theorem dX9_goes_133 : decode cX9_goes 133 = .ok (.iaload, 1) := by decide +kernel
theorem dX9_goes_134 : decode cX9_goes 134 = .ok (.ireturn, 1) := by decide +kernel
theorem dX9_call_0 : decode cX9_call 0 = .ok (.iload_n 1, 1) := by decide +kernel
theorem dX9_call_1 : decode cX9_call 1 = .ok (.invokestatic 72, 3) := by decide +kernel
theorem dX9_call_4 : decode cX9_call 4 = .ok (.ifCond .eq 23, 3) := by decide +kernel
theorem dX9_call_7 : decode cX9_call 7 = .ok (.iload_n 2, 1) := by decide +kernel
theorem dX9_call_8 : decode cX9_call 8 = .ok (.iconst 0, 1) := by decide +kernel
theorem dX9_call_9 : decode cX9_call 9 = .ok (.bipush 15, 2) := by decide +kernel
theorem dX9_call_11 : decode cX9_call 11 = .ok (.invokestatic 68, 3) := by decide +kernel
theorem dX9_call_14 : decode cX9_call 14 = .ok (.ifCond .eq 13, 3) := by decide +kernel
theorem dX9_call_17 : decode cX9_call 17 = .ok (.aload_n 0, 1) := by decide +kernel
theorem dX9_call_18 : decode cX9_call 18 = .ok (.getfield 96, 3) := by decide +kernel
theorem dX9_call_21 : decode cX9_call 21 = .ok (.sipush 200, 3) := by decide +kernel
theorem dX9_call_24 : decode cX9_call 24 = .ok (.if_icmp .ne 5, 3) := by decide +kernel
theorem dX9_call_27 : decode cX9_call 27 = .ok (.iconst (-1), 1) := by decide +kernel
theorem dX9_call_28 : decode cX9_call 28 = .ok (.ireturn, 1) := by decide +kernel
theorem dX9_call_29 : decode cX9_call 29 = .ok (.iconst 0, 1) := by decide +kernel
theorem dX9_call_30 : decode cX9_call 30 = .ok (.istore_n 3, 1) := by decide +kernel
theorem dX9_call_31 : decode cX9_call 31 = .ok (.iload_n 3, 1) := by decide +kernel
theorem dX9_call_32 : decode cX9_call 32 = .ok (.iconst 4, 1) := by decide +kernel
theorem dX9_call_33 : decode cX9_call 33 = .ok (.if_icmp .ge 21, 3) := by decide +kernel
theorem dX9_call_36 : decode cX9_call 36 = .ok (.aload_n 0, 1) := by decide +kernel
theorem dX9_call_37 : decode cX9_call 37 = .ok (.getfield 59, 3) := by decide +kernel
theorem dX9_call_40 : decode cX9_call 40 = .ok (.iload_n 3, 1) := by decide +kernel
theorem dX9_call_41 : decode cX9_call 41 = .ok (.aload_n 0, 1) := by decide +kernel
theorem dX9_call_42 : decode cX9_call 42 = .ok (.getfield 34, 3) := by decide +kernel
theorem dX9_call_45 : decode cX9_call 45 = .ok (.iload_n 3, 1) := by decide +kernel
theorem dX9_call_46 : decode cX9_call 46 = .ok (.iaload, 1) := by decide +kernel
theorem dX9_call_47 : decode cX9_call 47 = .ok (.iastore, 1) := by decide +kernel
theorem dX9_call_48 : decode cX9_call 48 = .ok (.iinc 3 1, 3) := by decide +kernel
theorem dX9_call_51 : decode cX9_call 51 = .ok (.goto (-20), 3) := by decide +kernel
theorem dX9_call_54 : decode cX9_call 54 = .ok (.aload_n 0, 1) := by decide +kernel
theorem dX9_call_55 : decode cX9_call 55 = .ok (.iload_n 1, 1) := by decide +kernel
theorem dX9_call_56 : decode cX9_call 56 = .ok (.iload_n 2, 1) := by decide +kernel
theorem dX9_call_57 : decode cX9_call 57 = .ok (.invokevirtual 99, 3) := by decide +kernel
theorem dX9_call_60 : decode cX9_call 60 = .ok (.istore_n 3, 1) := by decide +kernel
theorem dX9_call_61 : decode cX9_call 61 = .ok (.iconst 0, 1) := by decide +kernel
theorem dX9_call_62 : decode cX9_call 62 = .ok (.istore 4, 2) := by decide +kernel
theorem dX9_call_64 : decode cX9_call 64 = .ok (.iload 4, 2) := by decide +kernel
theorem dX9_call_66 : decode cX9_call 66 = .ok (.iconst 4, 1) := by decide +kernel
theorem dX9_call_67 : decode cX9_call 67 = .ok (.if_icmp .ge 23, 3) := by decide +kernel
theorem dX9_call_70 : decode cX9_call 70 = .ok (.aload_n 0, 1) := by decide +kernel
theorem dX9_call_71 : decode cX9_call 71 = .ok (.getfield 34, 3) := by decide +kernel
theorem dX9_call_74 : decode cX9_call 74 = .ok (.iload 4, 2) := by decide +kernel
theorem dX9_call_76 : decode cX9_call 76 = .ok (.aload_n 0, 1) := by decide +kernel
theorem dX9_call_77 : decode cX9_call 77 = .ok (.getfield 59, 3) := by decide +kernel
theorem dX9_call_80 : decode cX9_call 80 = .ok (.iload 4, 2) := by decide +kernel
theorem dX9_call_82 : decode cX9_call 82 = .ok (.iaload, 1) := by decide +kernel
theorem dX9_call_83 : decode cX9_call 83 = .ok (.iastore, 1) := by decide +kernel
theorem dX9_call_84 : decode cX9_call 84 = .ok (.iinc 4 1, 3) := by decide +kernel
theorem dX9_call_87 : decode cX9_call 87 = .ok (.goto (-23), 3) := by decide +kernel
theorem dX9_call_90 : decode cX9_call 90 = .ok (.aload_n 0, 1) := by decide +kernel
theorem dX9_call_91 : decode cX9_call 91 = .ok (.getfield 22, 3) := by decide +kernel
theorem dX9_call_94 : decode cX9_call 94 = .ok (.aload_n 0, 1) := by decide +kernel
theorem dX9_call_95 : decode cX9_call 95 = .ok (.getfield 96, 3) := by decide +kernel
theorem dX9_call_98 : decode cX9_call 98 = .ok (.iload_n 1, 1) := by decide +kernel
theorem dX9_call_99 : decode cX9_call 99 = .ok (.iastore, 1) := by decide +kernel
theorem dX9_call_100 : decode cX9_call 100 = .ok (.aload_n 0, 1) := by decide +kernel
theorem dX9_call_101 : decode cX9_call 101 = .ok (.getfield 25, 3) := by decide +kernel
theorem dX9_call_104 : decode cX9_call 104 = .ok (.aload_n 0, 1) := by decide +kernel
theorem dX9_call_105 : decode cX9_call 105 = .ok (.getfield 96, 3) := by decide +kernel
theorem dX9_call_108 : decode cX9_call 108 = .ok (.iload_n 2, 1) := by decide +kernel
theorem dX9_call_109 : decode cX9_call 109 = .ok (.iastore, 1) := by decide +kernel
theorem dX9_call_110 : decode cX9_call 110 = .ok (.aload_n 0, 1) := by decide +kernel
theorem dX9_call_111 : decode cX9_call 111 = .ok (.getfield 28, 3) := by decide +kernel
theorem dX9_call_114 : decode cX9_call 114 = .ok (.aload_n 0, 1) := by decide +kernel
theorem dX9_call_115 : decode cX9_call 115 = .ok (.getfield 96, 3) := by decide +kernel
theorem dX9_call_118 : decode cX9_call 118 = .ok (.iload_n 3, 1) := by decide +kernel
theorem dX9_call_119 : decode cX9_call 119 = .ok (.iastore, 1) := by decide +kernel
theorem dX9_call_120 : decode cX9_call 120 = .ok (.aload_n 0, 1) := by decide +kernel
theorem dX9_call_121 : decode cX9_call 121 = .ok (.getfield 31, 3) := by decide +kernel
theorem dX9_call_124 : decode cX9_call 124 = .ok (.aload_n 0, 1) := by decide +kernel
theorem dX9_call_125 : decode cX9_call 125 = .ok (.getfield 96, 3) := by decide +kernel
theorem dX9_call_128 : decode cX9_call 128 = .ok (.aload_n 0, 1) := by decide +kernel
theorem dX9_call_129 : decode cX9_call 129 = .ok (.getfield 90, 3) := by decide +kernel
theorem dX9_call_132 : decode cX9_call 132 = .ok (.iastore, 1) := by decide +kernel
theorem dX9_call_133 : decode cX9_call 133 = .ok (.aload_n 0, 1) := by decide +kernel
theorem dX9_call_134 : decode cX9_call 134 = .ok (.dup, 1) := by decide +kernel
theorem dX9_call_135 : decode cX9_call 135 = .ok (.getfield 96, 3) := by decide +kernel
theorem dX9_call_138 : decode cX9_call 138 = .ok (.iconst 1, 1) := by decide +kernel
theorem dX9_call_139 : decode cX9_call 139 = .ok (.iadd, 1) := by decide +kernel
theorem dX9_call_140 : decode cX9_call 140 = .ok (.putfield 96, 3) := by decide +kernel
theorem dX9_call_143 : decode cX9_call 143 = .ok (.iload_n 3, 1) := by decide +kernel
theorem dX9_call_144 : decode cX9_call 144 = .ok (.ireturn, 1) := by decide +kernel
theorem dX9_fresh_0 : decode cX9_fresh 0 = .ok (.aload_n 0, 1) := by decide +kernel
theorem dX9_fresh_1 : decode cX9_fresh 1 = .ok (.getfield 96, 3) := by decide +kernel
theorem dX9_fresh_4 : decode cX9_fresh 4 = .ok (.istore_n 1, 1) := by decide +kernel
theorem dX9_fresh_5 : decode cX9_fresh 5 = .ok (.aload_n 0, 1) := by decide +kernel
theorem dX9_fresh_6 : decode cX9_fresh 6 = .ok (.iconst 0, 1) := by decide +kernel
theorem dX9_fresh_7 : decode cX9_fresh 7 = .ok (.putfield 96, 3) := by decide +kernel
theorem dX9_fresh_10 : decode cX9_fresh 10 = .ok (.iconst 0, 1) := by decide +kernel
theorem dX9_fresh_11 : decode cX9_fresh 11 = .ok (.istore_n 2, 1) := by decide +kernel
theorem dX9_fresh_12 : decode cX9_fresh 12 = .ok (.iload_n 2, 1) := by decide +kernel
theorem dX9_fresh_13 : decode cX9_fresh 13 = .ok (.iconst 4, 1) := by decide +kernel
theorem dX9_fresh_14 : decode cX9_fresh 14 = .ok (.if_icmp .ge 16, 3) := by decide +kernel
theorem dX9_fresh_17 : decode cX9_fresh 17 = .ok (.aload_n 0, 1) := by decide +kernel
theorem dX9_fresh_18 : decode cX9_fresh 18 = .ok (.getfield 34, 3) := by decide +kernel
theorem dX9_fresh_21 : decode cX9_fresh 21 = .ok (.iload_n 2, 1) := by decide +kernel
theorem dX9_fresh_22 : decode cX9_fresh 22 = .ok (.iconst 0, 1) := by decide +kernel
theorem dX9_fresh_23 : decode cX9_fresh 23 = .ok (.iastore, 1) := by decide +kernel
theorem dX9_fresh_24 : decode cX9_fresh 24 = .ok (.iinc 2 1, 3) := by decide +kernel
theorem dX9_fresh_27 : decode cX9_fresh 27 = .ok (.goto (-15), 3) := by decide +kernel
theorem dX9_fresh_30 : decode cX9_fresh 30 = .ok (.iload_n 1, 1) := by decide +kernel
theorem dX9_fresh_31 : decode cX9_fresh 31 = .ok (.ireturn, 1) := by decide +kernel
theorem dX9_logged_0 : decode cX9_logged 0 = .ok (.iload_n 1, 1) := by decide +kernel
theorem dX9_logged_1 : decode cX9_logged 1 = .ok (.iconst 0, 1) := by decide +kernel
theorem dX9_logged_2 : decode cX9_logged 2 = .ok (.aload_n 0, 1) := by decide +kernel
theorem dX9_logged_3 : decode cX9_logged 3 = .ok (.getfield 96, 3) := by decide +kernel
theorem dX9_logged_6 : decode cX9_logged 6 = .ok (.iconst 1, 1) := by decide +kernel
theorem dX9_logged_7 : decode cX9_logged 7 = .ok (.isub, 1) := by decide +kernel
theorem dX9_logged_8 : decode cX9_logged 8 = .ok (.invokestatic 68, 3) := by decide +kernel
theorem dX9_logged_11 : decode cX9_logged 11 = .ok (.ifCond .ne 5, 3) := by decide +kernel
theorem dX9_logged_14 : decode cX9_logged 14 = .ok (.iconst (-1), 1) := by decide +kernel
theorem dX9_logged_15 : decode cX9_logged 15 = .ok (.ireturn, 1) := by decide +kernel
theorem dX9_logged_16 : decode cX9_logged 16 = .ok (.iload_n 2, 1) := by decide +kernel
theorem dX9_logged_17 : decode cX9_logged 17 = .ok (.tableswitch 59 0 3 #[31, 38, 45, 52], 31) := by decide +kernel
theorem dX9_logged_48 : decode cX9_logged 48 = .ok (.aload_n 0, 1) := by decide +kernel
theorem dX9_logged_49 : decode cX9_logged 49 = .ok (.getfield 22, 3) := by decide +kernel
theorem dX9_logged_52 : decode cX9_logged 52 = .ok (.iload_n 1, 1) := by decide +kernel
theorem dX9_logged_53 : decode cX9_logged 53 = .ok (.iaload, 1) := by decide +kernel
theorem dX9_logged_54 : decode cX9_logged 54 = .ok (.ireturn, 1) := by decide +kernel
theorem dX9_logged_55 : decode cX9_logged 55 = .ok (.aload_n 0, 1) := by decide +kernel
theorem dX9_logged_56 : decode cX9_logged 56 = .ok (.getfield 25, 3) := by decide +kernel
theorem dX9_logged_59 : decode cX9_logged 59 = .ok (.iload_n 1, 1) := by decide +kernel
theorem dX9_logged_60 : decode cX9_logged 60 = .ok (.iaload, 1) := by decide +kernel
theorem dX9_logged_61 : decode cX9_logged 61 = .ok (.ireturn, 1) := by decide +kernel
theorem dX9_logged_62 : decode cX9_logged 62 = .ok (.aload_n 0, 1) := by decide +kernel
end
section
theorem dX9_logged_63 : decode cX9_logged 63 = .ok (.getfield 28, 3) := by decide +kernel
theorem dX9_logged_66 : decode cX9_logged 66 = .ok (.iload_n 1, 1) := by decide +kernel
theorem dX9_logged_67 : decode cX9_logged 67 = .ok (.iaload, 1) := by decide +kernel
theorem dX9_logged_68 : decode cX9_logged 68 = .ok (.ireturn, 1) := by decide +kernel
theorem dX9_logged_69 : decode cX9_logged 69 = .ok (.aload_n 0, 1) := by decide +kernel
theorem dX9_logged_70 : decode cX9_logged 70 = .ok (.getfield 31, 3) := by decide +kernel
theorem dX9_logged_73 : decode cX9_logged 73 = .ok (.iload_n 1, 1) := by decide +kernel
theorem dX9_logged_74 : decode cX9_logged 74 = .ok (.iaload, 1) := by decide +kernel
theorem dX9_logged_75 : decode cX9_logged 75 = .ok (.ireturn, 1) := by decide +kernel
theorem dX9_logged_76 : decode cX9_logged 76 = .ok (.iconst (-1), 1) := by decide +kernel
theorem dX9_logged_77 : decode cX9_logged 77 = .ok (.ireturn, 1) := by decide +kernel
theorem dX9_ends_0 : decode cX9_ends 0 = .ok (.aload_n 0, 1) := by decide +kernel
theorem dX9_ends_1 : decode cX9_ends 1 = .ok (.invokevirtual 103, 3) := by decide +kernel
theorem dX9_ends_4 : decode cX9_ends 4 = .ok (.iconst (-1), 1) := by decide +kernel
theorem dX9_ends_5 : decode cX9_ends 5 = .ok (.istore_n 2, 1) := by decide +kernel
theorem dX9_ends_6 : decode cX9_ends 6 = .ok (.iconst 0, 1) := by decide +kernel
theorem dX9_ends_7 : decode cX9_ends 7 = .ok (.istore_n 3, 1) := by decide +kernel
theorem dX9_ends_8 : decode cX9_ends 8 = .ok (.iload_n 3, 1) := by decide +kernel
theorem dX9_ends_9 : decode cX9_ends 9 = .ok (.iload_n 1, 1) := by decide +kernel
theorem dX9_ends_10 : decode cX9_ends 10 = .ok (.if_icmp .gt 35, 3) := by decide +kernel
theorem dX9_ends_13 : decode cX9_ends 13 = .ok (.aload_n 0, 1) := by decide +kernel
theorem dX9_ends_14 : decode cX9_ends 14 = .ok (.getfield 62, 3) := by decide +kernel
theorem dX9_ends_17 : decode cX9_ends 17 = .ok (.iload_n 3, 1) := by decide +kernel
theorem dX9_ends_18 : decode cX9_ends 18 = .ok (.baload, 1) := by decide +kernel
theorem dX9_ends_19 : decode cX9_ends 19 = .ok (.ifCond .ne 20, 3) := by decide +kernel
theorem dX9_ends_22 : decode cX9_ends 22 = .ok (.aload_n 0, 1) := by decide +kernel
theorem dX9_ends_23 : decode cX9_ends 23 = .ok (.aload_n 0, 1) := by decide +kernel
theorem dX9_ends_24 : decode cX9_ends 24 = .ok (.getfield 22, 3) := by decide +kernel
theorem dX9_ends_27 : decode cX9_ends 27 = .ok (.iload_n 3, 1) := by decide +kernel
theorem dX9_ends_28 : decode cX9_ends 28 = .ok (.iaload, 1) := by decide +kernel
theorem dX9_ends_29 : decode cX9_ends 29 = .ok (.aload_n 0, 1) := by decide +kernel
theorem dX9_ends_30 : decode cX9_ends 30 = .ok (.getfield 25, 3) := by decide +kernel
theorem dX9_ends_33 : decode cX9_ends 33 = .ok (.iload_n 3, 1) := by decide +kernel
theorem dX9_ends_34 : decode cX9_ends 34 = .ok (.iaload, 1) := by decide +kernel
theorem dX9_ends_35 : decode cX9_ends 35 = .ok (.invokevirtual 99, 3) := by decide +kernel
theorem dX9_ends_38 : decode cX9_ends 38 = .ok (.istore_n 2, 1) := by decide +kernel
theorem dX9_ends_39 : decode cX9_ends 39 = .ok (.iinc 3 1, 3) := by decide +kernel
theorem dX9_ends_42 : decode cX9_ends 42 = .ok (.goto (-34), 3) := by decide +kernel
theorem dX9_ends_45 : decode cX9_ends 45 = .ok (.iload_n 2, 1) := by decide +kernel
theorem dX9_ends_46 : decode cX9_ends 46 = .ok (.ireturn, 1) := by decide +kernel
theorem dX9_shrinks_0 : decode cX9_shrinks 0 = .ok (.iconst 0, 1) := by decide +kernel
theorem dX9_shrinks_1 : decode cX9_shrinks 1 = .ok (.istore_n 2, 1) := by decide +kernel
theorem dX9_shrinks_2 : decode cX9_shrinks 2 = .ok (.iload_n 2, 1) := by decide +kernel
theorem dX9_shrinks_3 : decode cX9_shrinks 3 = .ok (.iload_n 1, 1) := by decide +kernel
theorem dX9_shrinks_4 : decode cX9_shrinks 4 = .ok (.if_icmp .gt 16, 3) := by decide +kernel
theorem dX9_shrinks_7 : decode cX9_shrinks 7 = .ok (.aload_n 0, 1) := by decide +kernel
theorem dX9_shrinks_8 : decode cX9_shrinks 8 = .ok (.getfield 62, 3) := by decide +kernel
theorem dX9_shrinks_11 : decode cX9_shrinks 11 = .ok (.iload_n 2, 1) := by decide +kernel
theorem dX9_shrinks_12 : decode cX9_shrinks 12 = .ok (.iconst 0, 1) := by decide +kernel
theorem dX9_shrinks_13 : decode cX9_shrinks 13 = .ok (.bastore, 1) := by decide +kernel
theorem dX9_shrinks_14 : decode cX9_shrinks 14 = .ok (.iinc 2 1, 3) := by decide +kernel
theorem dX9_shrinks_17 : decode cX9_shrinks 17 = .ok (.goto (-15), 3) := by decide +kernel
theorem dX9_shrinks_20 : decode cX9_shrinks 20 = .ok (.aload_n 0, 1) := by decide +kernel
theorem dX9_shrinks_21 : decode cX9_shrinks 21 = .ok (.iload_n 1, 1) := by decide +kernel
theorem dX9_shrinks_22 : decode cX9_shrinks 22 = .ok (.invokevirtual 106, 3) := by decide +kernel
theorem dX9_shrinks_25 : decode cX9_shrinks 25 = .ok (.istore_n 2, 1) := by decide +kernel
theorem dX9_shrinks_26 : decode cX9_shrinks 26 = .ok (.aload_n 0, 1) := by decide +kernel
theorem dX9_shrinks_27 : decode cX9_shrinks 27 = .ok (.getfield 90, 3) := by decide +kernel
theorem dX9_shrinks_30 : decode cX9_shrinks 30 = .ok (.istore_n 3, 1) := by decide +kernel
theorem dX9_shrinks_31 : decode cX9_shrinks 31 = .ok (.iconst 1, 1) := by decide +kernel
theorem dX9_shrinks_32 : decode cX9_shrinks 32 = .ok (.istore 4, 2) := by decide +kernel
theorem dX9_shrinks_34 : decode cX9_shrinks 34 = .ok (.iload 4, 2) := by decide +kernel
theorem dX9_shrinks_36 : decode cX9_shrinks 36 = .ok (.ifCond .eq 96, 3) := by decide +kernel
theorem dX9_shrinks_39 : decode cX9_shrinks 39 = .ok (.iconst 0, 1) := by decide +kernel
theorem dX9_shrinks_40 : decode cX9_shrinks 40 = .ok (.istore 4, 2) := by decide +kernel
theorem dX9_shrinks_42 : decode cX9_shrinks 42 = .ok (.iconst 0, 1) := by decide +kernel
theorem dX9_shrinks_43 : decode cX9_shrinks 43 = .ok (.istore 5, 2) := by decide +kernel
theorem dX9_shrinks_45 : decode cX9_shrinks 45 = .ok (.iload 5, 2) := by decide +kernel
theorem dX9_shrinks_47 : decode cX9_shrinks 47 = .ok (.iload_n 1, 1) := by decide +kernel
theorem dX9_shrinks_48 : decode cX9_shrinks 48 = .ok (.if_icmp .ge 81, 3) := by decide +kernel
theorem dX9_shrinks_51 : decode cX9_shrinks 51 = .ok (.aload_n 0, 1) := by decide +kernel
theorem dX9_shrinks_52 : decode cX9_shrinks 52 = .ok (.getfield 62, 3) := by decide +kernel
theorem dX9_shrinks_55 : decode cX9_shrinks 55 = .ok (.iload 5, 2) := by decide +kernel
theorem dX9_shrinks_57 : decode cX9_shrinks 57 = .ok (.baload, 1) := by decide +kernel
theorem dX9_shrinks_58 : decode cX9_shrinks 58 = .ok (.ifCond .eq 6, 3) := by decide +kernel
theorem dX9_shrinks_61 : decode cX9_shrinks 61 = .ok (.goto 62, 3) := by decide +kernel
theorem dX9_shrinks_64 : decode cX9_shrinks 64 = .ok (.aload_n 0, 1) := by decide +kernel
theorem dX9_shrinks_65 : decode cX9_shrinks 65 = .ok (.getfield 62, 3) := by decide +kernel
theorem dX9_shrinks_68 : decode cX9_shrinks 68 = .ok (.iload 5, 2) := by decide +kernel
theorem dX9_shrinks_70 : decode cX9_shrinks 70 = .ok (.iconst 1, 1) := by decide +kernel
theorem dX9_shrinks_71 : decode cX9_shrinks 71 = .ok (.bastore, 1) := by decide +kernel
theorem dX9_shrinks_72 : decode cX9_shrinks 72 = .ok (.aload_n 0, 1) := by decide +kernel
theorem dX9_shrinks_73 : decode cX9_shrinks 73 = .ok (.getfield 62, 3) := by decide +kernel
theorem dX9_shrinks_76 : decode cX9_shrinks 76 = .ok (.iload 5, 2) := by decide +kernel
theorem dX9_shrinks_78 : decode cX9_shrinks 78 = .ok (.aload_n 0, 1) := by decide +kernel
theorem dX9_shrinks_79 : decode cX9_shrinks 79 = .ok (.iload_n 1, 1) := by decide +kernel
theorem dX9_shrinks_80 : decode cX9_shrinks 80 = .ok (.invokevirtual 106, 3) := by decide +kernel
theorem dX9_shrinks_83 : decode cX9_shrinks 83 = .ok (.iload_n 2, 1) := by decide +kernel
theorem dX9_shrinks_84 : decode cX9_shrinks 84 = .ok (.if_icmp .ne 15, 3) := by decide +kernel
theorem dX9_shrinks_87 : decode cX9_shrinks 87 = .ok (.aload_n 0, 1) := by decide +kernel
theorem dX9_shrinks_88 : decode cX9_shrinks 88 = .ok (.getfield 90, 3) := by decide +kernel
theorem dX9_shrinks_91 : decode cX9_shrinks 91 = .ok (.iload_n 3, 1) := by decide +kernel
theorem dX9_shrinks_92 : decode cX9_shrinks 92 = .ok (.if_icmp .ne 7, 3) := by decide +kernel
theorem dX9_shrinks_95 : decode cX9_shrinks 95 = .ok (.iconst 1, 1) := by decide +kernel
theorem dX9_shrinks_96 : decode cX9_shrinks 96 = .ok (.goto 4, 3) := by decide +kernel
theorem dX9_shrinks_99 : decode cX9_shrinks 99 = .ok (.iconst 0, 1) := by decide +kernel
theorem dX9_shrinks_100 : decode cX9_shrinks 100 = .ok (.bastore, 1) := by decide +kernel
theorem dX9_shrinks_101 : decode cX9_shrinks 101 = .ok (.iload 4, 2) := by decide +kernel
theorem dX9_shrinks_103 : decode cX9_shrinks 103 = .ok (.ifCond .ne 13, 3) := by decide +kernel
theorem dX9_shrinks_106 : decode cX9_shrinks 106 = .ok (.aload_n 0, 1) := by decide +kernel
theorem dX9_shrinks_107 : decode cX9_shrinks 107 = .ok (.getfield 62, 3) := by decide +kernel
theorem dX9_shrinks_110 : decode cX9_shrinks 110 = .ok (.iload 5, 2) := by decide +kernel
theorem dX9_shrinks_112 : decode cX9_shrinks 112 = .ok (.baload, 1) := by decide +kernel
theorem dX9_shrinks_113 : decode cX9_shrinks 113 = .ok (.ifCond .eq 7, 3) := by decide +kernel
theorem dX9_shrinks_116 : decode cX9_shrinks 116 = .ok (.iconst 1, 1) := by decide +kernel
theorem dX9_shrinks_117 : decode cX9_shrinks 117 = .ok (.goto 4, 3) := by decide +kernel
theorem dX9_shrinks_120 : decode cX9_shrinks 120 = .ok (.iconst 0, 1) := by decide +kernel
theorem dX9_shrinks_121 : decode cX9_shrinks 121 = .ok (.istore 4, 2) := by decide +kernel
theorem dX9_shrinks_123 : decode cX9_shrinks 123 = .ok (.iinc 5 1, 3) := by decide +kernel
theorem dX9_shrinks_126 : decode cX9_shrinks 126 = .ok (.goto (-81), 3) := by decide +kernel
theorem dX9_shrinks_129 : decode cX9_shrinks 129 = .ok (.goto (-95), 3) := by decide +kernel
theorem dX9_shrinks_132 : decode cX9_shrinks 132 = .ok (.return_, 1) := by decide +kernel
theorem dX9_isLike_0 : decode cX9_isLike 0 = .ok (.aload_n 0, 1) := by decide +kernel
theorem dX9_isLike_1 : decode cX9_isLike 1 = .ok (.getfield 37, 3) := by decide +kernel
theorem dX9_isLike_4 : decode cX9_isLike 4 = .ok (.iload_n 1, 1) := by decide +kernel
theorem dX9_isLike_5 : decode cX9_isLike 5 = .ok (.iaload, 1) := by decide +kernel
theorem dX9_isLike_6 : decode cX9_isLike 6 = .ok (.iload_n 2, 1) := by decide +kernel
theorem dX9_isLike_7 : decode cX9_isLike 7 = .ok (.if_icmp .eq 5, 3) := by decide +kernel
theorem dX9_isLike_10 : decode cX9_isLike 10 = .ok (.iconst 0, 1) := by decide +kernel
theorem dX9_isLike_11 : decode cX9_isLike 11 = .ok (.ireturn, 1) := by decide +kernel
theorem dX9_isLike_12 : decode cX9_isLike 12 = .ok (.sipush 200, 3) := by decide +kernel
theorem dX9_isLike_15 : decode cX9_isLike 15 = .ok (.iload_n 1, 1) := by decide +kernel
theorem dX9_isLike_16 : decode cX9_isLike 16 = .ok (.imul, 1) := by decide +kernel
theorem dX9_isLike_17 : decode cX9_isLike 17 = .ok (.istore_n 3, 1) := by decide +kernel
theorem dX9_isLike_18 : decode cX9_isLike 18 = .ok (.sipush 200, 3) := by decide +kernel
theorem dX9_isLike_21 : decode cX9_isLike 21 = .ok (.aload_n 0, 1) := by decide +kernel
theorem dX9_isLike_22 : decode cX9_isLike 22 = .ok (.getfield 83, 3) := by decide +kernel
theorem dX9_isLike_25 : decode cX9_isLike 25 = .ok (.imul, 1) := by decide +kernel
theorem dX9_isLike_26 : decode cX9_isLike 26 = .ok (.istore 4, 2) := by decide +kernel
theorem dX9_isLike_28 : decode cX9_isLike 28 = .ok (.iconst 0, 1) := by decide +kernel
theorem dX9_isLike_29 : decode cX9_isLike 29 = .ok (.istore 5, 2) := by decide +kernel
theorem dX9_isLike_31 : decode cX9_isLike 31 = .ok (.iload 5, 2) := by decide +kernel
theorem dX9_isLike_33 : decode cX9_isLike 33 = .ok (.iload_n 2, 1) := by decide +kernel
theorem dX9_isLike_34 : decode cX9_isLike 34 = .ok (.if_icmp .ge 55, 3) := by decide +kernel
theorem dX9_isLike_37 : decode cX9_isLike 37 = .ok (.aload_n 0, 1) := by decide +kernel
theorem dX9_isLike_38 : decode cX9_isLike 38 = .ok (.getfield 40, 3) := by decide +kernel
theorem dX9_isLike_41 : decode cX9_isLike 41 = .ok (.iload_n 3, 1) := by decide +kernel
theorem dX9_isLike_42 : decode cX9_isLike 42 = .ok (.iload 5, 2) := by decide +kernel
theorem dX9_isLike_44 : decode cX9_isLike 44 = .ok (.iadd, 1) := by decide +kernel
theorem dX9_isLike_45 : decode cX9_isLike 45 = .ok (.iaload, 1) := by decide +kernel
theorem dX9_isLike_46 : decode cX9_isLike 46 = .ok (.aload_n 0, 1) := by decide +kernel
theorem dX9_isLike_47 : decode cX9_isLike 47 = .ok (.getfield 40, 3) := by decide +kernel
theorem dX9_isLike_50 : decode cX9_isLike 50 = .ok (.iload 4, 2) := by decide +kernel
theorem dX9_isLike_52 : decode cX9_isLike 52 = .ok (.iload 5, 2) := by decide +kernel
theorem dX9_isLike_54 : decode cX9_isLike 54 = .ok (.iadd, 1) := by decide +kernel
theorem dX9_isLike_55 : decode cX9_isLike 55 = .ok (.iaload, 1) := by decide +kernel
theorem dX9_isLike_56 : decode cX9_isLike 56 = .ok (.if_icmp .ne 25, 3) := by decide +kernel
theorem dX9_isLike_59 : decode cX9_isLike 59 = .ok (.aload_n 0, 1) := by decide +kernel
theorem dX9_isLike_60 : decode cX9_isLike 60 = .ok (.getfield 43, 3) := by decide +kernel
theorem dX9_isLike_63 : decode cX9_isLike 63 = .ok (.iload_n 3, 1) := by decide +kernel
theorem dX9_isLike_64 : decode cX9_isLike 64 = .ok (.iload 5, 2) := by decide +kernel
theorem dX9_isLike_66 : decode cX9_isLike 66 = .ok (.iadd, 1) := by decide +kernel
theorem dX9_isLike_67 : decode cX9_isLike 67 = .ok (.iaload, 1) := by decide +kernel
theorem dX9_isLike_68 : decode cX9_isLike 68 = .ok (.aload_n 0, 1) := by decide +kernel
theorem dX9_isLike_69 : decode cX9_isLike 69 = .ok (.getfield 43, 3) := by decide +kernel
theorem dX9_isLike_72 : decode cX9_isLike 72 = .ok (.iload 4, 2) := by decide +kernel
theorem dX9_isLike_74 : decode cX9_isLike 74 = .ok (.iload 5, 2) := by decide +kernel
theorem dX9_isLike_76 : decode cX9_isLike 76 = .ok (.iadd, 1) := by decide +kernel
theorem dX9_isLike_77 : decode cX9_isLike 77 = .ok (.iaload, 1) := by decide +kernel
theorem dX9_isLike_78 : decode cX9_isLike 78 = .ok (.if_icmp .eq 5, 3) := by decide +kernel
theorem dX9_isLike_81 : decode cX9_isLike 81 = .ok (.iconst 0, 1) := by decide +kernel
theorem dX9_isLike_82 : decode cX9_isLike 82 = .ok (.ireturn, 1) := by decide +kernel
theorem dX9_isLike_83 : decode cX9_isLike 83 = .ok (.iinc 5 1, 3) := by decide +kernel
theorem dX9_isLike_86 : decode cX9_isLike 86 = .ok (.goto (-55), 3) := by decide +kernel
theorem dX9_isLike_89 : decode cX9_isLike 89 = .ok (.iconst 1, 1) := by decide +kernel
theorem dX9_isLike_90 : decode cX9_isLike 90 = .ok (.ireturn, 1) := by decide +kernel
theorem dX9_make_0 : decode cX9_make 0 = .ok (.iload_n 1, 1) := by decide +kernel
theorem dX9_make_1 : decode cX9_make 1 = .ok (.iconst 0, 1) := by decide +kernel
theorem dX9_make_2 : decode cX9_make 2 = .ok (.aload_n 0, 1) := by decide +kernel
theorem dX9_make_3 : decode cX9_make 3 = .ok (.getfield 96, 3) := by decide +kernel
theorem dX9_make_6 : decode cX9_make 6 = .ok (.iconst 1, 1) := by decide +kernel
theorem dX9_make_7 : decode cX9_make 7 = .ok (.isub, 1) := by decide +kernel
theorem dX9_make_8 : decode cX9_make 8 = .ok (.invokestatic 68, 3) := by decide +kernel
theorem dX9_make_11 : decode cX9_make 11 = .ok (.ifCond .eq 12, 3) := by decide +kernel
theorem dX9_make_14 : decode cX9_make 14 = .ok (.aload_n 0, 1) := by decide +kernel
theorem dX9_make_15 : decode cX9_make 15 = .ok (.getfield 83, 3) := by decide +kernel
theorem dX9_make_18 : decode cX9_make 18 = .ok (.bipush 12, 2) := by decide +kernel
theorem dX9_make_20 : decode cX9_make 20 = .ok (.if_icmp .ne 5, 3) := by decide +kernel
theorem dX9_make_23 : decode cX9_make 23 = .ok (.iconst (-1), 1) := by decide +kernel
theorem dX9_make_24 : decode cX9_make 24 = .ok (.ireturn, 1) := by decide +kernel
theorem dX9_make_25 : decode cX9_make 25 = .ok (.aload_n 0, 1) := by decide +kernel
theorem dX9_make_26 : decode cX9_make 26 = .ok (.iload_n 1, 1) := by decide +kernel
theorem dX9_make_27 : decode cX9_make 27 = .ok (.invokevirtual 110, 3) := by decide +kernel
theorem dX9_make_30 : decode cX9_make 30 = .ok (.iconst 0, 1) := by decide +kernel
theorem dX9_make_31 : decode cX9_make 31 = .ok (.istore_n 2, 1) := by decide +kernel
theorem dX9_make_32 : decode cX9_make 32 = .ok (.iconst 0, 1) := by decide +kernel
theorem dX9_make_33 : decode cX9_make 33 = .ok (.istore_n 3, 1) := by decide +kernel
theorem dX9_make_34 : decode cX9_make 34 = .ok (.iload_n 3, 1) := by decide +kernel
theorem dX9_make_35 : decode cX9_make 35 = .ok (.iload_n 1, 1) := by decide +kernel
theorem dX9_make_36 : decode cX9_make 36 = .ok (.if_icmp .gt 66, 3) := by decide +kernel
theorem dX9_make_39 : decode cX9_make 39 = .ok (.aload_n 0, 1) := by decide +kernel
theorem dX9_make_40 : decode cX9_make 40 = .ok (.getfield 62, 3) := by decide +kernel
theorem dX9_make_43 : decode cX9_make 43 = .ok (.iload_n 3, 1) := by decide +kernel
theorem dX9_make_44 : decode cX9_make 44 = .ok (.baload, 1) := by decide +kernel
theorem dX9_make_45 : decode cX9_make 45 = .ok (.ifCond .eq 6, 3) := by decide +kernel
theorem dX9_make_48 : decode cX9_make 48 = .ok (.goto 48, 3) := by decide +kernel
theorem dX9_make_51 : decode cX9_make 51 = .ok (.aload_n 0, 1) := by decide +kernel
theorem dX9_make_52 : decode cX9_make 52 = .ok (.getfield 40, 3) := by decide +kernel
theorem dX9_make_55 : decode cX9_make 55 = .ok (.sipush 200, 3) := by decide +kernel
theorem dX9_make_58 : decode cX9_make 58 = .ok (.aload_n 0, 1) := by decide +kernel
theorem dX9_make_59 : decode cX9_make 59 = .ok (.getfield 83, 3) := by decide +kernel
theorem dX9_make_62 : decode cX9_make 62 = .ok (.imul, 1) := by decide +kernel
theorem dX9_make_63 : decode cX9_make 63 = .ok (.iload_n 2, 1) := by decide +kernel
theorem dX9_make_64 : decode cX9_make 64 = .ok (.iadd, 1) := by decide +kernel
theorem dX9_make_65 : decode cX9_make 65 = .ok (.aload_n 0, 1) := by decide +kernel
theorem dX9_make_66 : decode cX9_make 66 = .ok (.getfield 22, 3) := by decide +kernel
theorem dX9_make_69 : decode cX9_make 69 = .ok (.iload_n 3, 1) := by decide +kernel
theorem dX9_make_70 : decode cX9_make 70 = .ok (.iaload, 1) := by decide +kernel
theorem dX9_make_71 : decode cX9_make 71 = .ok (.iastore, 1) := by decide +kernel
theorem dX9_make_72 : decode cX9_make 72 = .ok (.aload_n 0, 1) := by decide +kernel
theorem dX9_make_73 : decode cX9_make 73 = .ok (.getfield 43, 3) := by decide +kernel
theorem dX9_make_76 : decode cX9_make 76 = .ok (.sipush 200, 3) := by decide +kernel
theorem dX9_make_79 : decode cX9_make 79 = .ok (.aload_n 0, 1) := by decide +kernel
theorem dX9_make_80 : decode cX9_make 80 = .ok (.getfield 83, 3) := by decide +kernel
theorem dX9_make_83 : decode cX9_make 83 = .ok (.imul, 1) := by decide +kernel
theorem dX9_make_84 : decode cX9_make 84 = .ok (.iload_n 2, 1) := by decide +kernel
theorem dX9_make_85 : decode cX9_make 85 = .ok (.iadd, 1) := by decide +kernel
theorem dX9_make_86 : decode cX9_make 86 = .ok (.aload_n 0, 1) := by decide +kernel
theorem dX9_make_87 : decode cX9_make 87 = .ok (.getfield 25, 3) := by decide +kernel
theorem dX9_make_90 : decode cX9_make 90 = .ok (.iload_n 3, 1) := by decide +kernel
theorem dX9_make_91 : decode cX9_make 91 = .ok (.iaload, 1) := by decide +kernel
theorem dX9_make_92 : decode cX9_make 92 = .ok (.iastore, 1) := by decide +kernel
theorem dX9_make_93 : decode cX9_make 93 = .ok (.iinc 2 1, 3) := by decide +kernel
theorem dX9_make_96 : decode cX9_make 96 = .ok (.iinc 3 1, 3) := by decide +kernel
theorem dX9_make_99 : decode cX9_make 99 = .ok (.goto (-65), 3) := by decide +kernel
theorem dX9_make_102 : decode cX9_make 102 = .ok (.iconst 0, 1) := by decide +kernel
theorem dX9_make_103 : decode cX9_make 103 = .ok (.istore_n 3, 1) := by decide +kernel
theorem dX9_make_104 : decode cX9_make 104 = .ok (.iload_n 3, 1) := by decide +kernel
theorem dX9_make_105 : decode cX9_make 105 = .ok (.aload_n 0, 1) := by decide +kernel
theorem dX9_make_106 : decode cX9_make 106 = .ok (.getfield 83, 3) := by decide +kernel
theorem dX9_make_109 : decode cX9_make 109 = .ok (.if_icmp .ge 20, 3) := by decide +kernel
theorem dX9_make_112 : decode cX9_make 112 = .ok (.aload_n 0, 1) := by decide +kernel
theorem dX9_make_113 : decode cX9_make 113 = .ok (.iload_n 3, 1) := by decide +kernel
theorem dX9_make_114 : decode cX9_make 114 = .ok (.iload_n 2, 1) := by decide +kernel
theorem dX9_make_115 : decode cX9_make 115 = .ok (.invokevirtual 114, 3) := by decide +kernel
theorem dX9_make_118 : decode cX9_make 118 = .ok (.ifCond .eq 5, 3) := by decide +kernel
theorem dX9_make_121 : decode cX9_make 121 = .ok (.iconst (-1), 1) := by decide +kernel
theorem dX9_make_122 : decode cX9_make 122 = .ok (.ireturn, 1) := by decide +kernel
theorem dX9_make_123 : decode cX9_make 123 = .ok (.iinc 3 1, 3) := by decide +kernel
theorem dX9_make_126 : decode cX9_make 126 = .ok (.goto (-22), 3) := by decide +kernel
theorem dX9_make_129 : decode cX9_make 129 = .ok (.aload_n 0, 1) := by decide +kernel
theorem dX9_make_130 : decode cX9_make 130 = .ok (.getfield 37, 3) := by decide +kernel
theorem dX9_make_133 : decode cX9_make 133 = .ok (.aload_n 0, 1) := by decide +kernel
theorem dX9_make_134 : decode cX9_make 134 = .ok (.getfield 83, 3) := by decide +kernel
theorem dX9_make_137 : decode cX9_make 137 = .ok (.iload_n 2, 1) := by decide +kernel
theorem dX9_make_138 : decode cX9_make 138 = .ok (.iastore, 1) := by decide +kernel
theorem dX9_make_139 : decode cX9_make 139 = .ok (.aload_n 0, 1) := by decide +kernel
theorem dX9_make_140 : decode cX9_make 140 = .ok (.dup, 1) := by decide +kernel
theorem dX9_make_141 : decode cX9_make 141 = .ok (.getfield 83, 3) := by decide +kernel
theorem dX9_make_144 : decode cX9_make 144 = .ok (.iconst 1, 1) := by decide +kernel
theorem dX9_make_145 : decode cX9_make 145 = .ok (.iadd, 1) := by decide +kernel
theorem dX9_make_146 : decode cX9_make 146 = .ok (.putfield 83, 3) := by decide +kernel
theorem dX9_make_149 : decode cX9_make 149 = .ok (.aload_n 0, 1) := by decide +kernel
theorem dX9_make_150 : decode cX9_make 150 = .ok (.aload_n 0, 1) := by decide +kernel
theorem dX9_make_151 : decode cX9_make 151 = .ok (.getfield 83, 3) := by decide +kernel
theorem dX9_make_154 : decode cX9_make 154 = .ok (.iconst 1, 1) := by decide +kernel
theorem dX9_make_155 : decode cX9_make 155 = .ok (.isub, 1) := by decide +kernel
theorem dX9_make_156 : decode cX9_make 156 = .ok (.invokevirtual 118, 3) := by decide +kernel
theorem dX9_make_159 : decode cX9_make 159 = .ok (.pop, 1) := by decide +kernel
theorem dX9_make_160 : decode cX9_make 160 = .ok (.aload_n 0, 1) := by decide +kernel
theorem dX9_make_161 : decode cX9_make 161 = .ok (.getfield 83, 3) := by decide +kernel
theorem dX9_make_164 : decode cX9_make 164 = .ok (.iconst 1, 1) := by decide +kernel
theorem dX9_make_165 : decode cX9_make 165 = .ok (.isub, 1) := by decide +kernel
theorem dX9_make_166 : decode cX9_make 166 = .ok (.ireturn, 1) := by decide +kernel
theorem dX9_isTest_0 : decode cX9_isTest 0 = .ok (.iload_n 1, 1) := by decide +kernel
theorem dX9_isTest_1 : decode cX9_isTest 1 = .ok (.iconst 0, 1) := by decide +kernel
theorem dX9_isTest_2 : decode cX9_isTest 2 = .ok (.aload_n 0, 1) := by decide +kernel
theorem dX9_isTest_3 : decode cX9_isTest 3 = .ok (.getfield 83, 3) := by decide +kernel
theorem dX9_isTest_6 : decode cX9_isTest 6 = .ok (.iconst 1, 1) := by decide +kernel
theorem dX9_isTest_7 : decode cX9_isTest 7 = .ok (.isub, 1) := by decide +kernel
theorem dX9_isTest_8 : decode cX9_isTest 8 = .ok (.invokestatic 68, 3) := by decide +kernel
theorem dX9_isTest_11 : decode cX9_isTest 11 = .ok (.ireturn, 1) := by decide +kernel
theorem dX9_accept_0 : decode cX9_accept 0 = .ok (.aload_n 0, 1) := by decide +kernel
theorem dX9_accept_1 : decode cX9_accept 1 = .ok (.iload_n 1, 1) := by decide +kernel
theorem dX9_accept_2 : decode cX9_accept 2 = .ok (.invokevirtual 121, 3) := by decide +kernel
theorem dX9_accept_5 : decode cX9_accept 5 = .ok (.ifCond .ne 5, 3) := by decide +kernel
theorem dX9_accept_8 : decode cX9_accept 8 = .ok (.iconst 0, 1) := by decide +kernel
theorem dX9_accept_9 : decode cX9_accept 9 = .ok (.ireturn, 1) := by decide +kernel
theorem dX9_accept_10 : decode cX9_accept 10 = .ok (.aload_n 0, 1) := by decide +kernel
theorem dX9_accept_11 : decode cX9_accept 11 = .ok (.invokevirtual 103, 3) := by decide +kernel
theorem dX9_accept_14 : decode cX9_accept 14 = .ok (.aload_n 0, 1) := by decide +kernel
theorem dX9_accept_15 : decode cX9_accept 15 = .ok (.getfield 49, 3) := by decide +kernel
theorem dX9_accept_18 : decode cX9_accept 18 = .ok (.iload_n 1, 1) := by decide +kernel
theorem dX9_accept_19 : decode cX9_accept 19 = .ok (.iconst 0, 1) := by decide +kernel
theorem dX9_accept_20 : decode cX9_accept 20 = .ok (.iastore, 1) := by decide +kernel
theorem dX9_accept_21 : decode cX9_accept 21 = .ok (.sipush 200, 3) := by decide +kernel
theorem dX9_accept_24 : decode cX9_accept 24 = .ok (.iload_n 1, 1) := by decide +kernel
theorem dX9_accept_25 : decode cX9_accept 25 = .ok (.imul, 1) := by decide +kernel
theorem dX9_accept_26 : decode cX9_accept 26 = .ok (.istore_n 2, 1) := by decide +kernel
theorem dX9_accept_27 : decode cX9_accept 27 = .ok (.iload_n 2, 1) := by decide +kernel
theorem dX9_accept_28 : decode cX9_accept 28 = .ok (.sipush 200, 3) := by decide +kernel
theorem dX9_accept_31 : decode cX9_accept 31 = .ok (.iload_n 1, 1) := by decide +kernel
theorem dX9_accept_32 : decode cX9_accept 32 = .ok (.imul, 1) := by decide +kernel
theorem dX9_accept_33 : decode cX9_accept 33 = .ok (.aload_n 0, 1) := by decide +kernel
theorem dX9_accept_34 : decode cX9_accept 34 = .ok (.getfield 37, 3) := by decide +kernel
theorem dX9_accept_37 : decode cX9_accept 37 = .ok (.iload_n 1, 1) := by decide +kernel
theorem dX9_accept_38 : decode cX9_accept 38 = .ok (.iaload, 1) := by decide +kernel
theorem dX9_accept_39 : decode cX9_accept 39 = .ok (.iadd, 1) := by decide +kernel
theorem dX9_accept_40 : decode cX9_accept 40 = .ok (.if_icmp .ge 54, 3) := by decide +kernel
theorem dX9_accept_43 : decode cX9_accept 43 = .ok (.aload_n 0, 1) := by decide +kernel
theorem dX9_accept_44 : decode cX9_accept 44 = .ok (.getfield 46, 3) := by decide +kernel
theorem dX9_accept_47 : decode cX9_accept 47 = .ok (.iload_n 2, 1) := by decide +kernel
theorem dX9_accept_48 : decode cX9_accept 48 = .ok (.aload_n 0, 1) := by decide +kernel
theorem dX9_accept_49 : decode cX9_accept 49 = .ok (.aload_n 0, 1) := by decide +kernel
theorem dX9_accept_50 : decode cX9_accept 50 = .ok (.getfield 40, 3) := by decide +kernel
theorem dX9_accept_53 : decode cX9_accept 53 = .ok (.iload_n 2, 1) := by decide +kernel
theorem dX9_accept_54 : decode cX9_accept 54 = .ok (.iaload, 1) := by decide +kernel
theorem dX9_accept_55 : decode cX9_accept 55 = .ok (.aload_n 0, 1) := by decide +kernel
theorem dX9_accept_56 : decode cX9_accept 56 = .ok (.getfield 43, 3) := by decide +kernel
theorem dX9_accept_59 : decode cX9_accept 59 = .ok (.iload_n 2, 1) := by decide +kernel
theorem dX9_accept_60 : decode cX9_accept 60 = .ok (.iaload, 1) := by decide +kernel
theorem dX9_accept_61 : decode cX9_accept 61 = .ok (.invokevirtual 99, 3) := by decide +kernel
theorem dX9_accept_64 : decode cX9_accept 64 = .ok (.iastore, 1) := by decide +kernel
theorem dX9_accept_65 : decode cX9_accept 65 = .ok (.aload_n 0, 1) := by decide +kernel
theorem dX9_accept_66 : decode cX9_accept 66 = .ok (.getfield 90, 3) := by decide +kernel
theorem dX9_accept_69 : decode cX9_accept 69 = .ok (.iconst (-1), 1) := by decide +kernel
theorem dX9_accept_70 : decode cX9_accept 70 = .ok (.if_icmp .eq 18, 3) := by decide +kernel
theorem dX9_accept_73 : decode cX9_accept 73 = .ok (.aload_n 0, 1) := by decide +kernel
theorem dX9_accept_74 : decode cX9_accept 74 = .ok (.getfield 49, 3) := by decide +kernel
theorem dX9_accept_77 : decode cX9_accept 77 = .ok (.iload_n 1, 1) := by decide +kernel
theorem dX9_accept_78 : decode cX9_accept 78 = .ok (.dup2, 1) := by decide +kernel
theorem dX9_accept_79 : decode cX9_accept 79 = .ok (.iaload, 1) := by decide +kernel
theorem dX9_accept_80 : decode cX9_accept 80 = .ok (.iconst 1, 1) := by decide +kernel
theorem dX9_accept_81 : decode cX9_accept 81 = .ok (.aload_n 0, 1) := by decide +kernel
theorem dX9_accept_82 : decode cX9_accept 82 = .ok (.getfield 90, 3) := by decide +kernel
theorem dX9_accept_85 : decode cX9_accept 85 = .ok (.ishl, 1) := by decide +kernel
theorem dX9_accept_86 : decode cX9_accept 86 = .ok (.ior, 1) := by decide +kernel
theorem dX9_accept_87 : decode cX9_accept 87 = .ok (.iastore, 1) := by decide +kernel
theorem dX9_accept_88 : decode cX9_accept 88 = .ok (.iinc 2 1, 3) := by decide +kernel
theorem dX9_accept_91 : decode cX9_accept 91 = .ok (.goto (-64), 3) := by decide +kernel
theorem dX9_accept_94 : decode cX9_accept 94 = .ok (.aload_n 0, 1) := by decide +kernel
theorem dX9_accept_95 : decode cX9_accept 95 = .ok (.getfield 52, 3) := by decide +kernel
theorem dX9_accept_98 : decode cX9_accept 98 = .ok (.iload_n 1, 1) := by decide +kernel
theorem dX9_accept_99 : decode cX9_accept 99 = .ok (.iconst 0, 1) := by decide +kernel
theorem dX9_accept_100 : decode cX9_accept 100 = .ok (.bastore, 1) := by decide +kernel
theorem dX9_accept_101 : decode cX9_accept 101 = .ok (.aload_n 0, 1) := by decide +kernel
theorem dX9_accept_102 : decode cX9_accept 102 = .ok (.getfield 56, 3) := by decide +kernel
theorem dX9_accept_105 : decode cX9_accept 105 = .ok (.iload_n 1, 1) := by decide +kernel
theorem dX9_accept_106 : decode cX9_accept 106 = .ok (.iconst 0, 1) := by decide +kernel
theorem dX9_accept_107 : decode cX9_accept 107 = .ok (.bastore, 1) := by decide +kernel
theorem dX9_accept_108 : decode cX9_accept 108 = .ok (.iconst 1, 1) := by decide +kernel
theorem dX9_accept_109 : decode cX9_accept 109 = .ok (.ireturn, 1) := by decide +kernel
theorem dX9_drop_0 : decode cX9_drop 0 = .ok (.aload_n 0, 1) := by decide +kernel
theorem dX9_drop_1 : decode cX9_drop 1 = .ok (.iload_n 1, 1) := by decide +kernel
theorem dX9_drop_2 : decode cX9_drop 2 = .ok (.invokevirtual 121, 3) := by decide +kernel
theorem dX9_drop_5 : decode cX9_drop 5 = .ok (.ifCond .ne 5, 3) := by decide +kernel
theorem dX9_drop_8 : decode cX9_drop 8 = .ok (.iconst 0, 1) := by decide +kernel
theorem dX9_drop_9 : decode cX9_drop 9 = .ok (.ireturn, 1) := by decide +kernel
theorem dX9_drop_10 : decode cX9_drop 10 = .ok (.iload_n 1, 1) := by decide +kernel
theorem dX9_drop_11 : decode cX9_drop 11 = .ok (.istore_n 2, 1) := by decide +kernel
theorem dX9_drop_12 : decode cX9_drop 12 = .ok (.iload_n 2, 1) := by decide +kernel
theorem dX9_drop_13 : decode cX9_drop 13 = .ok (.iconst 1, 1) := by decide +kernel
theorem dX9_drop_14 : decode cX9_drop 14 = .ok (.iadd, 1) := by decide +kernel
theorem dX9_drop_15 : decode cX9_drop 15 = .ok (.aload_n 0, 1) := by decide +kernel
theorem dX9_drop_16 : decode cX9_drop 16 = .ok (.getfield 83, 3) := by decide +kernel
theorem dX9_drop_19 : decode cX9_drop 19 = .ok (.if_icmp .ge 164, 3) := by decide +kernel
theorem dX9_drop_22 : decode cX9_drop 22 = .ok (.aload_n 0, 1) := by decide +kernel
theorem dX9_drop_23 : decode cX9_drop 23 = .ok (.getfield 37, 3) := by decide +kernel
theorem dX9_drop_26 : decode cX9_drop 26 = .ok (.iload_n 2, 1) := by decide +kernel
theorem dX9_drop_27 : decode cX9_drop 27 = .ok (.aload_n 0, 1) := by decide +kernel
theorem dX9_drop_28 : decode cX9_drop 28 = .ok (.getfield 37, 3) := by decide +kernel
theorem dX9_drop_31 : decode cX9_drop 31 = .ok (.iload_n 2, 1) := by decide +kernel
theorem dX9_drop_32 : decode cX9_drop 32 = .ok (.iconst 1, 1) := by decide +kernel
theorem dX9_drop_33 : decode cX9_drop 33 = .ok (.iadd, 1) := by decide +kernel
theorem dX9_drop_34 : decode cX9_drop 34 = .ok (.iaload, 1) := by decide +kernel
theorem dX9_drop_35 : decode cX9_drop 35 = .ok (.iastore, 1) := by decide +kernel
theorem dX9_drop_36 : decode cX9_drop 36 = .ok (.aload_n 0, 1) := by decide +kernel
theorem dX9_drop_37 : decode cX9_drop 37 = .ok (.getfield 49, 3) := by decide +kernel
theorem dX9_drop_40 : decode cX9_drop 40 = .ok (.iload_n 2, 1) := by decide +kernel
theorem dX9_drop_41 : decode cX9_drop 41 = .ok (.aload_n 0, 1) := by decide +kernel
theorem dX9_drop_42 : decode cX9_drop 42 = .ok (.getfield 49, 3) := by decide +kernel
theorem dX9_drop_45 : decode cX9_drop 45 = .ok (.iload_n 2, 1) := by decide +kernel
theorem dX9_drop_46 : decode cX9_drop 46 = .ok (.iconst 1, 1) := by decide +kernel
theorem dX9_drop_47 : decode cX9_drop 47 = .ok (.iadd, 1) := by decide +kernel
theorem dX9_drop_48 : decode cX9_drop 48 = .ok (.iaload, 1) := by decide +kernel
theorem dX9_drop_49 : decode cX9_drop 49 = .ok (.iastore, 1) := by decide +kernel
theorem dX9_drop_50 : decode cX9_drop 50 = .ok (.aload_n 0, 1) := by decide +kernel
theorem dX9_drop_51 : decode cX9_drop 51 = .ok (.getfield 52, 3) := by decide +kernel
theorem dX9_drop_54 : decode cX9_drop 54 = .ok (.iload_n 2, 1) := by decide +kernel
theorem dX9_drop_55 : decode cX9_drop 55 = .ok (.aload_n 0, 1) := by decide +kernel
theorem dX9_drop_56 : decode cX9_drop 56 = .ok (.getfield 52, 3) := by decide +kernel
theorem dX9_drop_59 : decode cX9_drop 59 = .ok (.iload_n 2, 1) := by decide +kernel
theorem dX9_drop_60 : decode cX9_drop 60 = .ok (.iconst 1, 1) := by decide +kernel
theorem dX9_drop_61 : decode cX9_drop 61 = .ok (.iadd, 1) := by decide +kernel
theorem dX9_drop_62 : decode cX9_drop 62 = .ok (.baload, 1) := by decide +kernel
theorem dX9_drop_63 : decode cX9_drop 63 = .ok (.bastore, 1) := by decide +kernel
theorem dX9_drop_64 : decode cX9_drop 64 = .ok (.aload_n 0, 1) := by decide +kernel
theorem dX9_drop_65 : decode cX9_drop 65 = .ok (.getfield 56, 3) := by decide +kernel
theorem dX9_drop_68 : decode cX9_drop 68 = .ok (.iload_n 2, 1) := by decide +kernel
theorem dX9_drop_69 : decode cX9_drop 69 = .ok (.aload_n 0, 1) := by decide +kernel
theorem dX9_drop_70 : decode cX9_drop 70 = .ok (.getfield 56, 3) := by decide +kernel
theorem dX9_drop_73 : decode cX9_drop 73 = .ok (.iload_n 2, 1) := by decide +kernel
theorem dX9_drop_74 : decode cX9_drop 74 = .ok (.iconst 1, 1) := by decide +kernel
theorem dX9_drop_75 : decode cX9_drop 75 = .ok (.iadd, 1) := by decide +kernel
theorem dX9_drop_76 : decode cX9_drop 76 = .ok (.baload, 1) := by decide +kernel
theorem dX9_drop_77 : decode cX9_drop 77 = .ok (.bastore, 1) := by decide +kernel
theorem dX9_drop_78 : decode cX9_drop 78 = .ok (.iconst 0, 1) := by decide +kernel
theorem dX9_drop_79 : decode cX9_drop 79 = .ok (.istore_n 3, 1) := by decide +kernel
theorem dX9_drop_80 : decode cX9_drop 80 = .ok (.iload_n 3, 1) := by decide +kernel
theorem dX9_drop_81 : decode cX9_drop 81 = .ok (.sipush 200, 3) := by decide +kernel
theorem dX9_drop_84 : decode cX9_drop 84 = .ok (.if_icmp .ge 93, 3) := by decide +kernel
theorem dX9_drop_87 : decode cX9_drop 87 = .ok (.aload_n 0, 1) := by decide +kernel
theorem dX9_drop_88 : decode cX9_drop 88 = .ok (.getfield 40, 3) := by decide +kernel
theorem dX9_drop_91 : decode cX9_drop 91 = .ok (.sipush 200, 3) := by decide +kernel
theorem dX9_drop_94 : decode cX9_drop 94 = .ok (.iload_n 2, 1) := by decide +kernel
theorem dX9_drop_95 : decode cX9_drop 95 = .ok (.imul, 1) := by decide +kernel
theorem dX9_drop_96 : decode cX9_drop 96 = .ok (.iload_n 3, 1) := by decide +kernel
theorem dX9_drop_97 : decode cX9_drop 97 = .ok (.iadd, 1) := by decide +kernel
theorem dX9_drop_98 : decode cX9_drop 98 = .ok (.aload_n 0, 1) := by decide +kernel
theorem dX9_drop_99 : decode cX9_drop 99 = .ok (.getfield 40, 3) := by decide +kernel
theorem dX9_drop_102 : decode cX9_drop 102 = .ok (.sipush 200, 3) := by decide +kernel
theorem dX9_drop_105 : decode cX9_drop 105 = .ok (.iload_n 2, 1) := by decide +kernel
theorem dX9_drop_106 : decode cX9_drop 106 = .ok (.imul, 1) := by decide +kernel
theorem dX9_drop_107 : decode cX9_drop 107 = .ok (.sipush 200, 3) := by decide +kernel
theorem dX9_drop_110 : decode cX9_drop 110 = .ok (.iadd, 1) := by decide +kernel
theorem dX9_drop_111 : decode cX9_drop 111 = .ok (.iload_n 3, 1) := by decide +kernel
theorem dX9_drop_112 : decode cX9_drop 112 = .ok (.iadd, 1) := by decide +kernel
theorem dX9_drop_113 : decode cX9_drop 113 = .ok (.iaload, 1) := by decide +kernel
theorem dX9_drop_114 : decode cX9_drop 114 = .ok (.iastore, 1) := by decide +kernel
theorem dX9_drop_115 : decode cX9_drop 115 = .ok (.aload_n 0, 1) := by decide +kernel
theorem dX9_drop_116 : decode cX9_drop 116 = .ok (.getfield 43, 3) := by decide +kernel
theorem dX9_drop_119 : decode cX9_drop 119 = .ok (.sipush 200, 3) := by decide +kernel
theorem dX9_drop_122 : decode cX9_drop 122 = .ok (.iload_n 2, 1) := by decide +kernel
theorem dX9_drop_123 : decode cX9_drop 123 = .ok (.imul, 1) := by decide +kernel
theorem dX9_drop_124 : decode cX9_drop 124 = .ok (.iload_n 3, 1) := by decide +kernel
theorem dX9_drop_125 : decode cX9_drop 125 = .ok (.iadd, 1) := by decide +kernel
theorem dX9_drop_126 : decode cX9_drop 126 = .ok (.aload_n 0, 1) := by decide +kernel
theorem dX9_drop_127 : decode cX9_drop 127 = .ok (.getfield 43, 3) := by decide +kernel
theorem dX9_drop_130 : decode cX9_drop 130 = .ok (.sipush 200, 3) := by decide +kernel
theorem dX9_drop_133 : decode cX9_drop 133 = .ok (.iload_n 2, 1) := by decide +kernel
theorem dX9_drop_134 : decode cX9_drop 134 = .ok (.imul, 1) := by decide +kernel
theorem dX9_drop_135 : decode cX9_drop 135 = .ok (.sipush 200, 3) := by decide +kernel
theorem dX9_drop_138 : decode cX9_drop 138 = .ok (.iadd, 1) := by decide +kernel
theorem dX9_drop_139 : decode cX9_drop 139 = .ok (.iload_n 3, 1) := by decide +kernel
theorem dX9_drop_140 : decode cX9_drop 140 = .ok (.iadd, 1) := by decide +kernel
theorem dX9_drop_141 : decode cX9_drop 141 = .ok (.iaload, 1) := by decide +kernel
theorem dX9_drop_142 : decode cX9_drop 142 = .ok (.iastore, 1) := by decide +kernel
theorem dX9_drop_143 : decode cX9_drop 143 = .ok (.aload_n 0, 1) := by decide +kernel
theorem dX9_drop_144 : decode cX9_drop 144 = .ok (.getfield 46, 3) := by decide +kernel
theorem dX9_drop_147 : decode cX9_drop 147 = .ok (.sipush 200, 3) := by decide +kernel
theorem dX9_drop_150 : decode cX9_drop 150 = .ok (.iload_n 2, 1) := by decide +kernel
theorem dX9_drop_151 : decode cX9_drop 151 = .ok (.imul, 1) := by decide +kernel
theorem dX9_drop_152 : decode cX9_drop 152 = .ok (.iload_n 3, 1) := by decide +kernel
theorem dX9_drop_153 : decode cX9_drop 153 = .ok (.iadd, 1) := by decide +kernel
theorem dX9_drop_154 : decode cX9_drop 154 = .ok (.aload_n 0, 1) := by decide +kernel
theorem dX9_drop_155 : decode cX9_drop 155 = .ok (.getfield 46, 3) := by decide +kernel
theorem dX9_drop_158 : decode cX9_drop 158 = .ok (.sipush 200, 3) := by decide +kernel
theorem dX9_drop_161 : decode cX9_drop 161 = .ok (.iload_n 2, 1) := by decide +kernel
theorem dX9_drop_162 : decode cX9_drop 162 = .ok (.imul, 1) := by decide +kernel
theorem dX9_drop_163 : decode cX9_drop 163 = .ok (.sipush 200, 3) := by decide +kernel
theorem dX9_drop_166 : decode cX9_drop 166 = .ok (.iadd, 1) := by decide +kernel
theorem dX9_drop_167 : decode cX9_drop 167 = .ok (.iload_n 3, 1) := by decide +kernel
theorem dX9_drop_168 : decode cX9_drop 168 = .ok (.iadd, 1) := by decide +kernel
theorem dX9_drop_169 : decode cX9_drop 169 = .ok (.iaload, 1) := by decide +kernel
theorem dX9_drop_170 : decode cX9_drop 170 = .ok (.iastore, 1) := by decide +kernel
theorem dX9_drop_171 : decode cX9_drop 171 = .ok (.iinc 3 1, 3) := by decide +kernel
theorem dX9_drop_174 : decode cX9_drop 174 = .ok (.goto (-94), 3) := by decide +kernel
theorem dX9_drop_177 : decode cX9_drop 177 = .ok (.iinc 2 1, 3) := by decide +kernel
theorem dX9_drop_180 : decode cX9_drop 180 = .ok (.goto (-168), 3) := by decide +kernel
theorem dX9_drop_183 : decode cX9_drop 183 = .ok (.aload_n 0, 1) := by decide +kernel
theorem dX9_drop_184 : decode cX9_drop 184 = .ok (.dup, 1) := by decide +kernel
theorem dX9_drop_185 : decode cX9_drop 185 = .ok (.getfield 83, 3) := by decide +kernel
theorem dX9_drop_188 : decode cX9_drop 188 = .ok (.iconst 1, 1) := by decide +kernel
theorem dX9_drop_189 : decode cX9_drop 189 = .ok (.isub, 1) := by decide +kernel
theorem dX9_drop_190 : decode cX9_drop 190 = .ok (.putfield 83, 3) := by decide +kernel
theorem dX9_drop_193 : decode cX9_drop 193 = .ok (.iconst 1, 1) := by decide +kernel
theorem dX9_drop_194 : decode cX9_drop 194 = .ok (.ireturn, 1) := by decide +kernel
theorem dX9_differs_0 : decode cX9_differs 0 = .ok (.aload_n 0, 1) := by decide +kernel
theorem dX9_differs_1 : decode cX9_differs 1 = .ok (.iload_n 1, 1) := by decide +kernel
theorem dX9_differs_2 : decode cX9_differs 2 = .ok (.invokevirtual 121, 3) := by decide +kernel
theorem dX9_differs_5 : decode cX9_differs 5 = .ok (.ifCond .ne 5, 3) := by decide +kernel
theorem dX9_differs_8 : decode cX9_differs 8 = .ok (.iconst (-1), 1) := by decide +kernel
theorem dX9_differs_9 : decode cX9_differs 9 = .ok (.ireturn, 1) := by decide +kernel
theorem dX9_differs_10 : decode cX9_differs 10 = .ok (.aload_n 0, 1) := by decide +kernel
theorem dX9_differs_11 : decode cX9_differs 11 = .ok (.invokevirtual 103, 3) := by decide +kernel
theorem dX9_differs_14 : decode cX9_differs 14 = .ok (.iconst 0, 1) := by decide +kernel
theorem dX9_differs_15 : decode cX9_differs 15 = .ok (.istore_n 2, 1) := by decide +kernel
theorem dX9_differs_16 : decode cX9_differs 16 = .ok (.iload_n 2, 1) := by decide +kernel
theorem dX9_differs_17 : decode cX9_differs 17 = .ok (.aload_n 0, 1) := by decide +kernel
theorem dX9_differs_18 : decode cX9_differs 18 = .ok (.getfield 37, 3) := by decide +kernel
theorem dX9_differs_21 : decode cX9_differs 21 = .ok (.iload_n 1, 1) := by decide +kernel
theorem dX9_differs_22 : decode cX9_differs 22 = .ok (.iaload, 1) := by decide +kernel
theorem dX9_differs_23 : decode cX9_differs 23 = .ok (.if_icmp .ge 44, 3) := by decide +kernel
theorem dX9_differs_26 : decode cX9_differs 26 = .ok (.sipush 200, 3) := by decide +kernel
theorem dX9_differs_29 : decode cX9_differs 29 = .ok (.iload_n 1, 1) := by decide +kernel
theorem dX9_differs_30 : decode cX9_differs 30 = .ok (.imul, 1) := by decide +kernel
theorem dX9_differs_31 : decode cX9_differs 31 = .ok (.iload_n 2, 1) := by decide +kernel
theorem dX9_differs_32 : decode cX9_differs 32 = .ok (.iadd, 1) := by decide +kernel
theorem dX9_differs_33 : decode cX9_differs 33 = .ok (.istore_n 3, 1) := by decide +kernel
theorem dX9_differs_34 : decode cX9_differs 34 = .ok (.aload_n 0, 1) := by decide +kernel
theorem dX9_differs_35 : decode cX9_differs 35 = .ok (.aload_n 0, 1) := by decide +kernel
theorem dX9_differs_36 : decode cX9_differs 36 = .ok (.getfield 40, 3) := by decide +kernel
theorem dX9_differs_39 : decode cX9_differs 39 = .ok (.iload_n 3, 1) := by decide +kernel
theorem dX9_differs_40 : decode cX9_differs 40 = .ok (.iaload, 1) := by decide +kernel
theorem dX9_differs_41 : decode cX9_differs 41 = .ok (.aload_n 0, 1) := by decide +kernel
theorem dX9_differs_42 : decode cX9_differs 42 = .ok (.getfield 43, 3) := by decide +kernel
theorem dX9_differs_45 : decode cX9_differs 45 = .ok (.iload_n 3, 1) := by decide +kernel
theorem dX9_differs_46 : decode cX9_differs 46 = .ok (.iaload, 1) := by decide +kernel
theorem dX9_differs_47 : decode cX9_differs 47 = .ok (.invokevirtual 99, 3) := by decide +kernel
theorem dX9_differs_50 : decode cX9_differs 50 = .ok (.aload_n 0, 1) := by decide +kernel
theorem dX9_differs_51 : decode cX9_differs 51 = .ok (.getfield 46, 3) := by decide +kernel
theorem dX9_differs_54 : decode cX9_differs 54 = .ok (.iload_n 3, 1) := by decide +kernel
theorem dX9_differs_55 : decode cX9_differs 55 = .ok (.iaload, 1) := by decide +kernel
theorem dX9_differs_56 : decode cX9_differs 56 = .ok (.if_icmp .eq 5, 3) := by decide +kernel
theorem dX9_differs_59 : decode cX9_differs 59 = .ok (.iload_n 2, 1) := by decide +kernel
theorem dX9_differs_60 : decode cX9_differs 60 = .ok (.ireturn, 1) := by decide +kernel
theorem dX9_differs_61 : decode cX9_differs 61 = .ok (.iinc 2 1, 3) := by decide +kernel
theorem dX9_differs_64 : decode cX9_differs 64 = .ok (.goto (-48), 3) := by decide +kernel
theorem dX9_differs_67 : decode cX9_differs 67 = .ok (.iconst (-1), 1) := by decide +kernel
theorem dX9_differs_68 : decode cX9_differs 68 = .ok (.ireturn, 1) := by decide +kernel
theorem dX9_meets_0 : decode cX9_meets 0 = .ok (.aload_n 0, 1) := by decide +kernel
theorem dX9_meets_1 : decode cX9_meets 1 = .ok (.invokevirtual 103, 3) := by decide +kernel
theorem dX9_meets_4 : decode cX9_meets 4 = .ok (.iconst 0, 1) := by decide +kernel
theorem dX9_meets_5 : decode cX9_meets 5 = .ok (.istore_n 2, 1) := by decide +kernel
theorem dX9_meets_6 : decode cX9_meets 6 = .ok (.sipush 200, 3) := by decide +kernel
theorem dX9_meets_9 : decode cX9_meets 9 = .ok (.iload_n 1, 1) := by decide +kernel
theorem dX9_meets_10 : decode cX9_meets 10 = .ok (.imul, 1) := by decide +kernel
theorem dX9_meets_11 : decode cX9_meets 11 = .ok (.istore_n 3, 1) := by decide +kernel
theorem dX9_meets_12 : decode cX9_meets 12 = .ok (.iload_n 3, 1) := by decide +kernel
theorem dX9_meets_13 : decode cX9_meets 13 = .ok (.sipush 200, 3) := by decide +kernel
theorem dX9_meets_16 : decode cX9_meets 16 = .ok (.iload_n 1, 1) := by decide +kernel
theorem dX9_meets_17 : decode cX9_meets 17 = .ok (.imul, 1) := by decide +kernel
theorem dX9_meets_18 : decode cX9_meets 18 = .ok (.aload_n 0, 1) := by decide +kernel
theorem dX9_meets_19 : decode cX9_meets 19 = .ok (.getfield 37, 3) := by decide +kernel
theorem dX9_meets_22 : decode cX9_meets 22 = .ok (.iload_n 1, 1) := by decide +kernel
theorem dX9_meets_23 : decode cX9_meets 23 = .ok (.iaload, 1) := by decide +kernel
theorem dX9_meets_24 : decode cX9_meets 24 = .ok (.iadd, 1) := by decide +kernel
theorem dX9_meets_25 : decode cX9_meets 25 = .ok (.if_icmp .ge 43, 3) := by decide +kernel
theorem dX9_meets_28 : decode cX9_meets 28 = .ok (.aload_n 0, 1) := by decide +kernel
theorem dX9_meets_29 : decode cX9_meets 29 = .ok (.aload_n 0, 1) := by decide +kernel
theorem dX9_meets_30 : decode cX9_meets 30 = .ok (.getfield 40, 3) := by decide +kernel
theorem dX9_meets_33 : decode cX9_meets 33 = .ok (.iload_n 3, 1) := by decide +kernel
theorem dX9_meets_34 : decode cX9_meets 34 = .ok (.iaload, 1) := by decide +kernel
theorem dX9_meets_35 : decode cX9_meets 35 = .ok (.aload_n 0, 1) := by decide +kernel
theorem dX9_meets_36 : decode cX9_meets 36 = .ok (.getfield 43, 3) := by decide +kernel
theorem dX9_meets_39 : decode cX9_meets 39 = .ok (.iload_n 3, 1) := by decide +kernel
theorem dX9_meets_40 : decode cX9_meets 40 = .ok (.iaload, 1) := by decide +kernel
theorem dX9_meets_41 : decode cX9_meets 41 = .ok (.invokevirtual 99, 3) := by decide +kernel
theorem dX9_meets_44 : decode cX9_meets 44 = .ok (.pop, 1) := by decide +kernel
theorem dX9_meets_45 : decode cX9_meets 45 = .ok (.aload_n 0, 1) := by decide +kernel
theorem dX9_meets_46 : decode cX9_meets 46 = .ok (.getfield 90, 3) := by decide +kernel
theorem dX9_meets_49 : decode cX9_meets 49 = .ok (.iconst (-1), 1) := by decide +kernel
theorem dX9_meets_50 : decode cX9_meets 50 = .ok (.if_icmp .eq 12, 3) := by decide +kernel
theorem dX9_meets_53 : decode cX9_meets 53 = .ok (.iload_n 2, 1) := by decide +kernel
theorem dX9_meets_54 : decode cX9_meets 54 = .ok (.iconst 1, 1) := by decide +kernel
theorem dX9_meets_55 : decode cX9_meets 55 = .ok (.aload_n 0, 1) := by decide +kernel
theorem dX9_meets_56 : decode cX9_meets 56 = .ok (.getfield 90, 3) := by decide +kernel
theorem dX9_meets_59 : decode cX9_meets 59 = .ok (.ishl, 1) := by decide +kernel
theorem dX9_meets_60 : decode cX9_meets 60 = .ok (.ior, 1) := by decide +kernel
theorem dX9_meets_61 : decode cX9_meets 61 = .ok (.istore_n 2, 1) := by decide +kernel
theorem dX9_meets_62 : decode cX9_meets 62 = .ok (.iinc 3 1, 3) := by decide +kernel
theorem dX9_meets_65 : decode cX9_meets 65 = .ok (.goto (-53), 3) := by decide +kernel
theorem dX9_meets_68 : decode cX9_meets 68 = .ok (.iload_n 2, 1) := by decide +kernel
theorem dX9_meets_69 : decode cX9_meets 69 = .ok (.ireturn, 1) := by decide +kernel
theorem dX9_told_0 : decode cX9_told 0 = .ok (.aload_n 0, 1) := by decide +kernel
theorem dX9_told_1 : decode cX9_told 1 = .ok (.iload_n 1, 1) := by decide +kernel
theorem dX9_told_2 : decode cX9_told 2 = .ok (.invokevirtual 121, 3) := by decide +kernel
theorem dX9_told_5 : decode cX9_told 5 = .ok (.ifCond .ne 5, 3) := by decide +kernel
theorem dX9_told_8 : decode cX9_told 8 = .ok (.iconst (-1), 1) := by decide +kernel
theorem dX9_told_9 : decode cX9_told 9 = .ok (.ireturn, 1) := by decide +kernel
theorem dX9_told_10 : decode cX9_told 10 = .ok (.iload_n 2, 1) := by decide +kernel
theorem dX9_told_11 : decode cX9_told 11 = .ok (.tableswitch 102 0 5 #[37, 44, 59, 74, 89, 96], 37) := by decide +kernel
theorem dX9_told_48 : decode cX9_told 48 = .ok (.aload_n 0, 1) := by decide +kernel
theorem dX9_told_49 : decode cX9_told 49 = .ok (.getfield 37, 3) := by decide +kernel
theorem dX9_told_52 : decode cX9_told 52 = .ok (.iload_n 1, 1) := by decide +kernel
theorem dX9_told_53 : decode cX9_told 53 = .ok (.iaload, 1) := by decide +kernel
theorem dX9_told_54 : decode cX9_told 54 = .ok (.ireturn, 1) := by decide +kernel
theorem dX9_told_55 : decode cX9_told 55 = .ok (.aload_n 0, 1) := by decide +kernel
theorem dX9_told_56 : decode cX9_told 56 = .ok (.getfield 52, 3) := by decide +kernel
theorem dX9_told_59 : decode cX9_told 59 = .ok (.iload_n 1, 1) := by decide +kernel
theorem dX9_told_60 : decode cX9_told 60 = .ok (.baload, 1) := by decide +kernel
theorem dX9_told_61 : decode cX9_told 61 = .ok (.ifCond .eq 7, 3) := by decide +kernel
theorem dX9_told_64 : decode cX9_told 64 = .ok (.iconst 1, 1) := by decide +kernel
theorem dX9_told_65 : decode cX9_told 65 = .ok (.goto 4, 3) := by decide +kernel
theorem dX9_told_68 : decode cX9_told 68 = .ok (.iconst 0, 1) := by decide +kernel
theorem dX9_told_69 : decode cX9_told 69 = .ok (.ireturn, 1) := by decide +kernel
theorem dX9_told_70 : decode cX9_told 70 = .ok (.aload_n 0, 1) := by decide +kernel
theorem dX9_told_71 : decode cX9_told 71 = .ok (.getfield 56, 3) := by decide +kernel
theorem dX9_told_74 : decode cX9_told 74 = .ok (.iload_n 1, 1) := by decide +kernel
theorem dX9_told_75 : decode cX9_told 75 = .ok (.baload, 1) := by decide +kernel
theorem dX9_told_76 : decode cX9_told 76 = .ok (.ifCond .eq 7, 3) := by decide +kernel
theorem dX9_told_79 : decode cX9_told 79 = .ok (.iconst 1, 1) := by decide +kernel
theorem dX9_told_80 : decode cX9_told 80 = .ok (.goto 4, 3) := by decide +kernel
theorem dX9_told_83 : decode cX9_told 83 = .ok (.iconst 0, 1) := by decide +kernel
theorem dX9_told_84 : decode cX9_told 84 = .ok (.ireturn, 1) := by decide +kernel
theorem dX9_told_85 : decode cX9_told 85 = .ok (.aload_n 0, 1) := by decide +kernel
theorem dX9_told_86 : decode cX9_told 86 = .ok (.iload_n 1, 1) := by decide +kernel
theorem dX9_told_87 : decode cX9_told 87 = .ok (.invokevirtual 124, 3) := by decide +kernel
theorem dX9_told_90 : decode cX9_told 90 = .ok (.iconst (-1), 1) := by decide +kernel
theorem dX9_told_91 : decode cX9_told 91 = .ok (.if_icmp .eq 7, 3) := by decide +kernel
theorem dX9_told_94 : decode cX9_told 94 = .ok (.iconst 1, 1) := by decide +kernel
theorem dX9_told_95 : decode cX9_told 95 = .ok (.goto 4, 3) := by decide +kernel
theorem dX9_told_98 : decode cX9_told 98 = .ok (.iconst 0, 1) := by decide +kernel
theorem dX9_told_99 : decode cX9_told 99 = .ok (.ireturn, 1) := by decide +kernel
theorem dX9_told_100 : decode cX9_told 100 = .ok (.aload_n 0, 1) := by decide +kernel
theorem dX9_told_101 : decode cX9_told 101 = .ok (.getfield 49, 3) := by decide +kernel
theorem dX9_told_104 : decode cX9_told 104 = .ok (.iload_n 1, 1) := by decide +kernel
theorem dX9_told_105 : decode cX9_told 105 = .ok (.iaload, 1) := by decide +kernel
theorem dX9_told_106 : decode cX9_told 106 = .ok (.ireturn, 1) := by decide +kernel
theorem dX9_told_107 : decode cX9_told 107 = .ok (.aload_n 0, 1) := by decide +kernel
end
section
theorem dX9_told_108 : decode cX9_told 108 = .ok (.iload_n 1, 1) := by decide +kernel
theorem dX9_told_109 : decode cX9_told 109 = .ok (.invokevirtual 127, 3) := by decide +kernel
theorem dX9_told_112 : decode cX9_told 112 = .ok (.ireturn, 1) := by decide +kernel
theorem dX9_told_113 : decode cX9_told 113 = .ok (.iconst (-1), 1) := by decide +kernel
theorem dX9_told_114 : decode cX9_told 114 = .ok (.ireturn, 1) := by decide +kernel
theorem dX9_givesNow_0 : decode cX9_givesNow 0 = .ok (.aload_n 0, 1) := by decide +kernel
theorem dX9_givesNow_1 : decode cX9_givesNow 1 = .ok (.invokevirtual 103, 3) := by decide +kernel
theorem dX9_givesNow_4 : decode cX9_givesNow 4 = .ok (.iconst (-1), 1) := by decide +kernel
theorem dX9_givesNow_5 : decode cX9_givesNow 5 = .ok (.istore_n 3, 1) := by decide +kernel
theorem dX9_givesNow_6 : decode cX9_givesNow 6 = .ok (.sipush 200, 3) := by decide +kernel
theorem dX9_givesNow_9 : decode cX9_givesNow 9 = .ok (.iload_n 1, 1) := by decide +kernel
theorem dX9_givesNow_10 : decode cX9_givesNow 10 = .ok (.imul, 1) := by decide +kernel
theorem dX9_givesNow_11 : decode cX9_givesNow 11 = .ok (.istore 4, 2) := by decide +kernel
theorem dX9_givesNow_13 : decode cX9_givesNow 13 = .ok (.iload 4, 2) := by decide +kernel
theorem dX9_givesNow_15 : decode cX9_givesNow 15 = .ok (.sipush 200, 3) := by decide +kernel
theorem dX9_givesNow_18 : decode cX9_givesNow 18 = .ok (.iload_n 1, 1) := by decide +kernel
theorem dX9_givesNow_19 : decode cX9_givesNow 19 = .ok (.imul, 1) := by decide +kernel
theorem dX9_givesNow_20 : decode cX9_givesNow 20 = .ok (.iload_n 2, 1) := by decide +kernel
theorem dX9_givesNow_21 : decode cX9_givesNow 21 = .ok (.iadd, 1) := by decide +kernel
theorem dX9_givesNow_22 : decode cX9_givesNow 22 = .ok (.if_icmp .gt 28, 3) := by decide +kernel
theorem dX9_givesNow_25 : decode cX9_givesNow 25 = .ok (.aload_n 0, 1) := by decide +kernel
theorem dX9_givesNow_26 : decode cX9_givesNow 26 = .ok (.aload_n 0, 1) := by decide +kernel
theorem dX9_givesNow_27 : decode cX9_givesNow 27 = .ok (.getfield 40, 3) := by decide +kernel
theorem dX9_givesNow_30 : decode cX9_givesNow 30 = .ok (.iload 4, 2) := by decide +kernel
theorem dX9_givesNow_32 : decode cX9_givesNow 32 = .ok (.iaload, 1) := by decide +kernel
theorem dX9_givesNow_33 : decode cX9_givesNow 33 = .ok (.aload_n 0, 1) := by decide +kernel
theorem dX9_givesNow_34 : decode cX9_givesNow 34 = .ok (.getfield 43, 3) := by decide +kernel
theorem dX9_givesNow_37 : decode cX9_givesNow 37 = .ok (.iload 4, 2) := by decide +kernel
theorem dX9_givesNow_39 : decode cX9_givesNow 39 = .ok (.iaload, 1) := by decide +kernel
theorem dX9_givesNow_40 : decode cX9_givesNow 40 = .ok (.invokevirtual 99, 3) := by decide +kernel
theorem dX9_givesNow_43 : decode cX9_givesNow 43 = .ok (.istore_n 3, 1) := by decide +kernel
theorem dX9_givesNow_44 : decode cX9_givesNow 44 = .ok (.iinc 4 1, 3) := by decide +kernel
theorem dX9_givesNow_47 : decode cX9_givesNow 47 = .ok (.goto (-34), 3) := by decide +kernel
theorem dX9_givesNow_50 : decode cX9_givesNow 50 = .ok (.iload_n 3, 1) := by decide +kernel
theorem dX9_givesNow_51 : decode cX9_givesNow 51 = .ok (.ireturn, 1) := by decide +kernel
theorem dX9_row_0 : decode cX9_row 0 = .ok (.aload_n 0, 1) := by decide +kernel
theorem dX9_row_1 : decode cX9_row 1 = .ok (.iload_n 1, 1) := by decide +kernel
theorem dX9_row_2 : decode cX9_row 2 = .ok (.invokevirtual 121, 3) := by decide +kernel
theorem dX9_row_5 : decode cX9_row 5 = .ok (.ifCond .eq 19, 3) := by decide +kernel
theorem dX9_row_8 : decode cX9_row 8 = .ok (.iload_n 2, 1) := by decide +kernel
theorem dX9_row_9 : decode cX9_row 9 = .ok (.iconst 0, 1) := by decide +kernel
theorem dX9_row_10 : decode cX9_row 10 = .ok (.aload_n 0, 1) := by decide +kernel
theorem dX9_row_11 : decode cX9_row 11 = .ok (.getfield 37, 3) := by decide +kernel
theorem dX9_row_14 : decode cX9_row 14 = .ok (.iload_n 1, 1) := by decide +kernel
theorem dX9_row_15 : decode cX9_row 15 = .ok (.iaload, 1) := by decide +kernel
theorem dX9_row_16 : decode cX9_row 16 = .ok (.iconst 1, 1) := by decide +kernel
theorem dX9_row_17 : decode cX9_row 17 = .ok (.isub, 1) := by decide +kernel
theorem dX9_row_18 : decode cX9_row 18 = .ok (.invokestatic 68, 3) := by decide +kernel
theorem dX9_row_21 : decode cX9_row 21 = .ok (.ifCond .ne 5, 3) := by decide +kernel
theorem dX9_row_24 : decode cX9_row 24 = .ok (.iconst (-1), 1) := by decide +kernel
theorem dX9_row_25 : decode cX9_row 25 = .ok (.ireturn, 1) := by decide +kernel
theorem dX9_row_26 : decode cX9_row 26 = .ok (.sipush 200, 3) := by decide +kernel
theorem dX9_row_29 : decode cX9_row 29 = .ok (.iload_n 1, 1) := by decide +kernel
theorem dX9_row_30 : decode cX9_row 30 = .ok (.imul, 1) := by decide +kernel
theorem dX9_row_31 : decode cX9_row 31 = .ok (.iload_n 2, 1) := by decide +kernel
theorem dX9_row_32 : decode cX9_row 32 = .ok (.iadd, 1) := by decide +kernel
theorem dX9_row_33 : decode cX9_row 33 = .ok (.istore 4, 2) := by decide +kernel
theorem dX9_row_35 : decode cX9_row 35 = .ok (.iload_n 3, 1) := by decide +kernel
theorem dX9_row_36 : decode cX9_row 36 = .ok (.tableswitch 63 0 3 #[32, 40, 48, 56], 32) := by decide +kernel
theorem dX9_row_68 : decode cX9_row 68 = .ok (.aload_n 0, 1) := by decide +kernel
theorem dX9_row_69 : decode cX9_row 69 = .ok (.getfield 40, 3) := by decide +kernel
theorem dX9_row_72 : decode cX9_row 72 = .ok (.iload 4, 2) := by decide +kernel
theorem dX9_row_74 : decode cX9_row 74 = .ok (.iaload, 1) := by decide +kernel
theorem dX9_row_75 : decode cX9_row 75 = .ok (.ireturn, 1) := by decide +kernel
theorem dX9_row_76 : decode cX9_row 76 = .ok (.aload_n 0, 1) := by decide +kernel
theorem dX9_row_77 : decode cX9_row 77 = .ok (.getfield 43, 3) := by decide +kernel
theorem dX9_row_80 : decode cX9_row 80 = .ok (.iload 4, 2) := by decide +kernel
theorem dX9_row_82 : decode cX9_row 82 = .ok (.iaload, 1) := by decide +kernel
theorem dX9_row_83 : decode cX9_row 83 = .ok (.ireturn, 1) := by decide +kernel
theorem dX9_row_84 : decode cX9_row 84 = .ok (.aload_n 0, 1) := by decide +kernel
theorem dX9_row_85 : decode cX9_row 85 = .ok (.getfield 46, 3) := by decide +kernel
theorem dX9_row_88 : decode cX9_row 88 = .ok (.iload 4, 2) := by decide +kernel
theorem dX9_row_90 : decode cX9_row 90 = .ok (.iaload, 1) := by decide +kernel
theorem dX9_row_91 : decode cX9_row 91 = .ok (.ireturn, 1) := by decide +kernel
theorem dX9_row_92 : decode cX9_row 92 = .ok (.aload_n 0, 1) := by decide +kernel
theorem dX9_row_93 : decode cX9_row 93 = .ok (.iload_n 1, 1) := by decide +kernel
theorem dX9_row_94 : decode cX9_row 94 = .ok (.iload_n 2, 1) := by decide +kernel
theorem dX9_row_95 : decode cX9_row 95 = .ok (.invokevirtual 130, 3) := by decide +kernel
theorem dX9_row_98 : decode cX9_row 98 = .ok (.ireturn, 1) := by decide +kernel
theorem dX9_row_99 : decode cX9_row 99 = .ok (.iconst (-1), 1) := by decide +kernel
theorem dX9_row_100 : decode cX9_row 100 = .ok (.ireturn, 1) := by decide +kernel
theorem dX9_run_0 : decode cX9_run 0 = .ok (.iconst 0, 1) := by decide +kernel
theorem dX9_run_1 : decode cX9_run 1 = .ok (.istore_n 1, 1) := by decide +kernel
theorem dX9_run_2 : decode cX9_run 2 = .ok (.iconst 0, 1) := by decide +kernel
theorem dX9_run_3 : decode cX9_run 3 = .ok (.istore_n 2, 1) := by decide +kernel
theorem dX9_run_4 : decode cX9_run 4 = .ok (.iload_n 2, 1) := by decide +kernel
theorem dX9_run_5 : decode cX9_run 5 = .ok (.aload_n 0, 1) := by decide +kernel
theorem dX9_run_6 : decode cX9_run 6 = .ok (.getfield 83, 3) := by decide +kernel
theorem dX9_run_9 : decode cX9_run 9 = .ok (.if_icmp .ge 65, 3) := by decide +kernel
theorem dX9_run_12 : decode cX9_run 12 = .ok (.aload_n 0, 1) := by decide +kernel
theorem dX9_run_13 : decode cX9_run 13 = .ok (.getfield 52, 3) := by decide +kernel
theorem dX9_run_16 : decode cX9_run 16 = .ok (.iload_n 2, 1) := by decide +kernel
theorem dX9_run_17 : decode cX9_run 17 = .ok (.baload, 1) := by decide +kernel
theorem dX9_run_18 : decode cX9_run 18 = .ok (.ifCond .ne 6, 3) := by decide +kernel
theorem dX9_run_21 : decode cX9_run 21 = .ok (.goto 47, 3) := by decide +kernel
theorem dX9_run_24 : decode cX9_run 24 = .ok (.aload_n 0, 1) := by decide +kernel
theorem dX9_run_25 : decode cX9_run 25 = .ok (.getfield 52, 3) := by decide +kernel
theorem dX9_run_28 : decode cX9_run 28 = .ok (.iload_n 2, 1) := by decide +kernel
theorem dX9_run_29 : decode cX9_run 29 = .ok (.iconst 0, 1) := by decide +kernel
theorem dX9_run_30 : decode cX9_run 30 = .ok (.bastore, 1) := by decide +kernel
theorem dX9_run_31 : decode cX9_run 31 = .ok (.aload_n 0, 1) := by decide +kernel
theorem dX9_run_32 : decode cX9_run 32 = .ok (.getfield 56, 3) := by decide +kernel
theorem dX9_run_35 : decode cX9_run 35 = .ok (.iload_n 2, 1) := by decide +kernel
theorem dX9_run_36 : decode cX9_run 36 = .ok (.aload_n 0, 1) := by decide +kernel
theorem dX9_run_37 : decode cX9_run 37 = .ok (.iload_n 2, 1) := by decide +kernel
theorem dX9_run_38 : decode cX9_run 38 = .ok (.invokevirtual 124, 3) := by decide +kernel
theorem dX9_run_41 : decode cX9_run 41 = .ok (.iconst (-1), 1) := by decide +kernel
theorem dX9_run_42 : decode cX9_run 42 = .ok (.if_icmp .eq 7, 3) := by decide +kernel
theorem dX9_run_45 : decode cX9_run 45 = .ok (.iconst 1, 1) := by decide +kernel
theorem dX9_run_46 : decode cX9_run 46 = .ok (.goto 4, 3) := by decide +kernel
theorem dX9_run_49 : decode cX9_run 49 = .ok (.iconst 0, 1) := by decide +kernel
theorem dX9_run_50 : decode cX9_run 50 = .ok (.bastore, 1) := by decide +kernel
theorem dX9_run_51 : decode cX9_run 51 = .ok (.iload_n 1, 1) := by decide +kernel
theorem dX9_run_52 : decode cX9_run 52 = .ok (.aload_n 0, 1) := by decide +kernel
theorem dX9_run_53 : decode cX9_run 53 = .ok (.getfield 56, 3) := by decide +kernel
theorem dX9_run_56 : decode cX9_run 56 = .ok (.iload_n 2, 1) := by decide +kernel
theorem dX9_run_57 : decode cX9_run 57 = .ok (.baload, 1) := by decide +kernel
theorem dX9_run_58 : decode cX9_run 58 = .ok (.ifCond .eq 7, 3) := by decide +kernel
theorem dX9_run_61 : decode cX9_run 61 = .ok (.iconst 1, 1) := by decide +kernel
theorem dX9_run_62 : decode cX9_run 62 = .ok (.goto 4, 3) := by decide +kernel
theorem dX9_run_65 : decode cX9_run 65 = .ok (.iconst 0, 1) := by decide +kernel
theorem dX9_run_66 : decode cX9_run 66 = .ok (.iadd, 1) := by decide +kernel
theorem dX9_run_67 : decode cX9_run 67 = .ok (.istore_n 1, 1) := by decide +kernel
theorem dX9_run_68 : decode cX9_run 68 = .ok (.iinc 2 1, 3) := by decide +kernel
theorem dX9_run_71 : decode cX9_run 71 = .ok (.goto (-67), 3) := by decide +kernel
theorem dX9_run_74 : decode cX9_run 74 = .ok (.iload_n 1, 1) := by decide +kernel
theorem dX9_run_75 : decode cX9_run 75 = .ok (.ireturn, 1) := by decide +kernel
theorem dX9_reached_0 : decode cX9_reached 0 = .ok (.aload_n 0, 1) := by decide +kernel
theorem dX9_reached_1 : decode cX9_reached 1 = .ok (.invokevirtual 103, 3) := by decide +kernel
theorem dX9_reached_4 : decode cX9_reached 4 = .ok (.iconst 0, 1) := by decide +kernel
theorem dX9_reached_5 : decode cX9_reached 5 = .ok (.istore_n 1, 1) := by decide +kernel
theorem dX9_reached_6 : decode cX9_reached 6 = .ok (.iconst 0, 1) := by decide +kernel
theorem dX9_reached_7 : decode cX9_reached 7 = .ok (.istore_n 2, 1) := by decide +kernel
theorem dX9_reached_8 : decode cX9_reached 8 = .ok (.iload_n 2, 1) := by decide +kernel
theorem dX9_reached_9 : decode cX9_reached 9 = .ok (.aload_n 0, 1) := by decide +kernel
theorem dX9_reached_10 : decode cX9_reached 10 = .ok (.getfield 96, 3) := by decide +kernel
theorem dX9_reached_13 : decode cX9_reached 13 = .ok (.if_icmp .ge 43, 3) := by decide +kernel
theorem dX9_reached_16 : decode cX9_reached 16 = .ok (.aload_n 0, 1) := by decide +kernel
theorem dX9_reached_17 : decode cX9_reached 17 = .ok (.aload_n 0, 1) := by decide +kernel
theorem dX9_reached_18 : decode cX9_reached 18 = .ok (.getfield 22, 3) := by decide +kernel
theorem dX9_reached_21 : decode cX9_reached 21 = .ok (.iload_n 2, 1) := by decide +kernel
theorem dX9_reached_22 : decode cX9_reached 22 = .ok (.iaload, 1) := by decide +kernel
theorem dX9_reached_23 : decode cX9_reached 23 = .ok (.aload_n 0, 1) := by decide +kernel
theorem dX9_reached_24 : decode cX9_reached 24 = .ok (.getfield 25, 3) := by decide +kernel
theorem dX9_reached_27 : decode cX9_reached 27 = .ok (.iload_n 2, 1) := by decide +kernel
theorem dX9_reached_28 : decode cX9_reached 28 = .ok (.iaload, 1) := by decide +kernel
theorem dX9_reached_29 : decode cX9_reached 29 = .ok (.invokevirtual 99, 3) := by decide +kernel
theorem dX9_reached_32 : decode cX9_reached 32 = .ok (.pop, 1) := by decide +kernel
theorem dX9_reached_33 : decode cX9_reached 33 = .ok (.aload_n 0, 1) := by decide +kernel
theorem dX9_reached_34 : decode cX9_reached 34 = .ok (.getfield 90, 3) := by decide +kernel
theorem dX9_reached_37 : decode cX9_reached 37 = .ok (.iconst (-1), 1) := by decide +kernel
theorem dX9_reached_38 : decode cX9_reached 38 = .ok (.if_icmp .eq 12, 3) := by decide +kernel
theorem dX9_reached_41 : decode cX9_reached 41 = .ok (.iload_n 1, 1) := by decide +kernel
theorem dX9_reached_42 : decode cX9_reached 42 = .ok (.iconst 1, 1) := by decide +kernel
theorem dX9_reached_43 : decode cX9_reached 43 = .ok (.aload_n 0, 1) := by decide +kernel
theorem dX9_reached_44 : decode cX9_reached 44 = .ok (.getfield 90, 3) := by decide +kernel
theorem dX9_reached_47 : decode cX9_reached 47 = .ok (.ishl, 1) := by decide +kernel
theorem dX9_reached_48 : decode cX9_reached 48 = .ok (.ior, 1) := by decide +kernel
theorem dX9_reached_49 : decode cX9_reached 49 = .ok (.istore_n 1, 1) := by decide +kernel
theorem dX9_reached_50 : decode cX9_reached 50 = .ok (.iinc 2 1, 3) := by decide +kernel
theorem dX9_reached_53 : decode cX9_reached 53 = .ok (.goto (-45), 3) := by decide +kernel
theorem dX9_reached_56 : decode cX9_reached 56 = .ok (.iload_n 1, 1) := by decide +kernel
theorem dX9_reached_57 : decode cX9_reached 57 = .ok (.ireturn, 1) := by decide +kernel
theorem dX9_never_0 : decode cX9_never 0 = .ok (.iconst 0, 1) := by decide +kernel
theorem dX9_never_1 : decode cX9_never 1 = .ok (.istore_n 1, 1) := by decide +kernel
theorem dX9_never_2 : decode cX9_never 2 = .ok (.iconst 0, 1) := by decide +kernel
theorem dX9_never_3 : decode cX9_never 3 = .ok (.istore_n 2, 1) := by decide +kernel
theorem dX9_never_4 : decode cX9_never 4 = .ok (.iload_n 2, 1) := by decide +kernel
theorem dX9_never_5 : decode cX9_never 5 = .ok (.bipush 24, 2) := by decide +kernel
theorem dX9_never_7 : decode cX9_never 7 = .ok (.if_icmp .ge 27, 3) := by decide +kernel
theorem dX9_never_10 : decode cX9_never 10 = .ok (.iload_n 1, 1) := by decide +kernel
theorem dX9_never_11 : decode cX9_never 11 = .ok (.aload_n 0, 1) := by decide +kernel
theorem dX9_never_12 : decode cX9_never 12 = .ok (.iload_n 2, 1) := by decide +kernel
theorem dX9_never_13 : decode cX9_never 13 = .ok (.invokevirtual 87, 3) := by decide +kernel
theorem dX9_never_16 : decode cX9_never 16 = .ok (.ifCond .eq 9, 3) := by decide +kernel
theorem dX9_never_19 : decode cX9_never 19 = .ok (.iconst 1, 1) := by decide +kernel
theorem dX9_never_20 : decode cX9_never 20 = .ok (.iload_n 2, 1) := by decide +kernel
theorem dX9_never_21 : decode cX9_never 21 = .ok (.ishl, 1) := by decide +kernel
theorem dX9_never_22 : decode cX9_never 22 = .ok (.goto 4, 3) := by decide +kernel
theorem dX9_never_25 : decode cX9_never 25 = .ok (.iconst 0, 1) := by decide +kernel
theorem dX9_never_26 : decode cX9_never 26 = .ok (.ior, 1) := by decide +kernel
theorem dX9_never_27 : decode cX9_never 27 = .ok (.istore_n 1, 1) := by decide +kernel
theorem dX9_never_28 : decode cX9_never 28 = .ok (.iinc 2 1, 3) := by decide +kernel
theorem dX9_never_31 : decode cX9_never 31 = .ok (.goto (-27), 3) := by decide +kernel
theorem dX9_never_34 : decode cX9_never 34 = .ok (.iload_n 1, 1) := by decide +kernel
theorem dX9_never_35 : decode cX9_never 35 = .ok (.aload_n 0, 1) := by decide +kernel
theorem dX9_never_36 : decode cX9_never 36 = .ok (.invokevirtual 133, 3) := by decide +kernel
theorem dX9_never_39 : decode cX9_never 39 = .ok (.iconst (-1), 1) := by decide +kernel
theorem dX9_never_40 : decode cX9_never 40 = .ok (.ixor, 1) := by decide +kernel
theorem dX9_never_41 : decode cX9_never 41 = .ok (.iand, 1) := by decide +kernel
theorem dX9_never_42 : decode cX9_never 42 = .ok (.ireturn, 1) := by decide +kernel
theorem dX9_bits_0 : decode cX9_bits 0 = .ok (.iconst 0, 1) := by decide +kernel
theorem dX9_bits_1 : decode cX9_bits 1 = .ok (.istore_n 1, 1) := by decide +kernel
theorem dX9_bits_2 : decode cX9_bits 2 = .ok (.iconst 0, 1) := by decide +kernel
theorem dX9_bits_3 : decode cX9_bits 3 = .ok (.istore_n 2, 1) := by decide +kernel
theorem dX9_bits_4 : decode cX9_bits 4 = .ok (.iload_n 2, 1) := by decide +kernel
theorem dX9_bits_5 : decode cX9_bits 5 = .ok (.bipush 12, 2) := by decide +kernel
theorem dX9_bits_7 : decode cX9_bits 7 = .ok (.if_icmp .ge 17, 3) := by decide +kernel
theorem dX9_bits_10 : decode cX9_bits 10 = .ok (.iload_n 1, 1) := by decide +kernel
theorem dX9_bits_11 : decode cX9_bits 11 = .ok (.iload_n 0, 1) := by decide +kernel
theorem dX9_bits_12 : decode cX9_bits 12 = .ok (.iload_n 2, 1) := by decide +kernel
theorem dX9_bits_13 : decode cX9_bits 13 = .ok (.ishr, 1) := by decide +kernel
theorem dX9_bits_14 : decode cX9_bits 14 = .ok (.iconst 1, 1) := by decide +kernel
theorem dX9_bits_15 : decode cX9_bits 15 = .ok (.iand, 1) := by decide +kernel
theorem dX9_bits_16 : decode cX9_bits 16 = .ok (.iadd, 1) := by decide +kernel
theorem dX9_bits_17 : decode cX9_bits 17 = .ok (.istore_n 1, 1) := by decide +kernel
theorem dX9_bits_18 : decode cX9_bits 18 = .ok (.iinc 2 1, 3) := by decide +kernel
theorem dX9_bits_21 : decode cX9_bits 21 = .ok (.goto (-17), 3) := by decide +kernel
theorem dX9_bits_24 : decode cX9_bits 24 = .ok (.iload_n 1, 1) := by decide +kernel
theorem dX9_bits_25 : decode cX9_bits 25 = .ok (.ireturn, 1) := by decide +kernel
theorem dX9_chosen_0 : decode cX9_chosen 0 = .ok (.iconst 0, 1) := by decide +kernel
theorem dX9_chosen_1 : decode cX9_chosen 1 = .ok (.istore_n 1, 1) := by decide +kernel
theorem dX9_chosen_2 : decode cX9_chosen 2 = .ok (.iconst 0, 1) := by decide +kernel
theorem dX9_chosen_3 : decode cX9_chosen 3 = .ok (.istore_n 2, 1) := by decide +kernel
theorem dX9_chosen_4 : decode cX9_chosen 4 = .ok (.iload_n 2, 1) := by decide +kernel
theorem dX9_chosen_5 : decode cX9_chosen 5 = .ok (.aload_n 0, 1) := by decide +kernel
theorem dX9_chosen_6 : decode cX9_chosen 6 = .ok (.getfield 83, 3) := by decide +kernel
theorem dX9_chosen_9 : decode cX9_chosen 9 = .ok (.if_icmp .ge 29, 3) := by decide +kernel
theorem dX9_chosen_12 : decode cX9_chosen 12 = .ok (.aload_n 0, 1) := by decide +kernel
theorem dX9_chosen_13 : decode cX9_chosen 13 = .ok (.getfield 65, 3) := by decide +kernel
theorem dX9_chosen_16 : decode cX9_chosen 16 = .ok (.iload_n 2, 1) := by decide +kernel
theorem dX9_chosen_17 : decode cX9_chosen 17 = .ok (.aload_n 0, 1) := by decide +kernel
theorem dX9_chosen_18 : decode cX9_chosen 18 = .ok (.iload_n 2, 1) := by decide +kernel
theorem dX9_chosen_19 : decode cX9_chosen 19 = .ok (.invokevirtual 127, 3) := by decide +kernel
theorem dX9_chosen_22 : decode cX9_chosen 22 = .ok (.iastore, 1) := by decide +kernel
theorem dX9_chosen_23 : decode cX9_chosen 23 = .ok (.iload_n 1, 1) := by decide +kernel
theorem dX9_chosen_24 : decode cX9_chosen 24 = .ok (.aload_n 0, 1) := by decide +kernel
theorem dX9_chosen_25 : decode cX9_chosen 25 = .ok (.getfield 65, 3) := by decide +kernel
theorem dX9_chosen_28 : decode cX9_chosen 28 = .ok (.iload_n 2, 1) := by decide +kernel
theorem dX9_chosen_29 : decode cX9_chosen 29 = .ok (.iaload, 1) := by decide +kernel
theorem dX9_chosen_30 : decode cX9_chosen 30 = .ok (.ior, 1) := by decide +kernel
theorem dX9_chosen_31 : decode cX9_chosen 31 = .ok (.istore_n 1, 1) := by decide +kernel
theorem dX9_chosen_32 : decode cX9_chosen 32 = .ok (.iinc 2 1, 3) := by decide +kernel
theorem dX9_chosen_35 : decode cX9_chosen 35 = .ok (.goto (-31), 3) := by decide +kernel
theorem dX9_chosen_38 : decode cX9_chosen 38 = .ok (.iconst 1, 1) := by decide +kernel
theorem dX9_chosen_39 : decode cX9_chosen 39 = .ok (.aload_n 0, 1) := by decide +kernel
theorem dX9_chosen_40 : decode cX9_chosen 40 = .ok (.getfield 83, 3) := by decide +kernel
theorem dX9_chosen_43 : decode cX9_chosen 43 = .ok (.ishl, 1) := by decide +kernel
theorem dX9_chosen_44 : decode cX9_chosen 44 = .ok (.iconst 1, 1) := by decide +kernel
theorem dX9_chosen_45 : decode cX9_chosen 45 = .ok (.isub, 1) := by decide +kernel
theorem dX9_chosen_46 : decode cX9_chosen 46 = .ok (.istore_n 2, 1) := by decide +kernel
theorem dX9_chosen_47 : decode cX9_chosen 47 = .ok (.iconst 1, 1) := by decide +kernel
theorem dX9_chosen_48 : decode cX9_chosen 48 = .ok (.aload_n 0, 1) := by decide +kernel
theorem dX9_chosen_49 : decode cX9_chosen 49 = .ok (.getfield 83, 3) := by decide +kernel
theorem dX9_chosen_52 : decode cX9_chosen 52 = .ok (.ishl, 1) := by decide +kernel
theorem dX9_chosen_53 : decode cX9_chosen 53 = .ok (.iconst 1, 1) := by decide +kernel
theorem dX9_chosen_54 : decode cX9_chosen 54 = .ok (.isub, 1) := by decide +kernel
theorem dX9_chosen_55 : decode cX9_chosen 55 = .ok (.istore_n 3, 1) := by decide +kernel
theorem dX9_chosen_56 : decode cX9_chosen 56 = .ok (.iload_n 3, 1) := by decide +kernel
theorem dX9_chosen_57 : decode cX9_chosen 57 = .ok (.ifCond .lt 75, 3) := by decide +kernel
theorem dX9_chosen_60 : decode cX9_chosen 60 = .ok (.iconst 0, 1) := by decide +kernel
theorem dX9_chosen_61 : decode cX9_chosen 61 = .ok (.istore 4, 2) := by decide +kernel
theorem dX9_chosen_63 : decode cX9_chosen 63 = .ok (.iconst 0, 1) := by decide +kernel
theorem dX9_chosen_64 : decode cX9_chosen 64 = .ok (.istore 5, 2) := by decide +kernel
theorem dX9_chosen_66 : decode cX9_chosen 66 = .ok (.iload 5, 2) := by decide +kernel
theorem dX9_chosen_68 : decode cX9_chosen 68 = .ok (.aload_n 0, 1) := by decide +kernel
theorem dX9_chosen_69 : decode cX9_chosen 69 = .ok (.getfield 83, 3) := by decide +kernel
theorem dX9_chosen_72 : decode cX9_chosen 72 = .ok (.if_icmp .ge 35, 3) := by decide +kernel
theorem dX9_chosen_75 : decode cX9_chosen 75 = .ok (.iload 4, 2) := by decide +kernel
theorem dX9_chosen_77 : decode cX9_chosen 77 = .ok (.iload_n 3, 1) := by decide +kernel
theorem dX9_chosen_78 : decode cX9_chosen 78 = .ok (.iload 5, 2) := by decide +kernel
theorem dX9_chosen_80 : decode cX9_chosen 80 = .ok (.ishr, 1) := by decide +kernel
theorem dX9_chosen_81 : decode cX9_chosen 81 = .ok (.iconst 1, 1) := by decide +kernel
theorem dX9_chosen_82 : decode cX9_chosen 82 = .ok (.iand, 1) := by decide +kernel
theorem dX9_chosen_83 : decode cX9_chosen 83 = .ok (.iconst 1, 1) := by decide +kernel
theorem dX9_chosen_84 : decode cX9_chosen 84 = .ok (.if_icmp .ne 13, 3) := by decide +kernel
theorem dX9_chosen_87 : decode cX9_chosen 87 = .ok (.aload_n 0, 1) := by decide +kernel
theorem dX9_chosen_88 : decode cX9_chosen 88 = .ok (.getfield 65, 3) := by decide +kernel
theorem dX9_chosen_91 : decode cX9_chosen 91 = .ok (.iload 5, 2) := by decide +kernel
theorem dX9_chosen_93 : decode cX9_chosen 93 = .ok (.iaload, 1) := by decide +kernel
theorem dX9_chosen_94 : decode cX9_chosen 94 = .ok (.goto 4, 3) := by decide +kernel
theorem dX9_chosen_97 : decode cX9_chosen 97 = .ok (.iconst 0, 1) := by decide +kernel
theorem dX9_chosen_98 : decode cX9_chosen 98 = .ok (.ior, 1) := by decide +kernel
theorem dX9_chosen_99 : decode cX9_chosen 99 = .ok (.istore 4, 2) := by decide +kernel
theorem dX9_chosen_101 : decode cX9_chosen 101 = .ok (.iinc 5 1, 3) := by decide +kernel
theorem dX9_chosen_104 : decode cX9_chosen 104 = .ok (.goto (-38), 3) := by decide +kernel
theorem dX9_chosen_107 : decode cX9_chosen 107 = .ok (.iload 4, 2) := by decide +kernel
theorem dX9_chosen_109 : decode cX9_chosen 109 = .ok (.iload_n 1, 1) := by decide +kernel
theorem dX9_chosen_110 : decode cX9_chosen 110 = .ok (.if_icmp .ne 16, 3) := by decide +kernel
theorem dX9_chosen_113 : decode cX9_chosen 113 = .ok (.iload_n 3, 1) := by decide +kernel
theorem dX9_chosen_114 : decode cX9_chosen 114 = .ok (.invokestatic 137, 3) := by decide +kernel
theorem dX9_chosen_117 : decode cX9_chosen 117 = .ok (.iload_n 2, 1) := by decide +kernel
theorem dX9_chosen_118 : decode cX9_chosen 118 = .ok (.invokestatic 137, 3) := by decide +kernel
theorem dX9_chosen_121 : decode cX9_chosen 121 = .ok (.if_icmp .gt 5, 3) := by decide +kernel
theorem dX9_chosen_124 : decode cX9_chosen 124 = .ok (.iload_n 3, 1) := by decide +kernel
theorem dX9_chosen_125 : decode cX9_chosen 125 = .ok (.istore_n 2, 1) := by decide +kernel
theorem dX9_chosen_126 : decode cX9_chosen 126 = .ok (.iinc 3 (-1), 3) := by decide +kernel
theorem dX9_chosen_129 : decode cX9_chosen 129 = .ok (.goto (-73), 3) := by decide +kernel
theorem dX9_chosen_132 : decode cX9_chosen 132 = .ok (.iload_n 2, 1) := by decide +kernel
theorem dX9_chosen_133 : decode cX9_chosen 133 = .ok (.ireturn, 1) := by decide +kernel
theorem dX9_fewest_0 : decode cX9_fewest 0 = .ok (.aload_n 0, 1) := by decide +kernel
theorem dX9_fewest_1 : decode cX9_fewest 1 = .ok (.invokevirtual 140, 3) := by decide +kernel
theorem dX9_fewest_4 : decode cX9_fewest 4 = .ok (.invokestatic 137, 3) := by decide +kernel
theorem dX9_fewest_7 : decode cX9_fewest 7 = .ok (.ireturn, 1) := by decide +kernel
theorem dX9_register_0 : decode cX9_register 0 = .ok (.iload_n 1, 1) := by decide +kernel
theorem dX9_register_1 : decode cX9_register 1 = .ok (.iconst 0, 1) := by decide +kernel
theorem dX9_register_2 : decode cX9_register 2 = .ok (.iconst 3, 1) := by decide +kernel
theorem dX9_register_3 : decode cX9_register 3 = .ok (.invokestatic 68, 3) := by decide +kernel
theorem dX9_register_6 : decode cX9_register 6 = .ok (.ifCond .eq 12, 3) := by decide +kernel
theorem dX9_register_9 : decode cX9_register 9 = .ok (.aload_n 0, 1) := by decide +kernel
theorem dX9_register_10 : decode cX9_register 10 = .ok (.getfield 34, 3) := by decide +kernel
theorem dX9_register_13 : decode cX9_register 13 = .ok (.iload_n 1, 1) := by decide +kernel
theorem dX9_register_14 : decode cX9_register 14 = .ok (.iaload, 1) := by decide +kernel
theorem dX9_register_15 : decode cX9_register 15 = .ok (.goto 4, 3) := by decide +kernel
theorem dX9_register_18 : decode cX9_register 18 = .ok (.iconst (-1), 1) := by decide +kernel
theorem dX9_register_19 : decode cX9_register 19 = .ok (.ireturn, 1) := by decide +kernel
theorem dX9_count_0 : decode cX9_count 0 = .ok (.iconst 0, 1) := by decide +kernel
theorem dX9_count_1 : decode cX9_count 1 = .ok (.istore_n 2, 1) := by decide +kernel
theorem dX9_count_2 : decode cX9_count 2 = .ok (.iload_n 1, 1) := by decide +kernel
theorem dX9_count_3 : decode cX9_count 3 = .ok (.tableswitch 197 0 5 #[37, 42, 47, 72, 107, 142], 37) := by decide +kernel
theorem dX9_count_40 : decode cX9_count 40 = .ok (.aload_n 0, 1) := by decide +kernel
theorem dX9_count_41 : decode cX9_count 41 = .ok (.getfield 96, 3) := by decide +kernel
theorem dX9_count_44 : decode cX9_count 44 = .ok (.ireturn, 1) := by decide +kernel
theorem dX9_count_45 : decode cX9_count 45 = .ok (.aload_n 0, 1) := by decide +kernel
theorem dX9_count_46 : decode cX9_count 46 = .ok (.getfield 83, 3) := by decide +kernel
theorem dX9_count_49 : decode cX9_count 49 = .ok (.ireturn, 1) := by decide +kernel
theorem dX9_count_50 : decode cX9_count 50 = .ok (.iconst 0, 1) := by decide +kernel
theorem dX9_count_51 : decode cX9_count 51 = .ok (.istore_n 3, 1) := by decide +kernel
theorem dX9_count_52 : decode cX9_count 52 = .ok (.iload_n 3, 1) := by decide +kernel
theorem dX9_count_53 : decode cX9_count 53 = .ok (.bipush 6, 2) := by decide +kernel
theorem dX9_count_55 : decode cX9_count 55 = .ok (.if_icmp .ge 18, 3) := by decide +kernel
theorem dX9_count_58 : decode cX9_count 58 = .ok (.iload_n 2, 1) := by decide +kernel
theorem dX9_count_59 : decode cX9_count 59 = .ok (.aload_n 0, 1) := by decide +kernel
theorem dX9_count_60 : decode cX9_count 60 = .ok (.getfield 9, 3) := by decide +kernel
theorem dX9_count_63 : decode cX9_count 63 = .ok (.iload_n 3, 1) := by decide +kernel
theorem dX9_count_64 : decode cX9_count 64 = .ok (.iaload, 1) := by decide +kernel
theorem dX9_count_65 : decode cX9_count 65 = .ok (.iadd, 1) := by decide +kernel
theorem dX9_count_66 : decode cX9_count 66 = .ok (.istore_n 2, 1) := by decide +kernel
theorem dX9_count_67 : decode cX9_count 67 = .ok (.iinc 3 1, 3) := by decide +kernel
theorem dX9_count_70 : decode cX9_count 70 = .ok (.goto (-18), 3) := by decide +kernel
theorem dX9_count_73 : decode cX9_count 73 = .ok (.iload_n 2, 1) := by decide +kernel
theorem dX9_count_74 : decode cX9_count 74 = .ok (.ireturn, 1) := by decide +kernel
theorem dX9_count_75 : decode cX9_count 75 = .ok (.iconst 0, 1) := by decide +kernel
theorem dX9_count_76 : decode cX9_count 76 = .ok (.istore_n 3, 1) := by decide +kernel
theorem dX9_count_77 : decode cX9_count 77 = .ok (.iload_n 3, 1) := by decide +kernel
theorem dX9_count_78 : decode cX9_count 78 = .ok (.aload_n 0, 1) := by decide +kernel
theorem dX9_count_79 : decode cX9_count 79 = .ok (.getfield 83, 3) := by decide +kernel
theorem dX9_count_82 : decode cX9_count 82 = .ok (.if_icmp .ge 26, 3) := by decide +kernel
theorem dX9_count_85 : decode cX9_count 85 = .ok (.iload_n 2, 1) := by decide +kernel
theorem dX9_count_86 : decode cX9_count 86 = .ok (.aload_n 0, 1) := by decide +kernel
theorem dX9_count_87 : decode cX9_count 87 = .ok (.getfield 52, 3) := by decide +kernel
theorem dX9_count_90 : decode cX9_count 90 = .ok (.iload_n 3, 1) := by decide +kernel
theorem dX9_count_91 : decode cX9_count 91 = .ok (.baload, 1) := by decide +kernel
theorem dX9_count_92 : decode cX9_count 92 = .ok (.ifCond .eq 7, 3) := by decide +kernel
theorem dX9_count_95 : decode cX9_count 95 = .ok (.iconst 1, 1) := by decide +kernel
theorem dX9_count_96 : decode cX9_count 96 = .ok (.goto 4, 3) := by decide +kernel
theorem dX9_count_99 : decode cX9_count 99 = .ok (.iconst 0, 1) := by decide +kernel
theorem dX9_count_100 : decode cX9_count 100 = .ok (.iadd, 1) := by decide +kernel
theorem dX9_count_101 : decode cX9_count 101 = .ok (.istore_n 2, 1) := by decide +kernel
theorem dX9_count_102 : decode cX9_count 102 = .ok (.iinc 3 1, 3) := by decide +kernel
theorem dX9_count_105 : decode cX9_count 105 = .ok (.goto (-28), 3) := by decide +kernel
theorem dX9_count_108 : decode cX9_count 108 = .ok (.iload_n 2, 1) := by decide +kernel
theorem dX9_count_109 : decode cX9_count 109 = .ok (.ireturn, 1) := by decide +kernel
theorem dX9_count_110 : decode cX9_count 110 = .ok (.iconst 0, 1) := by decide +kernel
theorem dX9_count_111 : decode cX9_count 111 = .ok (.istore_n 3, 1) := by decide +kernel
theorem dX9_count_112 : decode cX9_count 112 = .ok (.iload_n 3, 1) := by decide +kernel
theorem dX9_count_113 : decode cX9_count 113 = .ok (.aload_n 0, 1) := by decide +kernel
theorem dX9_count_114 : decode cX9_count 114 = .ok (.getfield 83, 3) := by decide +kernel
theorem dX9_count_117 : decode cX9_count 117 = .ok (.if_icmp .ge 26, 3) := by decide +kernel
theorem dX9_count_120 : decode cX9_count 120 = .ok (.iload_n 2, 1) := by decide +kernel
theorem dX9_count_121 : decode cX9_count 121 = .ok (.aload_n 0, 1) := by decide +kernel
theorem dX9_count_122 : decode cX9_count 122 = .ok (.getfield 56, 3) := by decide +kernel
theorem dX9_count_125 : decode cX9_count 125 = .ok (.iload_n 3, 1) := by decide +kernel
theorem dX9_count_126 : decode cX9_count 126 = .ok (.baload, 1) := by decide +kernel
theorem dX9_count_127 : decode cX9_count 127 = .ok (.ifCond .eq 7, 3) := by decide +kernel
theorem dX9_count_130 : decode cX9_count 130 = .ok (.iconst 1, 1) := by decide +kernel
theorem dX9_count_131 : decode cX9_count 131 = .ok (.goto 4, 3) := by decide +kernel
theorem dX9_count_134 : decode cX9_count 134 = .ok (.iconst 0, 1) := by decide +kernel
theorem dX9_count_135 : decode cX9_count 135 = .ok (.iadd, 1) := by decide +kernel
theorem dX9_count_136 : decode cX9_count 136 = .ok (.istore_n 2, 1) := by decide +kernel
theorem dX9_count_137 : decode cX9_count 137 = .ok (.iinc 3 1, 3) := by decide +kernel
theorem dX9_count_140 : decode cX9_count 140 = .ok (.goto (-28), 3) := by decide +kernel
theorem dX9_count_143 : decode cX9_count 143 = .ok (.iload_n 2, 1) := by decide +kernel
theorem dX9_count_144 : decode cX9_count 144 = .ok (.ireturn, 1) := by decide +kernel
theorem dX9_count_145 : decode cX9_count 145 = .ok (.aload_n 0, 1) := by decide +kernel
theorem dX9_count_146 : decode cX9_count 146 = .ok (.invokevirtual 103, 3) := by decide +kernel
theorem dX9_count_149 : decode cX9_count 149 = .ok (.iconst 0, 1) := by decide +kernel
theorem dX9_count_150 : decode cX9_count 150 = .ok (.istore_n 3, 1) := by decide +kernel
theorem dX9_count_151 : decode cX9_count 151 = .ok (.iload_n 3, 1) := by decide +kernel
theorem dX9_count_152 : decode cX9_count 152 = .ok (.aload_n 0, 1) := by decide +kernel
theorem dX9_count_153 : decode cX9_count 153 = .ok (.getfield 96, 3) := by decide +kernel
theorem dX9_count_156 : decode cX9_count 156 = .ok (.if_icmp .ge 42, 3) := by decide +kernel
theorem dX9_count_159 : decode cX9_count 159 = .ok (.iload_n 2, 1) := by decide +kernel
theorem dX9_count_160 : decode cX9_count 160 = .ok (.aload_n 0, 1) := by decide +kernel
theorem dX9_count_161 : decode cX9_count 161 = .ok (.aload_n 0, 1) := by decide +kernel
theorem dX9_count_162 : decode cX9_count 162 = .ok (.getfield 22, 3) := by decide +kernel
theorem dX9_count_165 : decode cX9_count 165 = .ok (.iload_n 3, 1) := by decide +kernel
theorem dX9_count_166 : decode cX9_count 166 = .ok (.iaload, 1) := by decide +kernel
theorem dX9_count_167 : decode cX9_count 167 = .ok (.aload_n 0, 1) := by decide +kernel
theorem dX9_count_168 : decode cX9_count 168 = .ok (.getfield 25, 3) := by decide +kernel
theorem dX9_count_171 : decode cX9_count 171 = .ok (.iload_n 3, 1) := by decide +kernel
theorem dX9_count_172 : decode cX9_count 172 = .ok (.iaload, 1) := by decide +kernel
theorem dX9_count_173 : decode cX9_count 173 = .ok (.invokevirtual 99, 3) := by decide +kernel
theorem dX9_count_176 : decode cX9_count 176 = .ok (.aload_n 0, 1) := by decide +kernel
theorem dX9_count_177 : decode cX9_count 177 = .ok (.getfield 28, 3) := by decide +kernel
theorem dX9_count_180 : decode cX9_count 180 = .ok (.iload_n 3, 1) := by decide +kernel
theorem dX9_count_181 : decode cX9_count 181 = .ok (.iaload, 1) := by decide +kernel
theorem dX9_count_182 : decode cX9_count 182 = .ok (.if_icmp .eq 7, 3) := by decide +kernel
theorem dX9_count_185 : decode cX9_count 185 = .ok (.iconst 1, 1) := by decide +kernel
theorem dX9_count_186 : decode cX9_count 186 = .ok (.goto 4, 3) := by decide +kernel
theorem dX9_count_189 : decode cX9_count 189 = .ok (.iconst 0, 1) := by decide +kernel
theorem dX9_count_190 : decode cX9_count 190 = .ok (.iadd, 1) := by decide +kernel
theorem dX9_count_191 : decode cX9_count 191 = .ok (.istore_n 2, 1) := by decide +kernel
theorem dX9_count_192 : decode cX9_count 192 = .ok (.iinc 3 1, 3) := by decide +kernel
theorem dX9_count_195 : decode cX9_count 195 = .ok (.goto (-44), 3) := by decide +kernel
theorem dX9_count_198 : decode cX9_count 198 = .ok (.iload_n 2, 1) := by decide +kernel
theorem dX9_count_199 : decode cX9_count 199 = .ok (.ireturn, 1) := by decide +kernel
theorem dX9_count_200 : decode cX9_count 200 = .ok (.iconst (-1), 1) := by decide +kernel
theorem dX9_count_201 : decode cX9_count 201 = .ok (.ireturn, 1) := by decide +kernel
end
section
theorem dL_law_0 : decode cL_law 0 = .ok (.new 7, 3) := by decide +kernel
theorem dL_law_3 : decode cL_law 3 = .ok (.dup, 1) := by decide +kernel
theorem dL_law_4 : decode cL_law 4 = .ok (.invokespecial 9, 3) := by decide +kernel
theorem dL_law_7 : decode cL_law 7 = .ok (.astore_n 1, 1) := by decide +kernel
theorem dL_law_8 : decode cL_law 8 = .ok (.new 10, 3) := by decide +kernel
theorem dL_law_11 : decode cL_law 11 = .ok (.dup, 1) := by decide +kernel
theorem dL_law_12 : decode cL_law 12 = .ok (.invokespecial 12, 3) := by decide +kernel
theorem dL_law_15 : decode cL_law 15 = .ok (.astore_n 2, 1) := by decide +kernel
theorem dL_law_16 : decode cL_law 16 = .ok (.iconst 0, 1) := by decide +kernel
theorem dL_law_17 : decode cL_law 17 = .ok (.istore_n 3, 1) := by decide +kernel
theorem dL_law_18 : decode cL_law 18 = .ok (.iload_n 3, 1) := by decide +kernel
theorem dL_law_19 : decode cL_law 19 = .ok (.aload_n 0, 1) := by decide +kernel
theorem dL_law_20 : decode cL_law 20 = .ok (.arraylength, 1) := by decide +kernel
theorem dL_law_21 : decode cL_law 21 = .ok (.iconst 5, 1) := by decide +kernel
theorem dL_law_22 : decode cL_law 22 = .ok (.isub, 1) := by decide +kernel
theorem dL_law_23 : decode cL_law 23 = .ok (.if_icmp .gt 567, 3) := by decide +kernel
theorem dL_law_26 : decode cL_law 26 = .ok (.aload_n 0, 1) := by decide +kernel
theorem dL_law_27 : decode cL_law 27 = .ok (.iload_n 3, 1) := by decide +kernel
theorem dL_law_28 : decode cL_law 28 = .ok (.iaload, 1) := by decide +kernel
theorem dL_law_29 : decode cL_law 29 = .ok (.bipush 31, 2) := by decide +kernel
theorem dL_law_31 : decode cL_law 31 = .ok (.iand, 1) := by decide +kernel
theorem dL_law_32 : decode cL_law 32 = .ok (.tableswitch 552 0 17 #[88, 141, 194, 227, 240, 273, 296, 319, 352, 395, 418, 431, 454, 467, 480, 493, 506, 529], 88) := by decide +kernel
theorem dL_law_120 : decode cL_law 120 = .ok (.aload_n 1, 1) := by decide +kernel
theorem dL_law_121 : decode cL_law 121 = .ok (.aload_n 0, 1) := by decide +kernel
theorem dL_law_122 : decode cL_law 122 = .ok (.iload_n 3, 1) := by decide +kernel
theorem dL_law_123 : decode cL_law 123 = .ok (.iconst 1, 1) := by decide +kernel
theorem dL_law_124 : decode cL_law 124 = .ok (.iadd, 1) := by decide +kernel
theorem dL_law_125 : decode cL_law 125 = .ok (.iaload, 1) := by decide +kernel
theorem dL_law_126 : decode cL_law 126 = .ok (.aload_n 0, 1) := by decide +kernel
theorem dL_law_127 : decode cL_law 127 = .ok (.iload_n 3, 1) := by decide +kernel
theorem dL_law_128 : decode cL_law 128 = .ok (.iconst 2, 1) := by decide +kernel
theorem dL_law_129 : decode cL_law 129 = .ok (.iadd, 1) := by decide +kernel
theorem dL_law_130 : decode cL_law 130 = .ok (.iaload, 1) := by decide +kernel
theorem dL_law_131 : decode cL_law 131 = .ok (.aload_n 0, 1) := by decide +kernel
theorem dL_law_132 : decode cL_law 132 = .ok (.iload_n 3, 1) := by decide +kernel
theorem dL_law_133 : decode cL_law 133 = .ok (.iconst 3, 1) := by decide +kernel
theorem dL_law_134 : decode cL_law 134 = .ok (.iadd, 1) := by decide +kernel
theorem dL_law_135 : decode cL_law 135 = .ok (.iaload, 1) := by decide +kernel
theorem dL_law_136 : decode cL_law 136 = .ok (.aload_n 0, 1) := by decide +kernel
theorem dL_law_137 : decode cL_law 137 = .ok (.iload_n 3, 1) := by decide +kernel
theorem dL_law_138 : decode cL_law 138 = .ok (.iconst 4, 1) := by decide +kernel
theorem dL_law_139 : decode cL_law 139 = .ok (.iadd, 1) := by decide +kernel
theorem dL_law_140 : decode cL_law 140 = .ok (.iaload, 1) := by decide +kernel
theorem dL_law_141 : decode cL_law 141 = .ok (.invokevirtual 13, 3) := by decide +kernel
theorem dL_law_144 : decode cL_law 144 = .ok (.aload_n 2, 1) := by decide +kernel
theorem dL_law_145 : decode cL_law 145 = .ok (.aload_n 0, 1) := by decide +kernel
theorem dL_law_146 : decode cL_law 146 = .ok (.iload_n 3, 1) := by decide +kernel
theorem dL_law_147 : decode cL_law 147 = .ok (.iconst 1, 1) := by decide +kernel
theorem dL_law_148 : decode cL_law 148 = .ok (.iadd, 1) := by decide +kernel
theorem dL_law_149 : decode cL_law 149 = .ok (.iaload, 1) := by decide +kernel
theorem dL_law_150 : decode cL_law 150 = .ok (.aload_n 0, 1) := by decide +kernel
theorem dL_law_151 : decode cL_law 151 = .ok (.iload_n 3, 1) := by decide +kernel
theorem dL_law_152 : decode cL_law 152 = .ok (.iconst 2, 1) := by decide +kernel
theorem dL_law_153 : decode cL_law 153 = .ok (.iadd, 1) := by decide +kernel
theorem dL_law_154 : decode cL_law 154 = .ok (.iaload, 1) := by decide +kernel
theorem dL_law_155 : decode cL_law 155 = .ok (.aload_n 0, 1) := by decide +kernel
theorem dL_law_156 : decode cL_law 156 = .ok (.iload_n 3, 1) := by decide +kernel
theorem dL_law_157 : decode cL_law 157 = .ok (.iconst 3, 1) := by decide +kernel
theorem dL_law_158 : decode cL_law 158 = .ok (.iadd, 1) := by decide +kernel
theorem dL_law_159 : decode cL_law 159 = .ok (.iaload, 1) := by decide +kernel
theorem dL_law_160 : decode cL_law 160 = .ok (.aload_n 0, 1) := by decide +kernel
theorem dL_law_161 : decode cL_law 161 = .ok (.iload_n 3, 1) := by decide +kernel
theorem dL_law_162 : decode cL_law 162 = .ok (.iconst 4, 1) := by decide +kernel
theorem dL_law_163 : decode cL_law 163 = .ok (.iadd, 1) := by decide +kernel
theorem dL_law_164 : decode cL_law 164 = .ok (.iaload, 1) := by decide +kernel
theorem dL_law_165 : decode cL_law 165 = .ok (.invokevirtual 17, 3) := by decide +kernel
theorem dL_law_168 : decode cL_law 168 = .ok (.if_icmp .eq 416, 3) := by decide +kernel
theorem dL_law_171 : decode cL_law 171 = .ok (.iconst 0, 1) := by decide +kernel
theorem dL_law_172 : decode cL_law 172 = .ok (.ireturn, 1) := by decide +kernel
theorem dL_law_173 : decode cL_law 173 = .ok (.aload_n 1, 1) := by decide +kernel
theorem dL_law_174 : decode cL_law 174 = .ok (.aload_n 0, 1) := by decide +kernel
theorem dL_law_175 : decode cL_law 175 = .ok (.iload_n 3, 1) := by decide +kernel
theorem dL_law_176 : decode cL_law 176 = .ok (.iconst 1, 1) := by decide +kernel
theorem dL_law_177 : decode cL_law 177 = .ok (.iadd, 1) := by decide +kernel
theorem dL_law_178 : decode cL_law 178 = .ok (.iaload, 1) := by decide +kernel
theorem dL_law_179 : decode cL_law 179 = .ok (.aload_n 0, 1) := by decide +kernel
theorem dL_law_180 : decode cL_law 180 = .ok (.iload_n 3, 1) := by decide +kernel
theorem dL_law_181 : decode cL_law 181 = .ok (.iconst 2, 1) := by decide +kernel
theorem dL_law_182 : decode cL_law 182 = .ok (.iadd, 1) := by decide +kernel
theorem dL_law_183 : decode cL_law 183 = .ok (.iaload, 1) := by decide +kernel
theorem dL_law_184 : decode cL_law 184 = .ok (.aload_n 0, 1) := by decide +kernel
theorem dL_law_185 : decode cL_law 185 = .ok (.iload_n 3, 1) := by decide +kernel
theorem dL_law_186 : decode cL_law 186 = .ok (.iconst 3, 1) := by decide +kernel
theorem dL_law_187 : decode cL_law 187 = .ok (.iadd, 1) := by decide +kernel
theorem dL_law_188 : decode cL_law 188 = .ok (.iaload, 1) := by decide +kernel
theorem dL_law_189 : decode cL_law 189 = .ok (.aload_n 0, 1) := by decide +kernel
theorem dL_law_190 : decode cL_law 190 = .ok (.iload_n 3, 1) := by decide +kernel
theorem dL_law_191 : decode cL_law 191 = .ok (.iconst 4, 1) := by decide +kernel
theorem dL_law_192 : decode cL_law 192 = .ok (.iadd, 1) := by decide +kernel
theorem dL_law_193 : decode cL_law 193 = .ok (.iaload, 1) := by decide +kernel
theorem dL_law_194 : decode cL_law 194 = .ok (.invokevirtual 18, 3) := by decide +kernel
theorem dL_law_197 : decode cL_law 197 = .ok (.aload_n 2, 1) := by decide +kernel
theorem dL_law_198 : decode cL_law 198 = .ok (.aload_n 0, 1) := by decide +kernel
theorem dL_law_199 : decode cL_law 199 = .ok (.iload_n 3, 1) := by decide +kernel
theorem dL_law_200 : decode cL_law 200 = .ok (.iconst 1, 1) := by decide +kernel
theorem dL_law_201 : decode cL_law 201 = .ok (.iadd, 1) := by decide +kernel
theorem dL_law_202 : decode cL_law 202 = .ok (.iaload, 1) := by decide +kernel
theorem dL_law_203 : decode cL_law 203 = .ok (.aload_n 0, 1) := by decide +kernel
theorem dL_law_204 : decode cL_law 204 = .ok (.iload_n 3, 1) := by decide +kernel
theorem dL_law_205 : decode cL_law 205 = .ok (.iconst 2, 1) := by decide +kernel
theorem dL_law_206 : decode cL_law 206 = .ok (.iadd, 1) := by decide +kernel
theorem dL_law_207 : decode cL_law 207 = .ok (.iaload, 1) := by decide +kernel
theorem dL_law_208 : decode cL_law 208 = .ok (.aload_n 0, 1) := by decide +kernel
theorem dL_law_209 : decode cL_law 209 = .ok (.iload_n 3, 1) := by decide +kernel
theorem dL_law_210 : decode cL_law 210 = .ok (.iconst 3, 1) := by decide +kernel
theorem dL_law_211 : decode cL_law 211 = .ok (.iadd, 1) := by decide +kernel
theorem dL_law_212 : decode cL_law 212 = .ok (.iaload, 1) := by decide +kernel
theorem dL_law_213 : decode cL_law 213 = .ok (.aload_n 0, 1) := by decide +kernel
theorem dL_law_214 : decode cL_law 214 = .ok (.iload_n 3, 1) := by decide +kernel
theorem dL_law_215 : decode cL_law 215 = .ok (.iconst 4, 1) := by decide +kernel
theorem dL_law_216 : decode cL_law 216 = .ok (.iadd, 1) := by decide +kernel
theorem dL_law_217 : decode cL_law 217 = .ok (.iaload, 1) := by decide +kernel
theorem dL_law_218 : decode cL_law 218 = .ok (.invokevirtual 22, 3) := by decide +kernel
theorem dL_law_221 : decode cL_law 221 = .ok (.if_icmp .eq 363, 3) := by decide +kernel
theorem dL_law_224 : decode cL_law 224 = .ok (.iconst 0, 1) := by decide +kernel
theorem dL_law_225 : decode cL_law 225 = .ok (.ireturn, 1) := by decide +kernel
theorem dL_law_226 : decode cL_law 226 = .ok (.aload_n 1, 1) := by decide +kernel
theorem dL_law_227 : decode cL_law 227 = .ok (.aload_n 0, 1) := by decide +kernel
theorem dL_law_228 : decode cL_law 228 = .ok (.iload_n 3, 1) := by decide +kernel
theorem dL_law_229 : decode cL_law 229 = .ok (.iconst 1, 1) := by decide +kernel
theorem dL_law_230 : decode cL_law 230 = .ok (.iadd, 1) := by decide +kernel
theorem dL_law_231 : decode cL_law 231 = .ok (.iaload, 1) := by decide +kernel
theorem dL_law_232 : decode cL_law 232 = .ok (.aload_n 0, 1) := by decide +kernel
theorem dL_law_233 : decode cL_law 233 = .ok (.iload_n 3, 1) := by decide +kernel
theorem dL_law_234 : decode cL_law 234 = .ok (.iconst 2, 1) := by decide +kernel
theorem dL_law_235 : decode cL_law 235 = .ok (.iadd, 1) := by decide +kernel
theorem dL_law_236 : decode cL_law 236 = .ok (.iaload, 1) := by decide +kernel
theorem dL_law_237 : decode cL_law 237 = .ok (.invokevirtual 23, 3) := by decide +kernel
theorem dL_law_240 : decode cL_law 240 = .ok (.aload_n 2, 1) := by decide +kernel
theorem dL_law_241 : decode cL_law 241 = .ok (.aload_n 0, 1) := by decide +kernel
theorem dL_law_242 : decode cL_law 242 = .ok (.iload_n 3, 1) := by decide +kernel
theorem dL_law_243 : decode cL_law 243 = .ok (.iconst 1, 1) := by decide +kernel
theorem dL_law_244 : decode cL_law 244 = .ok (.iadd, 1) := by decide +kernel
theorem dL_law_245 : decode cL_law 245 = .ok (.iaload, 1) := by decide +kernel
theorem dL_law_246 : decode cL_law 246 = .ok (.aload_n 0, 1) := by decide +kernel
theorem dL_law_247 : decode cL_law 247 = .ok (.iload_n 3, 1) := by decide +kernel
theorem dL_law_248 : decode cL_law 248 = .ok (.iconst 2, 1) := by decide +kernel
theorem dL_law_249 : decode cL_law 249 = .ok (.iadd, 1) := by decide +kernel
theorem dL_law_250 : decode cL_law 250 = .ok (.iaload, 1) := by decide +kernel
theorem dL_law_251 : decode cL_law 251 = .ok (.invokevirtual 27, 3) := by decide +kernel
theorem dL_law_254 : decode cL_law 254 = .ok (.if_icmp .eq 330, 3) := by decide +kernel
theorem dL_law_257 : decode cL_law 257 = .ok (.iconst 0, 1) := by decide +kernel
theorem dL_law_258 : decode cL_law 258 = .ok (.ireturn, 1) := by decide +kernel
theorem dL_law_259 : decode cL_law 259 = .ok (.aload_n 1, 1) := by decide +kernel
theorem dL_law_260 : decode cL_law 260 = .ok (.invokevirtual 28, 3) := by decide +kernel
theorem dL_law_263 : decode cL_law 263 = .ok (.aload_n 2, 1) := by decide +kernel
theorem dL_law_264 : decode cL_law 264 = .ok (.invokevirtual 32, 3) := by decide +kernel
theorem dL_law_267 : decode cL_law 267 = .ok (.if_icmp .eq 317, 3) := by decide +kernel
theorem dL_law_270 : decode cL_law 270 = .ok (.iconst 0, 1) := by decide +kernel
theorem dL_law_271 : decode cL_law 271 = .ok (.ireturn, 1) := by decide +kernel
theorem dL_law_272 : decode cL_law 272 = .ok (.aload_n 1, 1) := by decide +kernel
theorem dL_law_273 : decode cL_law 273 = .ok (.aload_n 0, 1) := by decide +kernel
theorem dL_law_274 : decode cL_law 274 = .ok (.iload_n 3, 1) := by decide +kernel
theorem dL_law_275 : decode cL_law 275 = .ok (.iconst 1, 1) := by decide +kernel
theorem dL_law_276 : decode cL_law 276 = .ok (.iadd, 1) := by decide +kernel
theorem dL_law_277 : decode cL_law 277 = .ok (.iaload, 1) := by decide +kernel
theorem dL_law_278 : decode cL_law 278 = .ok (.aload_n 0, 1) := by decide +kernel
theorem dL_law_279 : decode cL_law 279 = .ok (.iload_n 3, 1) := by decide +kernel
theorem dL_law_280 : decode cL_law 280 = .ok (.iconst 2, 1) := by decide +kernel
theorem dL_law_281 : decode cL_law 281 = .ok (.iadd, 1) := by decide +kernel
theorem dL_law_282 : decode cL_law 282 = .ok (.iaload, 1) := by decide +kernel
theorem dL_law_283 : decode cL_law 283 = .ok (.invokevirtual 33, 3) := by decide +kernel
theorem dL_law_286 : decode cL_law 286 = .ok (.aload_n 2, 1) := by decide +kernel
theorem dL_law_287 : decode cL_law 287 = .ok (.aload_n 0, 1) := by decide +kernel
theorem dL_law_288 : decode cL_law 288 = .ok (.iload_n 3, 1) := by decide +kernel
theorem dL_law_289 : decode cL_law 289 = .ok (.iconst 1, 1) := by decide +kernel
theorem dL_law_290 : decode cL_law 290 = .ok (.iadd, 1) := by decide +kernel
theorem dL_law_291 : decode cL_law 291 = .ok (.iaload, 1) := by decide +kernel
theorem dL_law_292 : decode cL_law 292 = .ok (.aload_n 0, 1) := by decide +kernel
theorem dL_law_293 : decode cL_law 293 = .ok (.iload_n 3, 1) := by decide +kernel
theorem dL_law_294 : decode cL_law 294 = .ok (.iconst 2, 1) := by decide +kernel
theorem dL_law_295 : decode cL_law 295 = .ok (.iadd, 1) := by decide +kernel
theorem dL_law_296 : decode cL_law 296 = .ok (.iaload, 1) := by decide +kernel
theorem dL_law_297 : decode cL_law 297 = .ok (.invokevirtual 36, 3) := by decide +kernel
theorem dL_law_300 : decode cL_law 300 = .ok (.if_icmp .eq 284, 3) := by decide +kernel
theorem dL_law_303 : decode cL_law 303 = .ok (.iconst 0, 1) := by decide +kernel
theorem dL_law_304 : decode cL_law 304 = .ok (.ireturn, 1) := by decide +kernel
theorem dL_law_305 : decode cL_law 305 = .ok (.aload_n 1, 1) := by decide +kernel
theorem dL_law_306 : decode cL_law 306 = .ok (.aload_n 0, 1) := by decide +kernel
theorem dL_law_307 : decode cL_law 307 = .ok (.iload_n 3, 1) := by decide +kernel
theorem dL_law_308 : decode cL_law 308 = .ok (.iconst 1, 1) := by decide +kernel
theorem dL_law_309 : decode cL_law 309 = .ok (.iadd, 1) := by decide +kernel
theorem dL_law_310 : decode cL_law 310 = .ok (.iaload, 1) := by decide +kernel
theorem dL_law_311 : decode cL_law 311 = .ok (.invokevirtual 37, 3) := by decide +kernel
theorem dL_law_314 : decode cL_law 314 = .ok (.aload_n 2, 1) := by decide +kernel
theorem dL_law_315 : decode cL_law 315 = .ok (.aload_n 0, 1) := by decide +kernel
theorem dL_law_316 : decode cL_law 316 = .ok (.iload_n 3, 1) := by decide +kernel
theorem dL_law_317 : decode cL_law 317 = .ok (.iconst 1, 1) := by decide +kernel
theorem dL_law_318 : decode cL_law 318 = .ok (.iadd, 1) := by decide +kernel
theorem dL_law_319 : decode cL_law 319 = .ok (.iaload, 1) := by decide +kernel
theorem dL_law_320 : decode cL_law 320 = .ok (.invokevirtual 41, 3) := by decide +kernel
theorem dL_law_323 : decode cL_law 323 = .ok (.if_icmp .eq 261, 3) := by decide +kernel
theorem dL_law_326 : decode cL_law 326 = .ok (.iconst 0, 1) := by decide +kernel
theorem dL_law_327 : decode cL_law 327 = .ok (.ireturn, 1) := by decide +kernel
theorem dL_law_328 : decode cL_law 328 = .ok (.aload_n 1, 1) := by decide +kernel
theorem dL_law_329 : decode cL_law 329 = .ok (.aload_n 0, 1) := by decide +kernel
theorem dL_law_330 : decode cL_law 330 = .ok (.iload_n 3, 1) := by decide +kernel
theorem dL_law_331 : decode cL_law 331 = .ok (.iconst 1, 1) := by decide +kernel
theorem dL_law_332 : decode cL_law 332 = .ok (.iadd, 1) := by decide +kernel
theorem dL_law_333 : decode cL_law 333 = .ok (.iaload, 1) := by decide +kernel
theorem dL_law_334 : decode cL_law 334 = .ok (.invokevirtual 42, 3) := by decide +kernel
theorem dL_law_337 : decode cL_law 337 = .ok (.aload_n 2, 1) := by decide +kernel
theorem dL_law_338 : decode cL_law 338 = .ok (.aload_n 0, 1) := by decide +kernel
theorem dL_law_339 : decode cL_law 339 = .ok (.iload_n 3, 1) := by decide +kernel
theorem dL_law_340 : decode cL_law 340 = .ok (.iconst 1, 1) := by decide +kernel
theorem dL_law_341 : decode cL_law 341 = .ok (.iadd, 1) := by decide +kernel
theorem dL_law_342 : decode cL_law 342 = .ok (.iaload, 1) := by decide +kernel
theorem dL_law_343 : decode cL_law 343 = .ok (.invokevirtual 46, 3) := by decide +kernel
theorem dL_law_346 : decode cL_law 346 = .ok (.if_icmp .eq 238, 3) := by decide +kernel
theorem dL_law_349 : decode cL_law 349 = .ok (.iconst 0, 1) := by decide +kernel
theorem dL_law_350 : decode cL_law 350 = .ok (.ireturn, 1) := by decide +kernel
theorem dL_law_351 : decode cL_law 351 = .ok (.aload_n 1, 1) := by decide +kernel
theorem dL_law_352 : decode cL_law 352 = .ok (.aload_n 0, 1) := by decide +kernel
theorem dL_law_353 : decode cL_law 353 = .ok (.iload_n 3, 1) := by decide +kernel
theorem dL_law_354 : decode cL_law 354 = .ok (.iconst 1, 1) := by decide +kernel
theorem dL_law_355 : decode cL_law 355 = .ok (.iadd, 1) := by decide +kernel
theorem dL_law_356 : decode cL_law 356 = .ok (.iaload, 1) := by decide +kernel
theorem dL_law_357 : decode cL_law 357 = .ok (.aload_n 0, 1) := by decide +kernel
theorem dL_law_358 : decode cL_law 358 = .ok (.iload_n 3, 1) := by decide +kernel
theorem dL_law_359 : decode cL_law 359 = .ok (.iconst 2, 1) := by decide +kernel
theorem dL_law_360 : decode cL_law 360 = .ok (.iadd, 1) := by decide +kernel
theorem dL_law_361 : decode cL_law 361 = .ok (.iaload, 1) := by decide +kernel
theorem dL_law_362 : decode cL_law 362 = .ok (.invokevirtual 47, 3) := by decide +kernel
theorem dL_law_365 : decode cL_law 365 = .ok (.aload_n 2, 1) := by decide +kernel
theorem dL_law_366 : decode cL_law 366 = .ok (.aload_n 0, 1) := by decide +kernel
theorem dL_law_367 : decode cL_law 367 = .ok (.iload_n 3, 1) := by decide +kernel
theorem dL_law_368 : decode cL_law 368 = .ok (.iconst 1, 1) := by decide +kernel
theorem dL_law_369 : decode cL_law 369 = .ok (.iadd, 1) := by decide +kernel
theorem dL_law_370 : decode cL_law 370 = .ok (.iaload, 1) := by decide +kernel
theorem dL_law_371 : decode cL_law 371 = .ok (.aload_n 0, 1) := by decide +kernel
theorem dL_law_372 : decode cL_law 372 = .ok (.iload_n 3, 1) := by decide +kernel
theorem dL_law_373 : decode cL_law 373 = .ok (.iconst 2, 1) := by decide +kernel
theorem dL_law_374 : decode cL_law 374 = .ok (.iadd, 1) := by decide +kernel
theorem dL_law_375 : decode cL_law 375 = .ok (.iaload, 1) := by decide +kernel
theorem dL_law_376 : decode cL_law 376 = .ok (.invokevirtual 50, 3) := by decide +kernel
theorem dL_law_379 : decode cL_law 379 = .ok (.if_icmp .eq 205, 3) := by decide +kernel
theorem dL_law_382 : decode cL_law 382 = .ok (.iconst 0, 1) := by decide +kernel
theorem dL_law_383 : decode cL_law 383 = .ok (.ireturn, 1) := by decide +kernel
theorem dL_law_384 : decode cL_law 384 = .ok (.aload_n 1, 1) := by decide +kernel
theorem dL_law_385 : decode cL_law 385 = .ok (.aload_n 0, 1) := by decide +kernel
theorem dL_law_386 : decode cL_law 386 = .ok (.iload_n 3, 1) := by decide +kernel
theorem dL_law_387 : decode cL_law 387 = .ok (.iconst 1, 1) := by decide +kernel
theorem dL_law_388 : decode cL_law 388 = .ok (.iadd, 1) := by decide +kernel
theorem dL_law_389 : decode cL_law 389 = .ok (.iaload, 1) := by decide +kernel
theorem dL_law_390 : decode cL_law 390 = .ok (.aload_n 0, 1) := by decide +kernel
theorem dL_law_391 : decode cL_law 391 = .ok (.iload_n 3, 1) := by decide +kernel
theorem dL_law_392 : decode cL_law 392 = .ok (.iconst 2, 1) := by decide +kernel
theorem dL_law_393 : decode cL_law 393 = .ok (.iadd, 1) := by decide +kernel
theorem dL_law_394 : decode cL_law 394 = .ok (.iaload, 1) := by decide +kernel
theorem dL_law_395 : decode cL_law 395 = .ok (.aload_n 0, 1) := by decide +kernel
theorem dL_law_396 : decode cL_law 396 = .ok (.iload_n 3, 1) := by decide +kernel
theorem dL_law_397 : decode cL_law 397 = .ok (.iconst 3, 1) := by decide +kernel
theorem dL_law_398 : decode cL_law 398 = .ok (.iadd, 1) := by decide +kernel
theorem dL_law_399 : decode cL_law 399 = .ok (.iaload, 1) := by decide +kernel
theorem dL_law_400 : decode cL_law 400 = .ok (.invokevirtual 51, 3) := by decide +kernel
theorem dL_law_403 : decode cL_law 403 = .ok (.aload_n 2, 1) := by decide +kernel
theorem dL_law_404 : decode cL_law 404 = .ok (.aload_n 0, 1) := by decide +kernel
theorem dL_law_405 : decode cL_law 405 = .ok (.iload_n 3, 1) := by decide +kernel
theorem dL_law_406 : decode cL_law 406 = .ok (.iconst 1, 1) := by decide +kernel
theorem dL_law_407 : decode cL_law 407 = .ok (.iadd, 1) := by decide +kernel
theorem dL_law_408 : decode cL_law 408 = .ok (.iaload, 1) := by decide +kernel
theorem dL_law_409 : decode cL_law 409 = .ok (.aload_n 0, 1) := by decide +kernel
theorem dL_law_410 : decode cL_law 410 = .ok (.iload_n 3, 1) := by decide +kernel
theorem dL_law_411 : decode cL_law 411 = .ok (.iconst 2, 1) := by decide +kernel
theorem dL_law_412 : decode cL_law 412 = .ok (.iadd, 1) := by decide +kernel
theorem dL_law_413 : decode cL_law 413 = .ok (.iaload, 1) := by decide +kernel
theorem dL_law_414 : decode cL_law 414 = .ok (.aload_n 0, 1) := by decide +kernel
theorem dL_law_415 : decode cL_law 415 = .ok (.iload_n 3, 1) := by decide +kernel
theorem dL_law_416 : decode cL_law 416 = .ok (.iconst 3, 1) := by decide +kernel
theorem dL_law_417 : decode cL_law 417 = .ok (.iadd, 1) := by decide +kernel
theorem dL_law_418 : decode cL_law 418 = .ok (.iaload, 1) := by decide +kernel
theorem dL_law_419 : decode cL_law 419 = .ok (.invokevirtual 55, 3) := by decide +kernel
theorem dL_law_422 : decode cL_law 422 = .ok (.if_icmp .eq 162, 3) := by decide +kernel
theorem dL_law_425 : decode cL_law 425 = .ok (.iconst 0, 1) := by decide +kernel
theorem dL_law_426 : decode cL_law 426 = .ok (.ireturn, 1) := by decide +kernel
theorem dL_law_427 : decode cL_law 427 = .ok (.aload_n 1, 1) := by decide +kernel
theorem dL_law_428 : decode cL_law 428 = .ok (.aload_n 0, 1) := by decide +kernel
theorem dL_law_429 : decode cL_law 429 = .ok (.iload_n 3, 1) := by decide +kernel
theorem dL_law_430 : decode cL_law 430 = .ok (.iconst 1, 1) := by decide +kernel
theorem dL_law_431 : decode cL_law 431 = .ok (.iadd, 1) := by decide +kernel
theorem dL_law_432 : decode cL_law 432 = .ok (.iaload, 1) := by decide +kernel
theorem dL_law_433 : decode cL_law 433 = .ok (.invokevirtual 56, 3) := by decide +kernel
theorem dL_law_436 : decode cL_law 436 = .ok (.aload_n 2, 1) := by decide +kernel
theorem dL_law_437 : decode cL_law 437 = .ok (.aload_n 0, 1) := by decide +kernel
theorem dL_law_438 : decode cL_law 438 = .ok (.iload_n 3, 1) := by decide +kernel
theorem dL_law_439 : decode cL_law 439 = .ok (.iconst 1, 1) := by decide +kernel
theorem dL_law_440 : decode cL_law 440 = .ok (.iadd, 1) := by decide +kernel
theorem dL_law_441 : decode cL_law 441 = .ok (.iaload, 1) := by decide +kernel
theorem dL_law_442 : decode cL_law 442 = .ok (.invokevirtual 59, 3) := by decide +kernel
theorem dL_law_445 : decode cL_law 445 = .ok (.if_icmp .eq 139, 3) := by decide +kernel
theorem dL_law_448 : decode cL_law 448 = .ok (.iconst 0, 1) := by decide +kernel
theorem dL_law_449 : decode cL_law 449 = .ok (.ireturn, 1) := by decide +kernel
theorem dL_law_450 : decode cL_law 450 = .ok (.aload_n 1, 1) := by decide +kernel
theorem dL_law_451 : decode cL_law 451 = .ok (.invokevirtual 60, 3) := by decide +kernel
theorem dL_law_454 : decode cL_law 454 = .ok (.aload_n 2, 1) := by decide +kernel
theorem dL_law_455 : decode cL_law 455 = .ok (.invokevirtual 63, 3) := by decide +kernel
theorem dL_law_458 : decode cL_law 458 = .ok (.if_icmp .eq 126, 3) := by decide +kernel
theorem dL_law_461 : decode cL_law 461 = .ok (.iconst 0, 1) := by decide +kernel
theorem dL_law_462 : decode cL_law 462 = .ok (.ireturn, 1) := by decide +kernel
theorem dL_law_463 : decode cL_law 463 = .ok (.aload_n 1, 1) := by decide +kernel
theorem dL_law_464 : decode cL_law 464 = .ok (.aload_n 0, 1) := by decide +kernel
theorem dL_law_465 : decode cL_law 465 = .ok (.iload_n 3, 1) := by decide +kernel
theorem dL_law_466 : decode cL_law 466 = .ok (.iconst 1, 1) := by decide +kernel
theorem dL_law_467 : decode cL_law 467 = .ok (.iadd, 1) := by decide +kernel
theorem dL_law_468 : decode cL_law 468 = .ok (.iaload, 1) := by decide +kernel
theorem dL_law_469 : decode cL_law 469 = .ok (.invokevirtual 64, 3) := by decide +kernel
theorem dL_law_472 : decode cL_law 472 = .ok (.aload_n 2, 1) := by decide +kernel
theorem dL_law_473 : decode cL_law 473 = .ok (.aload_n 0, 1) := by decide +kernel
theorem dL_law_474 : decode cL_law 474 = .ok (.iload_n 3, 1) := by decide +kernel
theorem dL_law_475 : decode cL_law 475 = .ok (.iconst 1, 1) := by decide +kernel
theorem dL_law_476 : decode cL_law 476 = .ok (.iadd, 1) := by decide +kernel
theorem dL_law_477 : decode cL_law 477 = .ok (.iaload, 1) := by decide +kernel
theorem dL_law_478 : decode cL_law 478 = .ok (.invokevirtual 67, 3) := by decide +kernel
theorem dL_law_481 : decode cL_law 481 = .ok (.if_icmp .eq 103, 3) := by decide +kernel
theorem dL_law_484 : decode cL_law 484 = .ok (.iconst 0, 1) := by decide +kernel
theorem dL_law_485 : decode cL_law 485 = .ok (.ireturn, 1) := by decide +kernel
theorem dL_law_486 : decode cL_law 486 = .ok (.aload_n 1, 1) := by decide +kernel
theorem dL_law_487 : decode cL_law 487 = .ok (.invokevirtual 68, 3) := by decide +kernel
theorem dL_law_490 : decode cL_law 490 = .ok (.aload_n 2, 1) := by decide +kernel
theorem dL_law_491 : decode cL_law 491 = .ok (.invokevirtual 71, 3) := by decide +kernel
theorem dL_law_494 : decode cL_law 494 = .ok (.if_icmp .eq 90, 3) := by decide +kernel
theorem dL_law_497 : decode cL_law 497 = .ok (.iconst 0, 1) := by decide +kernel
theorem dL_law_498 : decode cL_law 498 = .ok (.ireturn, 1) := by decide +kernel
theorem dL_law_499 : decode cL_law 499 = .ok (.aload_n 1, 1) := by decide +kernel
theorem dL_law_500 : decode cL_law 500 = .ok (.invokevirtual 72, 3) := by decide +kernel
theorem dL_law_503 : decode cL_law 503 = .ok (.aload_n 2, 1) := by decide +kernel
theorem dL_law_504 : decode cL_law 504 = .ok (.invokevirtual 75, 3) := by decide +kernel
theorem dL_law_507 : decode cL_law 507 = .ok (.if_icmp .eq 77, 3) := by decide +kernel
theorem dL_law_510 : decode cL_law 510 = .ok (.iconst 0, 1) := by decide +kernel
theorem dL_law_511 : decode cL_law 511 = .ok (.ireturn, 1) := by decide +kernel
theorem dL_law_512 : decode cL_law 512 = .ok (.aload_n 1, 1) := by decide +kernel
theorem dL_law_513 : decode cL_law 513 = .ok (.invokevirtual 76, 3) := by decide +kernel
theorem dL_law_516 : decode cL_law 516 = .ok (.aload_n 2, 1) := by decide +kernel
theorem dL_law_517 : decode cL_law 517 = .ok (.invokevirtual 79, 3) := by decide +kernel
theorem dL_law_520 : decode cL_law 520 = .ok (.if_icmp .eq 64, 3) := by decide +kernel
theorem dL_law_523 : decode cL_law 523 = .ok (.iconst 0, 1) := by decide +kernel
theorem dL_law_524 : decode cL_law 524 = .ok (.ireturn, 1) := by decide +kernel
theorem dL_law_525 : decode cL_law 525 = .ok (.aload_n 1, 1) := by decide +kernel
theorem dL_law_526 : decode cL_law 526 = .ok (.invokevirtual 80, 3) := by decide +kernel
theorem dL_law_529 : decode cL_law 529 = .ok (.aload_n 2, 1) := by decide +kernel
theorem dL_law_530 : decode cL_law 530 = .ok (.invokevirtual 83, 3) := by decide +kernel
theorem dL_law_533 : decode cL_law 533 = .ok (.if_icmp .eq 51, 3) := by decide +kernel
theorem dL_law_536 : decode cL_law 536 = .ok (.iconst 0, 1) := by decide +kernel
theorem dL_law_537 : decode cL_law 537 = .ok (.ireturn, 1) := by decide +kernel
theorem dL_law_538 : decode cL_law 538 = .ok (.aload_n 1, 1) := by decide +kernel
theorem dL_law_539 : decode cL_law 539 = .ok (.aload_n 0, 1) := by decide +kernel
theorem dL_law_540 : decode cL_law 540 = .ok (.iload_n 3, 1) := by decide +kernel
theorem dL_law_541 : decode cL_law 541 = .ok (.iconst 1, 1) := by decide +kernel
theorem dL_law_542 : decode cL_law 542 = .ok (.iadd, 1) := by decide +kernel
theorem dL_law_543 : decode cL_law 543 = .ok (.iaload, 1) := by decide +kernel
theorem dL_law_544 : decode cL_law 544 = .ok (.invokevirtual 84, 3) := by decide +kernel
theorem dL_law_547 : decode cL_law 547 = .ok (.aload_n 2, 1) := by decide +kernel
theorem dL_law_548 : decode cL_law 548 = .ok (.aload_n 0, 1) := by decide +kernel
theorem dL_law_549 : decode cL_law 549 = .ok (.iload_n 3, 1) := by decide +kernel
theorem dL_law_550 : decode cL_law 550 = .ok (.iconst 1, 1) := by decide +kernel
theorem dL_law_551 : decode cL_law 551 = .ok (.iadd, 1) := by decide +kernel
theorem dL_law_552 : decode cL_law 552 = .ok (.iaload, 1) := by decide +kernel
theorem dL_law_553 : decode cL_law 553 = .ok (.invokevirtual 87, 3) := by decide +kernel
theorem dL_law_556 : decode cL_law 556 = .ok (.if_icmp .eq 28, 3) := by decide +kernel
theorem dL_law_559 : decode cL_law 559 = .ok (.iconst 0, 1) := by decide +kernel
theorem dL_law_560 : decode cL_law 560 = .ok (.ireturn, 1) := by decide +kernel
theorem dL_law_561 : decode cL_law 561 = .ok (.aload_n 1, 1) := by decide +kernel
theorem dL_law_562 : decode cL_law 562 = .ok (.aload_n 0, 1) := by decide +kernel
theorem dL_law_563 : decode cL_law 563 = .ok (.iload_n 3, 1) := by decide +kernel
theorem dL_law_564 : decode cL_law 564 = .ok (.iconst 1, 1) := by decide +kernel
theorem dL_law_565 : decode cL_law 565 = .ok (.iadd, 1) := by decide +kernel
theorem dL_law_566 : decode cL_law 566 = .ok (.iaload, 1) := by decide +kernel
theorem dL_law_567 : decode cL_law 567 = .ok (.invokevirtual 88, 3) := by decide +kernel
theorem dL_law_570 : decode cL_law 570 = .ok (.aload_n 2, 1) := by decide +kernel
theorem dL_law_571 : decode cL_law 571 = .ok (.aload_n 0, 1) := by decide +kernel
theorem dL_law_572 : decode cL_law 572 = .ok (.iload_n 3, 1) := by decide +kernel
theorem dL_law_573 : decode cL_law 573 = .ok (.iconst 1, 1) := by decide +kernel
theorem dL_law_574 : decode cL_law 574 = .ok (.iadd, 1) := by decide +kernel
theorem dL_law_575 : decode cL_law 575 = .ok (.iaload, 1) := by decide +kernel
theorem dL_law_576 : decode cL_law 576 = .ok (.invokevirtual 91, 3) := by decide +kernel
theorem dL_law_579 : decode cL_law 579 = .ok (.if_icmp .eq 5, 3) := by decide +kernel
theorem dL_law_582 : decode cL_law 582 = .ok (.iconst 0, 1) := by decide +kernel
theorem dL_law_583 : decode cL_law 583 = .ok (.ireturn, 1) := by decide +kernel
theorem dL_law_584 : decode cL_law 584 = .ok (.iinc 3 5, 3) := by decide +kernel
theorem dL_law_587 : decode cL_law 587 = .ok (.goto (-569), 3) := by decide +kernel
theorem dL_law_590 : decode cL_law 590 = .ok (.iconst 1, 1) := by decide +kernel
theorem dL_law_591 : decode cL_law 591 = .ok (.ireturn, 1) := by decide +kernel
end
section
/-! the world as a row of cells numbered as they were made: cell n lies at address ad n and holds g n -/
abbrev WT : Type := Nat × (Nat → Nat) × (Nat → va_E)
def wl (w : WT) : va_W := (List.range w.1).map (fun n => (w.2.1 n, w.2.2 n))
theorem wl_at {w : WT} {n : Nat} (h : n < w.1) : (wl w)[n]? = some (w.2.1 n, w.2.2 n) := by
  simp [wl, h]
theorem wl_at' {w : WT} {n : Nat} (h : n < w.1) {e : va_E} (hg : w.2.2 n = e) : (wl w)[n]? = some (w.2.1 n, e) := by
  rw [wl_at h, hg]
theorem va_up_s {α : Type} {f : Nat → α} {k : Nat} {v : α} : va_up f k v k = v := by simp [va_up]
theorem va_up_n {α : Type} {f : Nat → α} {k j : Nat} {v : α} (h : j ≠ k) : va_up f k v j = f j := by simp [va_up, h]
theorem wl_set {N : Nat} {ad : Nat → Nat} {g : Nat → va_E} {n : Nat} {e : va_E} (h : n < N) : (wl (N, ad, g)).set n (ad n, e) = wl (N, ad, va_up g n e) := by
  apply List.ext_getElem?
  intro i
  by_cases hi : i = n
  · subst hi
    rw [List.getElem?_set_self (by simp [wl, h]), wl_at (w := (N, ad, va_up g i e)) h]
    simp [va_up]
  · rw [List.getElem?_set_ne (fun q => hi q.symm)]
    by_cases hN : i < N
    · rw [wl_at (w := (N, ad, g)) hN, wl_at (w := (N, ad, va_up g n e)) hN]
      simp [va_up, hi]
    · have h1 : ∀ g' : Nat → va_E, (wl (N, ad, g'))[i]? = none := fun g' => by simp [wl]; omega
      rw [h1, h1]
theorem wl_push {N : Nat} {ad : Nat → Nat} {g : Nat → va_E} {a : Nat} {e : va_E} : wl (N, ad, g) ++ [(a, e)] = wl (N + 1, va_up ad N a, va_up g N e) := by
  apply List.ext_getElem?
  intro i
  by_cases hN : i < N
  · rw [List.getElem?_append_left (by simp [wl, hN]), wl_at (w := (N, ad, g)) hN, wl_at (w := (N + 1, va_up ad N a, va_up g N e)) (show i < N + 1 by omega)]
    simp [va_up, Nat.ne_of_lt hN]
  · rw [List.getElem?_append_right (by simp [wl]; omega)]
    by_cases hE : i = N
    · subst hE
      rw [wl_at (w := (i + 1, va_up ad i a, va_up g i e)) (show i < i + 1 by omega)]
      simp [wl, va_up]
    · have h1 : (wl (N + 1, va_up ad N a, va_up g N e))[i]? = none := by simp [wl]; omega
      rw [h1]
      simp [wl]
      omega
abbrev tyl (cy : Nat → ClassId) : List (ClassId × FieldType) := [(cy 0, .int), (cy 1, .boolean), (cy 2, .object "TestsFromUse$Branch"), (cy 3, .object "TestsFromUse$MadeTest")]
/-- the words that do not go with the good ones -/
def NX (U : State) : Prop := NW U ∧ va_AO "TestsFromUse$Branch" U ∧ va_AO "TestsFromUse$MadeTest" U
theorem NX.warm {s U : State} (hW : s.WarmedH U.vm) (h : NX s) : NX U := ⟨h.1.warm hW, h.2.1.moved hW.alike, h.2.2.moved hW.alike⟩
/-- a method's context -/
def Cx (G : va_G) (cy : Nat → ClassId) (p : Program) (s : State) (m : MethodId) (args : Array Value) (c : Code) (cc : ByteArray) (nL : Nat) (own : String) (A : Nat → Prop) (H0 : Heap) : Prop :=
  CallFix p m c cc nL s args tg own ∧ va_K G vwCl (tyl cy) s ∧ NX s ∧ ∀ q, H0.size ≤ q → A q
/-- the world in a walk -/
def Wd (G : va_G) (A : Nat → Prop) (H0 : Heap) (w : WT) (H : Heap) (locs : List Loc) : Prop := va_P G vwCl (wl w) H ∧ va_D A (wl w) ∧ va_S A H0 H locs
/-- a class of the worlds, and what the tables say of it -/
def CO (ci : Nat) (C : String) (T : u_T) (NN : Nat) (ty0 : Nat → FieldType) : Prop := vwCl[ci]? = some (C, T, NN) ∧ (∀ w ∈ u_ws C T NN, w ∈ tg) ∧ (∀ k, k < NN → parseFieldDescriptor (T k).2.2.1 = some (ty0 k)) ∧ ∀ a, a < NN → ∀ b, b < NN → a ≠ b → (T a).2.1 ≠ (T b).2.1
theorem K0 : CO 0 RX0 TX0 8 tyX0 := ⟨rfl, inT0, tyX0_ok, nmX0⟩
theorem K1 : CO 1 RX1 TX1 3 tyX1 := ⟨rfl, inT1, tyX1_ok, nmX1⟩
theorem K2 : CO 2 RX2 TX2 2 tyX2 := ⟨rfl, inT2, tyX2_ok, nmX2⟩
theorem K3 : CO 3 RX3 TX3 4 tyX3 := ⟨rfl, inT3, tyX3_ok, nmX3⟩
theorem K4 : CO 4 RX4 TX4 5 tyX4 := ⟨rfl, inT4, tyX4_ok, nmX4⟩
theorem K5 : CO 5 RX5 TX5 3 tyX5 := ⟨rfl, inT5, tyX5_ok, nmX5⟩
theorem K6 : CO 6 RX6 TX6 3 tyX6 := ⟨rfl, inT6, tyX6_ok, nmX6⟩
theorem K7 : CO 7 RX7 TX7 3 tyX7 := ⟨rfl, inT7, tyX7_ok, nmX7⟩
theorem K8 : CO 8 RX8 TX8 5 tyX8 := ⟨rfl, inT8, tyX8_ok, nmX8⟩
theorem K9 : CO 9 RX9 TX9 22 tyX9 := ⟨rfl, inT9, tyX9_ok, nmX9⟩
section WR
variable {p : Program} {l : Launch} {e : Env} {R : Room} {s : State} {m : MethodId} {args : Array Value} {below : List Frame} {meth : Method} {c : Code} {H : Heap} {locs : List Loc} {cells slots : Nat} {Q : State → Prop}
variable {cc : ByteArray} {pc : Nat} {ls : Array Slot} {rest : List Value} {G : va_G} {cy : Nat → ClassId} {A : Nat → Prop} {H0 : Heap} {nL : Nat} {own : String} {N : Nat} {ad : Nat → Nat} {g : Nat → va_E} {n : Nat}
theorem Cx.hx (X : Cx G cy p s m args c cc nL own A H0) : p.tables.exec = Jvm.exec := X.1.1
theorem Cx.hb (X : Cx G cy p s m args c cc nL own A H0) : c.code = cc := X.1.2.1
theorem Cx.ht (X : Cx G cy p s m args c cc nL own A H0) {w : Cond} (h : w ∈ tg) : w.before args s = true := X.1.2.2.2.2 w h
/-- getfield -/
theorem w_get (X : Cx G cy p s m args c cc nL own A H0) (hW : Wd G A H0 (N, ad, g) H locs) {ci : Nat} {C : String} {T : u_T} {NN : Nat} {ty0 : Nat → FieldType} (KC : CO ci C T NN ty0) (hn : n < N) {fs : List Value} (hg : g n = .inr (ci, fs)) (k : Nat) (hk : k < NN) {index : Nat} (hlink : Cond.fieldLink own index (T k).1 (T k).2.1 (T k).2.2.1 ∈ tg) {v : Value} (hv : fs[k]? = some v) (hdg : decode cc pc = .ok (.getfield index, 3))
    (kk : W p l e R s m args below meth c H locs cells slots Q (F0 m (pc + 3) ls (v :: rest))) : W p l e R s m args below meth c H locs cells slots Q (F0 m pc ls (.ref (ad n) :: rest)) :=
  va_get X.hx X.hb X.1.2.2.2.2 KC.2.1 X.1.2.2.2.1 X.2.1 hW.1 n (wl_at' (w := (N, ad, g)) hn hg) KC.1 k hk (X.ht hlink) (fun _ h9 => h9) hv hdg kk
theorem w_getN (X : Cx G cy p s m args c cc nL own A H0) (hW : Wd G A H0 (N, ad, g) H locs) {ci : Nat} {C : String} {T : u_T} {NN : Nat} {ty0 : Nat → FieldType} (KC : CO ci C T NN ty0) (hn : n < N) {fs : List Value} (hg : g n = .inr (ci, fs)) (k : Nat) (hk : k < NN) {index : Nat} {host : String} (hlink : ((own, index, (T k).1, (T k).2.1, (T k).2.2.1, host) : nfT) ∈ nfl) {v : Value} (hv : fs[k]? = some v) (hdg : decode cc pc = .ok (.getfield index, 3))
    (kk : W p l e R s m args below meth c H locs cells slots Q (F0 m (pc + 3) ls (v :: rest))) : W p l e R s m args below meth c H locs cells slots Q (F0 m pc ls (.ref (ad n) :: rest)) :=
  va_getN (host := host) X.hx X.hb X.1.2.2.2.2 KC.2.1 X.1.2.2.2.1 X.2.1 hW.1 n (wl_at' (w := (N, ad, g)) hn hg) KC.1 k hk (va_Nw.use rfl (X.2.2.1.1.2 _ hlink)) (fun _ h9 => h9) hv hdg kk
theorem Wd.set (hn : n < N) {e : va_E} {locs1 : List Loc} {H1 : Heap} (h1 : va_P G vwCl ((wl (N, ad, g)).set n (ad n, e)) H1) (h2 : va_D A ((wl (N, ad, g)).set n (ad n, e))) (h3 : va_S A H0 H1 locs1) : Wd G A H0 (N, ad, va_up g n e) H1 locs1 := by
  rw [wl_set hn] at h1 h2
  exact ⟨h1, h2, h3⟩
/-- putfield -/
theorem w_put (X : Cx G cy p s m args c cc nL own A H0) (hW : Wd G A H0 (N, ad, g) H locs) {ci : Nat} {C : String} {T : u_T} {NN : Nat} {ty0 : Nat → FieldType} (KC : CO ci C T NN ty0) (hn : n < N) {fs : List Value} (hg : g n = .inr (ci, fs)) (k : Nat) (hk : k < NN) {index : Nat} (hlink : Cond.fieldLink own index (T k).1 (T k).2.1 (T k).2.2.1 ∈ tg) (hfin : (T k).2.2.2 = false) {v : Value} (hnr : narrow (ty0 k) v = v) (hfit : fits (ty0 k) v = true) (hl : k < fs.length) (hdg : decode cc pc = .ok (.putfield index, 3))
    (kk : ∀ (H1 : Heap) (locs1 : List Loc), Wd G A H0 (N, ad, va_up g n (.inr (ci, fs.set k v))) H1 locs1 → W p l e R s m args below meth c H1 locs1 cells slots Q (F0 m (pc + 3) ls rest)) : W p l e R s m args below meth c H locs cells slots Q (F0 m pc ls (v :: .ref (ad n) :: rest)) :=
  va_put X.hx X.hb X.1.2.2.2.2 KC.2.1 ty0 KC.2.2.1 KC.2.2.2 X.1.2.2.2.1 X.2.1 hW.1 hW.2.1 hW.2.2 n (wl_at' (w := (N, ad, g)) hn hg) KC.1 k hk (X.ht hlink) (fun _ h9 => h9) hfin (KC.2.2.1 k hk) hnr hfit hl hdg (fun H1 locs1 h1 h2 h3 => kk H1 locs1 (Wd.set hn h1 h2 h3))
theorem w_putN (X : Cx G cy p s m args c cc nL own A H0) (hW : Wd G A H0 (N, ad, g) H locs) {ci : Nat} {C : String} {T : u_T} {NN : Nat} {ty0 : Nat → FieldType} (KC : CO ci C T NN ty0) (hn : n < N) {fs : List Value} (hg : g n = .inr (ci, fs)) (k : Nat) (hk : k < NN) {index : Nat} {host : String} (hlink : ((own, index, (T k).1, (T k).2.1, (T k).2.2.1, host) : nfT) ∈ nfl) (hfin : (T k).2.2.2 = false) {v : Value} (hnr : narrow (ty0 k) v = v) (hfit : fits (ty0 k) v = true) (hl : k < fs.length) (hdg : decode cc pc = .ok (.putfield index, 3))
    (kk : ∀ (H1 : Heap) (locs1 : List Loc), Wd G A H0 (N, ad, va_up g n (.inr (ci, fs.set k v))) H1 locs1 → W p l e R s m args below meth c H1 locs1 cells slots Q (F0 m (pc + 3) ls rest)) : W p l e R s m args below meth c H locs cells slots Q (F0 m pc ls (v :: .ref (ad n) :: rest)) :=
  va_putN (host := host) X.hx X.hb X.1.2.2.2.2 KC.2.1 ty0 KC.2.2.1 KC.2.2.2 X.1.2.2.2.1 X.2.1 hW.1 hW.2.1 hW.2.2 n (wl_at' (w := (N, ad, g)) hn hg) KC.1 k hk (va_Nw.use rfl (X.2.2.1.1.2 _ hlink)) (fun _ h9 => h9) hfin (KC.2.2.1 k hk) hnr hfit hl hdg (fun H1 locs1 h1 h2 h3 => kk H1 locs1 (Wd.set hn h1 h2 h3))
theorem w_putF (X : Cx G cy p s m args c cc nL own A H0) (hW : Wd G A H0 (N, ad, g) H locs) {ci : Nat} {C : String} {T : u_T} {NN : Nat} {ty0 : Nat → FieldType} (KC : CO ci C T NN ty0) (hn : n < N) {fs : List Value} (hg : g n = .inr (ci, fs)) (k : Nat) (hk : k < NN) {index : Nat} (hlink : Cond.fieldLink own index (T k).1 (T k).2.1 (T k).2.2.1 ∈ tg) (hfin : (T k).2.2.2 = true) (hin2 : meth.name = "<init>") (hdecl : (T k).1 = own) {v : Value} (hnr : narrow (ty0 k) v = v) (hfit : fits (ty0 k) v = true) (hl : k < fs.length) (hdg : decode cc pc = .ok (.putfield index, 3))
    (kk : ∀ (H1 : Heap) (locs1 : List Loc), Wd G A H0 (N, ad, va_up g n (.inr (ci, fs.set k v))) H1 locs1 → W p l e R s m args below meth c H1 locs1 cells slots Q (F0 m (pc + 3) ls rest)) : W p l e R s m args below meth c H locs cells slots Q (F0 m pc ls (v :: .ref (ad n) :: rest)) :=
  va_putF X.hx X.hb X.1.2.2.2.2 KC.2.1 ty0 KC.2.2.1 KC.2.2.2 X.1.2.2.2.1 X.2.1 hW.1 hW.2.1 hW.2.2 n (wl_at' (w := (N, ad, g)) hn hg) KC.1 k hk (X.ht hlink) (fun _ h9 => h9) hfin hin2 hdecl (KC.2.2.1 k hk) hnr hfit hl hdg (fun H1 locs1 h1 h2 h3 => kk H1 locs1 (Wd.set hn h1 h2 h3))
theorem vin {i : Int32} {j len : Nat} (hi : i = nI j) (hj : j < len) (hL : len ≤ 4096) : vp_in i len ∧ i.toNatClampNeg = j := by
  subst hi
  exact ⟨vp_in_nI hj (by omega), nI_clamp (by omega)⟩
/-- iaload at place j -/
theorem w_ild (X : Cx G cy p s m args c cc nL own A H0) (hW : Wd G A H0 (N, ad, g) H locs) (hn : n < N) {len : Nat} {f : Nat → Int32} (hg : g n = .inl (cy 0, len, .inl f)) (j : Nat) {i : Int32} (hi : i = nI j) (hj : j < len) (hL : len ≤ 4096) (hdg : decode cc pc = .ok (.iaload, 1))
    (kk : W p l e R s m args below meth c H locs cells slots Q (F0 m (pc + 1) ls (.int (f j) :: rest))) : W p l e R s m args below meth c H locs cells slots Q (F0 m pc ls (.int i :: .ref (ad n) :: rest)) := by
  obtain ⟨h1, h2⟩ := vin hi hj hL
  refine va_iald X.hx X.hb X.2.1 hW.1 n 0 (wl_at' (w := (N, ad, g)) hn hg) rfl h1 hdg ?_
  rw [h2]
  exact kk
theorem w_zld (X : Cx G cy p s m args c cc nL own A H0) (hW : Wd G A H0 (N, ad, g) H locs) (hn : n < N) {len : Nat} {f : Nat → Int32} (hg : g n = .inl (cy 1, len, .inl f)) (j : Nat) {i : Int32} (hi : i = nI j) (hj : j < len) (hL : len ≤ 4096) (hdg : decode cc pc = .ok (.baload, 1))
    (kk : W p l e R s m args below meth c H locs cells slots Q (F0 m (pc + 1) ls (.int (f j) :: rest))) : W p l e R s m args below meth c H locs cells slots Q (F0 m pc ls (.int i :: .ref (ad n) :: rest)) := by
  obtain ⟨h1, h2⟩ := vin hi hj hL
  refine va_zald X.hx X.hb X.2.1 hW.1 n 1 (wl_at' (w := (N, ad, g)) hn hg) rfl h1 hdg ?_
  rw [h2]
  exact kk
theorem w_ald (X : Cx G cy p s m args c cc nL own A H0) (hW : Wd G A H0 (N, ad, g) H locs) (hn : n < N) {len t : Nat} {f : Nat → Option Nat} {C : String} (ht : (tyl cy)[t]? = some (cy t, .object C)) (hg : g n = .inl (cy t, len, .inr (.inr (.inr (.inr f))))) (j : Nat) {i : Int32} (hi : i = nI j) (hj : j < len) (hL : len ≤ 4096) (hdg : decode cc pc = .ok (.aaload, 1))
    (kk : W p l e R s m args below meth c H locs cells slots Q (F0 m (pc + 1) ls (va_rf (f j) :: rest))) : W p l e R s m args below meth c H locs cells slots Q (F0 m pc ls (.int i :: .ref (ad n) :: rest)) := by
  obtain ⟨h1, h2⟩ := vin hi hj hL
  refine va_aldq X.hx X.hb X.2.1 hW.1 n t (wl_at' (w := (N, ad, g)) hn hg) ht h1 hdg ?_
  rw [h2]
  exact kk
theorem w_ist (X : Cx G cy p s m args c cc nL own A H0) (hW : Wd G A H0 (N, ad, g) H locs) (hn : n < N) {len : Nat} {f : Nat → Int32} (hg : g n = .inl (cy 0, len, .inl f)) (j : Nat) {i x : Int32} (hi : i = nI j) (hj : j < len) (hL : len ≤ 4096) (hdg : decode cc pc = .ok (.iastore, 1))
    (kk : ∀ (H1 : Heap) (locs1 : List Loc), Wd G A H0 (N, ad, va_up g n (.inl (cy 0, len, .inl (upd f j x)))) H1 locs1 → W p l e R s m args below meth c H1 locs1 cells slots Q (F0 m (pc + 1) ls rest)) : W p l e R s m args below meth c H locs cells slots Q (F0 m pc ls (.int x :: .int i :: .ref (ad n) :: rest)) := by
  obtain ⟨h1, h2⟩ := vin hi hj hL
  refine va_iast X.hx X.hb X.2.1 hW.1 hW.2.1 hW.2.2 n 0 (wl_at' (w := (N, ad, g)) hn hg) rfl h1 hdg (fun H1 locs1 q1 q2 q3 => ?_)
  rw [h2] at q1 q2
  exact kk H1 locs1 (Wd.set hn q1 q2 q3)
theorem w_zst (X : Cx G cy p s m args c cc nL own A H0) (hW : Wd G A H0 (N, ad, g) H locs) (hn : n < N) {len : Nat} {f : Nat → Int32} (hg : g n = .inl (cy 1, len, .inl f)) (j : Nat) {i x : Int32} (hi : i = nI j) (hj : j < len) (hL : len ≤ 4096) (hx01 : x = 0 ∨ x = 1) (hdg : decode cc pc = .ok (.bastore, 1))
    (kk : ∀ (H1 : Heap) (locs1 : List Loc), Wd G A H0 (N, ad, va_up g n (.inl (cy 1, len, .inl (upd f j x)))) H1 locs1 → W p l e R s m args below meth c H1 locs1 cells slots Q (F0 m (pc + 1) ls rest)) : W p l e R s m args below meth c H locs cells slots Q (F0 m pc ls (.int x :: .int i :: .ref (ad n) :: rest)) := by
  obtain ⟨h1, h2⟩ := vin hi hj hL
  have h3 : vp_nar .boolean x = x := by rcases hx01 with rfl | rfl <;> decide
  refine va_zast X.hx X.hb X.2.1 hW.1 hW.2.1 hW.2.2 n 1 (wl_at' (w := (N, ad, g)) hn hg) rfl h1 hdg (fun H1 locs1 q1 q2 q3 => ?_)
  rw [h2, h3] at q1 q2
  exact kk H1 locs1 (Wd.set hn q1 q2 q3)
theorem w_ast (X : Cx G cy p s m args c cc nL own A H0) (hW : Wd G A H0 (N, ad, g) H locs) (hn : n < N) {len t ci v : Nat} {f : Nat → Option Nat} {q : vw_C} {vs : List Value} (ht : (tyl cy)[t]? = some (cy t, .object q.1)) (hg : g n = .inl (cy t, len, .inr (.inr (.inr (.inr f))))) (hvn : v < N) (hv : g v = .inr (ci, vs)) (hc : vwCl[ci]? = some q) (j : Nat) {i : Int32} (hi : i = nI j) (hj : j < len) (hL : len ≤ 4096) (hdg : decode cc pc = .ok (.aastore, 1))
    (kk : ∀ (H1 : Heap) (locs1 : List Loc), Wd G A H0 (N, ad, va_up g n (.inl (cy t, len, .inr (.inr (.inr (.inr (va_up f j (some (ad v))))))))) H1 locs1 → W p l e R s m args below meth c H1 locs1 cells slots Q (F0 m (pc + 1) ls rest)) : W p l e R s m args below meth c H locs cells slots Q (F0 m pc ls (.ref (ad v) :: .int i :: .ref (ad n) :: rest)) := by
  obtain ⟨h1, h2⟩ := vin hi hj hL
  refine va_astq X.hx X.hb X.2.1 hW.1 hW.2.1 hW.2.2 n t v ci (wl_at' (w := (N, ad, g)) hn hg) ht (wl_at' (w := (N, ad, g)) hvn hv) hc h1 hdg (fun H1 locs1 q1 q2 q3 => ?_)
  rw [h2] at q1 q2
  exact kk H1 locs1 (Wd.set hn q1 q2 q3)
/-- new -/
theorem w_new (X : Cx G cy p s m args c cc nL own A H0) (hW : Wd G A H0 (N, ad, g) H locs) {ci : Nat} {C : String} {T : u_T} {NN : Nat} {ty0 : Nat → FieldType} (KC : CO ci C T NN ty0) {index : Nat} (hcl : Cond.classLink own index C ∈ tg) (hinst : Cond.instantiable C NN ∈ tg) (hini : Cond.initialized C ∈ tg) {fs : List Value} (hfs : ∀ j, j < NN → defaultValue (ty0 j) = vp_V fs j) (hcells : cells + 1 ≤ R.cells) (hslots : slots + NN ≤ R.slots) (hdg : decode cc pc = .ok (.new index, 3))
    (kk : ∀ (q : Nat) (H1 : Heap), Wd G A H0 (N + 1, va_up ad N q, va_up g N (.inr (ci, fs))) H1 locs → W p l e R s m args below meth c H1 locs (cells + 1) (slots + NN) Q (F0 m (pc + 3) ls (.ref q :: rest))) : W p l e R s m args below meth c H locs cells slots Q (F0 m pc ls rest) :=
  va_new X.hx X.hb X.1.2.2.2.2 KC.2.1 ty0 KC.2.2.1 X.1.2.2.2.1 (X.ht hcl) (X.ht hinst) (X.ht hini) X.2.1 hW.1 hW.2.1 hW.2.2 X.2.2.2 KC.1 hfs hcells hslots hdg (fun q H1 h1 h2 h3 => kk q H1 ⟨by rw [← wl_push]; exact h1, by rw [← wl_push]; exact h2, h3⟩)
theorem cy_eq {ty : FieldType} {cA cB : ClassId} {tys : List (ClassId × FieldType)} (hK : va_K G vwCl tys s) {i j : Nat} (hi : tys[i]? = some (cA, ty)) (hj : tys[j]? = some (cB, ty)) : cA = cB := by
  have h1 := (hK.2 i _ hi).2
  have h2 := (hK.2 j _ hj).2
  cases ty <;> first | exact Option.some.inj (h1.symm.trans h2) | (obtain ⟨_, _, _, _, _, a⟩ := h1; obtain ⟨_, _, _, _, _, b⟩ := h2; exact Option.some.inj (a.symm.trans b))
theorem w_newi (X : Cx G cy p s m args c cc nL own A H0) (hW : Wd G A H0 (N, ad, g) H locs) {k : Int32} {len : Nat} (hn : ¬ k < 0) (hN : k.toNatClampNeg = len) (hL : len ≤ 4096) (hcells : cells + 1 ≤ R.cells) (hslots : slots + len ≤ R.slots) (hdg : decode cc pc = .ok (.newarray .int, 2))
    (kk : ∀ (q : Nat) (H1 : Heap), Wd G A H0 (N + 1, va_up ad N q, va_up g N (.inl (cy 0, len, .inl (fun _ => 0)))) H1 locs → W p l e R s m args below meth c H1 locs (cells + 1) (slots + len) Q (F0 m (pc + 2) ls (.ref q :: rest))) : W p l e R s m args below meth c H locs cells slots Q (F0 m pc ls (.int k :: rest)) := by
  refine va_newa (atype := .int) (ty := .int) (a0 := (len, .inl (fun _ => 0))) X.hx X.hb (X.ht ac_int) rfl X.2.1 hW.1 hW.2.1 hW.2.2 X.2.2.2 (fun cA => rfl) hn hN (by show len * 4 ≤ _; omega) hcells hslots hdg (fun q cA H1 hK h1 h2 h3 => ?_)
  have hcA : cA = cy 0 := cy_eq hK (i := 4) (j := 0) rfl rfl
  subst hcA
  exact kk q H1 ⟨by rw [← wl_push]; exact h1, by rw [← wl_push]; exact h2, h3⟩
theorem w_newz (X : Cx G cy p s m args c cc nL own A H0) (hW : Wd G A H0 (N, ad, g) H locs) {k : Int32} {len : Nat} (hn : ¬ k < 0) (hN : k.toNatClampNeg = len) (hL : len ≤ 4096) (hcells : cells + 1 ≤ R.cells) (hslots : slots + len ≤ R.slots) (hdg : decode cc pc = .ok (.newarray .boolean, 2))
    (kk : ∀ (q : Nat) (H1 : Heap), Wd G A H0 (N + 1, va_up ad N q, va_up g N (.inl (cy 1, len, .inl (fun _ => 0)))) H1 locs → W p l e R s m args below meth c H1 locs (cells + 1) (slots + len) Q (F0 m (pc + 2) ls (.ref q :: rest))) : W p l e R s m args below meth c H locs cells slots Q (F0 m pc ls (.int k :: rest)) := by
  refine va_newa (atype := .boolean) (ty := .boolean) (a0 := (len, .inl (fun _ => 0))) X.hx X.hb (X.ht ac_boolean) rfl X.2.1 hW.1 hW.2.1 hW.2.2 X.2.2.2 (fun cA => rfl) hn hN (by show len * 1 ≤ _; omega) hcells hslots hdg (fun q cA H1 hK h1 h2 h3 => ?_)
  have hcA : cA = cy 1 := cy_eq hK (i := 4) (j := 1) rfl rfl
  subst hcA
  exact kk q H1 ⟨by rw [← wl_push]; exact h1, by rw [← wl_push]; exact h2, h3⟩
theorem w_newq (X : Cx G cy p s m args c cc nL own A H0) (hW : Wd G A H0 (N, ad, g) H locs) {k : Int32} {len t index : Nat} {C : String} (ht : (tyl cy)[t]? = some (cy t, .object C)) (hcl : Cond.classLink own index C ∈ tg) (hao : va_AO C s) (hn : ¬ k < 0) (hN : k.toNatClampNeg = len) (hL : len ≤ 4096) (hcells : cells + 1 ≤ R.cells) (hslots : slots + len ≤ R.slots) (hdg : decode cc pc = .ok (.anewarray index, 3))
    (kk : ∀ (q : Nat) (H1 : Heap), Wd G A H0 (N + 1, va_up ad N q, va_up g N (.inl (cy t, len, .inr (.inr (.inr (.inr (fun _ => none))))))) H1 locs → W p l e R s m args below meth c H1 locs (cells + 1) (slots + len) Q (F0 m (pc + 3) ls (.ref q :: rest))) : W p l e R s m args below meth c H locs cells slots Q (F0 m pc ls (.int k :: rest)) := by
  refine va_newq X.hx X.hb X.1.2.2.2.1 (X.ht hcl) hao X.2.1 hW.1 hW.2.1 hW.2.2 X.2.2.2 hn hN (by omega) hcells hslots hdg (fun q cA H1 hK h1 h2 h3 => ?_)
  have hlt : t < 4 := (List.getElem?_eq_some_iff.mp ht).1
  have hcA : cA = cy t := cy_eq hK (i := 4) (j := t) rfl (by rw [List.getElem?_append_left hlt]; exact ht)
  subst hcA
  exact kk q H1 ⟨by rw [← wl_push]; exact h1, by rw [← wl_push]; exact h2, h3⟩
end WR
/-! contracts -/
def Pre0 (G : va_G) (cy : Nat → ClassId) (w : WT) (sz : Nat) (U : State) : Prop := U.heap.size = sz ∧ va_P G vwCl (wl w) U.heap ∧ va_K G vwCl (tyl cy) U ∧ va_D (fun _ => True) (wl w) ∧ NX U
def Pst (G : va_G) (cy : Nat → ClassId) (w : WT) (sz : Nat) (u : WT) (t : State) : Prop := va_P G vwCl (wl u) t.heap ∧ va_K G vwCl (tyl cy) t ∧ va_D (va_A (wl w) sz) (wl u)
def MI (l : Launch) (G : va_G) (cy : Nat → ClassId) (w : WT) (y : MethodName) (cc : ByteArray) (nL : Nat) (ret : Option FieldType) (rm : Room) (As : List Value) (post : Int32 → WT → Prop) : Prop :=
  ∀ sz : Nat, Met l y (.code y cc nL ret :: tg) rm (va_Pc As (Pre0 G cy w sz)) (va_Qi post (Pst G cy w sz) (va_A (wl w) sz)) rm.cells rm.slots (va_A (wl w) sz)
def MV (l : Launch) (G : va_G) (cy : Nat → ClassId) (w : WT) (y : MethodName) (cc : ByteArray) (nL : Nat) (ret : Option FieldType) (rm : Room) (As : List Value) (post : WT → Prop) : Prop :=
  ∀ sz : Nat, Met l y (.code y cc nL ret :: tg) rm (va_Pc As (Pre0 G cy w sz)) (va_Qv post (Pst G cy w sz) (va_A (wl w) sz)) rm.cells rm.slots (va_A (wl w) sz)
def MR (l : Launch) (G : va_G) (cy : Nat → ClassId) (w : WT) (y : MethodName) (cc : ByteArray) (nL : Nat) (ret : Option FieldType) (rm : Room) (As : List Value) (post : Option Nat → WT → Prop) : Prop :=
  ∀ sz : Nat, Met l y (.code y cc nL ret :: tg) rm (va_Pc As (Pre0 G cy w sz)) (va_Qq post (Pst G cy w sz) (va_A (wl w) sz)) rm.cells rm.slots (va_A (wl w) sz)
/-- a post that speaks of a world with the same cells -/
def nA {α : Type} (N : Nat) (ad : Nat → Nat) (P : α → (Nat → va_E) → Prop) : α → WT → Prop := fun r u => u.1 = N ∧ u.2.1 = ad ∧ P r u.2.2
def nV (N : Nat) (ad : Nat → Nat) (P : (Nat → va_E) → Prop) : WT → Prop := fun u => u.1 = N ∧ u.2.1 = ad ∧ P u.2.2
abbrev rmN (d : Nat) : Room := { frames := d, cells := 0, slots := 0, locals := 30 * d }
abbrev rmA (d k n : Nat) : Room := { frames := d, cells := k, slots := n, locals := 30 * d }
theorem blind {G : va_G} {cy : Nat → ClassId} {w : WT} {sz : Nat} {As : List Value} : FrameBlind (va_Pc As (Pre0 G cy w sz)) := fun a U g mk q => by
  obtain ⟨q0, q1, qP, qK, qD, qN⟩ := q
  exact ⟨q0, q1, qP, va_K.moved (u := U) (U := U.calling g mk a) (Vm.Alike.refl U.vm) qK, qD, ⟨qN.1.same (U := U.calling g mk a) rfl, qN.2.1.moved (U := U.calling g mk a) (Vm.Alike.refl U.vm), qN.2.2.moved (U := U.calling g mk a) (Vm.Alike.refl U.vm)⟩⟩
section WC
variable {p : Program} {l : Launch} {e : Env} {R : Room} {s : State} {m : MethodId} {args : Array Value} {below : List Frame} {meth : Method} {c : Code} {H : Heap} {locs : List Loc} {cells slots : Nat} {Q : State → Prop}
variable {cc : ByteArray} {pc : Nat} {ls : Array Slot} {rest st0 : List Value} {G : va_G} {cy : Nat → ClassId} {A : Nat → Prop} {H0 : Heap} {nL : Nat} {own : String} {w : WT} {n : Nat}
variable {y : MethodName} {cc' : ByteArray} {nL' idx : Nat} {ret : Option FieldType} {rm : Room} {As : List Value}
theorem pre_of (X : Cx G cy p s m args c cc nL own A H0) (hW : Wd G A H0 w H locs) {U : State} (hU : U.heap = H) (hwm : s.WarmedH U.vm) : Pre0 G cy w H.size U :=
  ⟨by rw [hU], by rw [hU]; exact hW.1, X.2.1.moved hwm.alike, hW.2.1.weaken (fun _ _ _ _ => trivial), X.2.2.1.warm hwm⟩
theorem free_of (X : Cx G cy p s m args c cc nL own A H0) (hW : Wd G A H0 w H locs) : ∀ q, va_A (wl w) H.size q → A q := by
  intro q h
  rcases h with ⟨k, e, hk⟩ | h
  · exact hW.2.1.2 k _ hk
  · exact X.2.2.2 q (Nat.le_trans hW.2.2.1 h)
theorem wd_of (X : Cx G cy p s m args c cc nL own A H0) (hW : Wd G A H0 w H locs) {u : WT} {t : State} {H1 : Heap} {locs1 : List Loc} (ht : t.heap = H1) (hB : Pst G cy w H.size u t) (hS : va_S A H0 H1 locs1) : Wd G A H0 u H1 locs1 := by
  obtain ⟨h1, -, h3⟩ := hB
  rw [ht] at h1
  exact ⟨h1, h3.weaken (fun k q _ h => free_of X hW q.1 h), hS⟩
/-- what the tables say of a method that is called on an object -/
def MthV (y : MethodName) (cc : ByteArray) (nL : Nat) (ret : Option FieldType) (k : Nat) : Prop := Cond.instanceMethod y ∈ tg ∧ Cond.selects y.cls y y ∈ tg ∧ Cond.initialized y.cls ∈ tg ∧ Cond.code y cc nL ret ∈ tg ∧ y.cls ≠ "java/lang/invoke/MethodHandle" ∧ y.cls ≠ "java/lang/invoke/VarHandle" ∧ (parseMethodDescriptor y.desc).map (fun d => d.parameters.length) = some k
def MthS (y : MethodName) (cc : ByteArray) (nL : Nat) (ret : Option FieldType) (k : Nat) : Prop := Cond.static y ∈ tg ∧ Cond.initialized y.cls ∈ tg ∧ Cond.code y cc nL ret ∈ tg ∧ y.cls ≠ "java/lang/invoke/MethodHandle" ∧ y.cls ≠ "java/lang/invoke/VarHandle" ∧ (parseMethodDescriptor y.desc).map (fun d => d.parameters.length) = some k
def MthI (y : MethodName) (cc : ByteArray) (nL : Nat) (k : Nat) : Prop := Cond.instanceMethod y ∈ tg ∧ Cond.initialized y.cls ∈ tg ∧ Cond.code y cc nL none ∈ tg ∧ y.cls ≠ "java/lang/invoke/MethodHandle" ∧ y.cls ≠ "java/lang/invoke/VarHandle" ∧ y.name = "<init>" ∧ (parseMethodDescriptor y.desc).map (fun d => d.parameters.length) = some k
theorem gw (h : Cond.code y cc' nL' ret ∈ tg) : GoodIn tg (.code y cc' nL' ret :: tg) := fun w hw => by
  rcases List.mem_cons.mp hw with rfl | hw
  · exact tg_good _ h
  · exact tg_good _ hw
theorem runV (X : Cx G cy p s m args c cc nL own A H0) (hW : Wd G A H0 w H locs) {Qc : Array Value → State → Outcome → State → Prop} {free : Addr → Prop} (hM : Met l y (.code y cc' nL' ret :: tg) rm (va_Pc (.ref (w.2.1 n) :: As) (Pre0 G cy w H.size)) Qc rm.cells rm.slots free) (hn : n < w.1) {ci : Nat} {fs : List Value} (hg : w.2.2 n = .inr (ci, fs)) {q : vw_C} (hc : vwCl[ci]? = some q) (hq : q.1 = y.cls) (hl : Cond.methodLink own idx y ∈ tg) (hm : MthV y cc' nL' ret As.length)
    (hR : rm.frames + 1 ≤ R.frames ∧ 8 + (nL' + 11) + rm.locals ≤ R.locals) (hls : ls.size = nL) (hst : st0 = As.reverse ++ .ref (w.2.1 n) :: rest) (hcat : (rest.map fun v => v.category).sum ≤ 8) (hdg : decode cc pc = .ok (.invokevirtual idx, 3)) (hf : cells + rm.cells ≤ R.cells ∧ slots + rm.slots ≤ R.slots) :
    va_Run p l e R s m args below meth c H locs cells slots rm.cells rm.slots (F0 m pc ls st0) rest (Qc (Value.ref (w.2.1 n) :: As).toArray) free := by
  obtain ⟨m1, m2, m3, m4, m5, m6, m7⟩ := hm
  refine va_runV (C := y.cls) (n := As.length) (bytes := cc') (maxL := nL') (ret := ret) (index := idx) X.1 hM ⟨callB_of As.length X.1.2.2.2.2 (gw m4) rfl rfl rfl (X.ht m3) (X.ht hl) ⟨m5, m6, m7⟩ hR, X.ht m1, X.ht m2⟩ ⟨blind, ?_, fun U hU hwm => ⟨rfl, pre_of X hW hU hwm⟩⟩ rfl rfl hls hst (lv_room hcat) hdg hf
  obtain ⟨cell, c1, c2, c3⟩ := va_recv X.2.1 hW.1 hc (wl_at' hn hg)
  exact ⟨cell, c1, c2, by rw [← hq]; exact c3⟩
theorem w_cVi (X : Cx G cy p s m args c cc nL own A H0) (hW : Wd G A H0 w H locs) {post : Int32 → WT → Prop} (hM : MI l G cy w y cc' nL' ret rm (.ref (w.2.1 n) :: As) post) (hn : n < w.1) {ci : Nat} {fs : List Value} (hg : w.2.2 n = .inr (ci, fs)) {q : vw_C} (hc : vwCl[ci]? = some q) (hq : q.1 = y.cls) (hl : Cond.methodLink own idx y ∈ tg) (hm : MthV y cc' nL' ret As.length)
    (hR : rm.frames + 1 ≤ R.frames ∧ 8 + (nL' + 11) + rm.locals ≤ R.locals) (hls : ls.size = nL) (hst : st0 = As.reverse ++ .ref (w.2.1 n) :: rest) (hcat : (rest.map fun v => v.category).sum ≤ 8) (hdg : decode cc pc = .ok (.invokevirtual idx, 3)) (hf : cells + rm.cells ≤ R.cells ∧ slots + rm.slots ≤ R.slots)
    (kk : ∀ (r : Int32) (u : WT) (H1 : Heap) (locs1 : List Loc), post r u → Wd G A H0 u H1 locs1 → W p l e R s m args below meth c H1 locs1 (cells + rm.cells) (slots + rm.slots) Q (F0 m (pc + 3) ls (.int r :: rest))) : W p l e R s m args below meth c H locs cells slots Q (F0 m pc ls st0) :=
  va_calli (runV X hW (hM H.size) hn hg hc hq hl hm hR hls hst hcat hdg hf) hW.2.2 (fun q _ h => free_of X hW q h) (free_of X hW) (fun r u t H1 locs1 ht hvm hw hB hz1 hk1 hS => kk r u H1 locs1 hw (wd_of X hW ht hB hS))
theorem w_cVv (X : Cx G cy p s m args c cc nL own A H0) (hW : Wd G A H0 w H locs) {post : WT → Prop} (hM : MV l G cy w y cc' nL' ret rm (.ref (w.2.1 n) :: As) post) (hn : n < w.1) {ci : Nat} {fs : List Value} (hg : w.2.2 n = .inr (ci, fs)) {q : vw_C} (hc : vwCl[ci]? = some q) (hq : q.1 = y.cls) (hl : Cond.methodLink own idx y ∈ tg) (hm : MthV y cc' nL' ret As.length)
    (hR : rm.frames + 1 ≤ R.frames ∧ 8 + (nL' + 11) + rm.locals ≤ R.locals) (hls : ls.size = nL) (hst : st0 = As.reverse ++ .ref (w.2.1 n) :: rest) (hcat : (rest.map fun v => v.category).sum ≤ 8) (hdg : decode cc pc = .ok (.invokevirtual idx, 3)) (hf : cells + rm.cells ≤ R.cells ∧ slots + rm.slots ≤ R.slots)
    (kk : ∀ (u : WT) (H1 : Heap) (locs1 : List Loc), post u → Wd G A H0 u H1 locs1 → W p l e R s m args below meth c H1 locs1 (cells + rm.cells) (slots + rm.slots) Q (F0 m (pc + 3) ls rest)) : W p l e R s m args below meth c H locs cells slots Q (F0 m pc ls st0) :=
  va_callv (runV X hW (hM H.size) hn hg hc hq hl hm hR hls hst hcat hdg hf) hW.2.2 (fun q _ h => free_of X hW q h) (free_of X hW) (fun u t H1 locs1 ht hvm hw hB hz1 hk1 hS => kk u H1 locs1 hw (wd_of X hW ht hB hS))
theorem w_cVr (X : Cx G cy p s m args c cc nL own A H0) (hW : Wd G A H0 w H locs) {post : Option Nat → WT → Prop} (hM : MR l G cy w y cc' nL' ret rm (.ref (w.2.1 n) :: As) post) (hn : n < w.1) {ci : Nat} {fs : List Value} (hg : w.2.2 n = .inr (ci, fs)) {q : vw_C} (hc : vwCl[ci]? = some q) (hq : q.1 = y.cls) (hl : Cond.methodLink own idx y ∈ tg) (hm : MthV y cc' nL' ret As.length)
    (hR : rm.frames + 1 ≤ R.frames ∧ 8 + (nL' + 11) + rm.locals ≤ R.locals) (hls : ls.size = nL) (hst : st0 = As.reverse ++ .ref (w.2.1 n) :: rest) (hcat : (rest.map fun v => v.category).sum ≤ 8) (hdg : decode cc pc = .ok (.invokevirtual idx, 3)) (hf : cells + rm.cells ≤ R.cells ∧ slots + rm.slots ≤ R.slots)
    (kk : ∀ (r : Option Nat) (u : WT) (H1 : Heap) (locs1 : List Loc), post r u → Wd G A H0 u H1 locs1 → W p l e R s m args below meth c H1 locs1 (cells + rm.cells) (slots + rm.slots) Q (F0 m (pc + 3) ls (va_rf r :: rest))) : W p l e R s m args below meth c H locs cells slots Q (F0 m pc ls st0) :=
  va_callq (runV X hW (hM H.size) hn hg hc hq hl hm hR hls hst hcat hdg hf) hW.2.2 (fun q _ h => free_of X hW q h) (free_of X hW) (fun r u t H1 locs1 ht hvm hw hB hz1 hk1 hS => kk r u H1 locs1 hw (wd_of X hW ht hB hS))
/-- a static method of the class itself, or a public one of another -/
theorem w_cSi (X : Cx G cy p s m args c cc nL own A H0) (hW : Wd G A H0 w H locs) {post : Int32 → WT → Prop} (hM : MI l G cy w y cc' nL' ret rm As post) (hl : Cond.methodLink own idx y ∈ tg) (hm : MthS y cc' nL' ret As.length)
    (hR : rm.frames + 1 ≤ R.frames ∧ 8 + (nL' + 11) + rm.locals ≤ R.locals) (hls : ls.size = nL) (hst : st0 = As.reverse ++ rest) (hcat : (rest.map fun v => v.category).sum ≤ 8) (hdg : decode cc pc = .ok (.invokestatic idx, 3)) (hf : cells + rm.cells ≤ R.cells ∧ slots + rm.slots ≤ R.slots)
    (kk : ∀ (r : Int32) (u : WT) (H1 : Heap) (locs1 : List Loc), post r u → Wd G A H0 u H1 locs1 → W p l e R s m args below meth c H1 locs1 (cells + rm.cells) (slots + rm.slots) Q (F0 m (pc + 3) ls (.int r :: rest))) : W p l e R s m args below meth c H locs cells slots Q (F0 m pc ls st0) := by
  obtain ⟨m1, m3, m4, m5, m6, m7⟩ := hm
  exact va_calli (va_runS (n := As.length) (bytes := cc') (maxL := nL') (ret := ret) (index := idx) X.1 (hM H.size) ⟨callB_of As.length X.1.2.2.2.2 (gw m4) rfl rfl rfl (X.ht m3) (X.ht hl) ⟨m5, m6, m7⟩ hR, X.ht m1⟩ ⟨blind, fun U hU hwm => ⟨rfl, pre_of X hW hU hwm⟩⟩ rfl rfl hls hst (lv_room hcat) hdg hf) hW.2.2 (fun q _ h => free_of X hW q h) (free_of X hW) (fun r u t H1 locs1 ht hvm hw hB hz1 hk1 hS => kk r u H1 locs1 hw (wd_of X hW ht hB hS))
/-- a private static method of a nest mate -/
theorem w_cNi (X : Cx G cy p s m args c cc nL own A H0) (hW : Wd G A H0 w H locs) {post : Int32 → WT → Prop} (hM : MI l G cy w y cc' nL' ret rm As post) {host : String} (hl : ((own, idx, y, host) : nmT) ∈ nml) (hm : MthS y cc' nL' ret As.length)
    (hR : rm.frames + 1 ≤ R.frames ∧ 8 + (nL' + 11) + rm.locals ≤ R.locals) (hls : ls.size = nL) (hst : st0 = As.reverse ++ rest) (hcat : (rest.map fun v => v.category).sum ≤ 8) (hdg : decode cc pc = .ok (.invokestatic idx, 3)) (hf : cells + rm.cells ≤ R.cells ∧ slots + rm.slots ≤ R.slots)
    (kk : ∀ (r : Int32) (u : WT) (H1 : Heap) (locs1 : List Loc), post r u → Wd G A H0 u H1 locs1 → W p l e R s m args below meth c H1 locs1 (cells + rm.cells) (slots + rm.slots) Q (F0 m (pc + 3) ls (.int r :: rest))) : W p l e R s m args below meth c H locs cells slots Q (F0 m pc ls st0) := by
  obtain ⟨m1, m3, m4, m5, m6, m7⟩ := hm
  exact va_calli (va_runSN (host := host) (n := As.length) (bytes := cc') (maxL := nL') (ret := ret) (index := idx) X.1 (hM H.size) ⟨va_cnB As.length X.1.2.2.2.2 (gw m4) rfl rfl rfl (X.2.2.1.1.1 _ hl) (X.ht m3) ⟨m5, m6, m7⟩ hR, X.ht m1, trivial⟩ ⟨blind, fun U hU hwm => ⟨rfl, pre_of X hW hU hwm⟩⟩ rfl rfl hls hst (lv_room hcat) hdg hf) hW.2.2 (fun q _ h => free_of X hW q h) (free_of X hW) (fun r u t H1 locs1 ht hvm hw hB hz1 hk1 hS => kk r u H1 locs1 hw (wd_of X hW ht hB hS))
/-- a constructor -/
theorem w_cIv (X : Cx G cy p s m args c cc nL own A H0) (hW : Wd G A H0 w H locs) {post : WT → Prop} {b : Nat} (hM : MV l G cy w y cc' nL' none rm (.ref b :: As) post) (hl : Cond.methodLink own idx y ∈ tg) (hm : MthI y cc' nL' As.length)
    (hR : rm.frames + 1 ≤ R.frames ∧ 8 + (nL' + 11) + rm.locals ≤ R.locals) (hls : ls.size = nL) (hst : st0 = As.reverse ++ .ref b :: rest) (hcat : (rest.map fun v => v.category).sum ≤ 8) (hdg : decode cc pc = .ok (.invokespecial idx, 3)) (hf : cells + rm.cells ≤ R.cells ∧ slots + rm.slots ≤ R.slots)
    (kk : ∀ (u : WT) (H1 : Heap) (locs1 : List Loc), post u → Wd G A H0 u H1 locs1 → W p l e R s m args below meth c H1 locs1 (cells + rm.cells) (slots + rm.slots) Q (F0 m (pc + 3) ls rest)) : W p l e R s m args below meth c H locs cells slots Q (F0 m pc ls st0) := by
  obtain ⟨m1, m3, m4, m5, m6, m8, m7⟩ := hm
  exact va_callv (va_runI (n := As.length) (bytes := cc') (maxL := nL') (index := idx) X.1 (hM H.size) ⟨callB_of As.length X.1.2.2.2.2 (gw m4) rfl rfl rfl (X.ht m3) (X.ht hl) ⟨m5, m6, m7⟩ hR, m8, X.ht m1⟩ ⟨blind, fun U hU hwm => ⟨rfl, pre_of X hW hU hwm⟩⟩ rfl rfl hls hst (lv_room hcat) hdg hf) hW.2.2 (fun q _ h => free_of X hW q h) (free_of X hW) (fun u t H1 locs1 ht hvm hw hB hz1 hk1 hS => kk u H1 locs1 hw (wd_of X hW ht hB hS))
/-- a private constructor of a nest mate -/
theorem w_cINv (X : Cx G cy p s m args c cc nL own A H0) (hW : Wd G A H0 w H locs) {post : WT → Prop} {b : Nat} (hM : MV l G cy w y cc' nL' none rm (.ref b :: As) post) {host : String} (hl : ((own, idx, y, host) : nmT) ∈ nml) (hm : MthI y cc' nL' As.length)
    (hR : rm.frames + 1 ≤ R.frames ∧ 8 + (nL' + 11) + rm.locals ≤ R.locals) (hls : ls.size = nL) (hst : st0 = As.reverse ++ .ref b :: rest) (hcat : (rest.map fun v => v.category).sum ≤ 8) (hdg : decode cc pc = .ok (.invokespecial idx, 3)) (hf : cells + rm.cells ≤ R.cells ∧ slots + rm.slots ≤ R.slots)
    (kk : ∀ (u : WT) (H1 : Heap) (locs1 : List Loc), post u → Wd G A H0 u H1 locs1 → W p l e R s m args below meth c H1 locs1 (cells + rm.cells) (slots + rm.slots) Q (F0 m (pc + 3) ls rest)) : W p l e R s m args below meth c H locs cells slots Q (F0 m pc ls st0) := by
  obtain ⟨m1, m3, m4, m5, m6, m8, m7⟩ := hm
  exact va_callv (va_runIN (host := host) (n := As.length) (bytes := cc') (maxL := nL') (index := idx) X.1 (hM H.size) ⟨va_cnB As.length X.1.2.2.2.2 (gw m4) rfl rfl rfl (X.2.2.1.1.1 _ hl) (X.ht m3) ⟨m5, m6, m7⟩ hR, m8, X.ht m1⟩ ⟨blind, fun U hU hwm => ⟨rfl, pre_of X hW hU hwm⟩⟩ rfl rfl hls hst (lv_room hcat) hdg hf) hW.2.2 (fun q _ h => free_of X hW q h) (free_of X hW) (fun u t H1 locs1 ht hvm hw hB hz1 hk1 hS => kk u H1 locs1 hw (wd_of X hW ht hB hS))
end WC
/-! a contract out of a walk: the return is a hypothesis of the walk -/
theorem MI.mk {l : Launch} {G : va_G} {cy : Nat → ClassId} {w : WT} {y : MethodName} {cc : ByteArray} {nL : Nat} {ty : FieldType} {rm : Room} {As : List Value} {post : Int32 → WT → Prop} (hy : plainName y.cls = true) (hty : ∀ r u, post r u → narrow ty (.int r) = .int r) (hlen : (lg_sl As).length ≤ nL)
    (body : ∀ (p : Program) (e : Env) (s : State) (m : MethodId) (below : List Frame) (meth : Method) (c : Code) (A : Nat → Prop) (Q : State → Prop), Cx G cy p s m As.toArray c cc nL y.cls A s.heap → Wd G A s.heap w s.heap [] →
      (∀ (v : Int32) (u : WT) (H : Heap) (locs : List Loc) (pc : Nat) (ls : Array Slot), decode cc pc = .ok (.ireturn, 1) → Wd G A s.heap u H locs → post v u → W p l e rm s m As.toArray below meth c H locs rm.cells rm.slots Q (F0 m pc ls [.int v])) →
      ∀ (ls : Array Slot), lv_has ls nL (lv_args 0 As) → W p l e rm s m As.toArray below meth c s.heap [] 0 0 Q (F0 m 0 ls [])) : MI l G cy w y cc nL (some ty) rm As post := by
  intro sz
  refine Met.ofW (cc := cc) (maxL := nL) (ret := some ty) hy rfl ?_
  intro p e s m args below meth c s₁ B hml hv
  obtain ⟨rfl, hsz, hP, hK, hD0, hN⟩ := hv
  have hr := B.returns
  have hts := atoms_spec B.pre
  have hown : s.vm.findClass y.cls = some m.cls := findClass_of_methodNamed B.named
  have hlocks := B.notSynchronized
  subst hsz
  have hD := hD0.self (sz := s.heap.size)
  have X : Cx G cy p s m As.toArray c cc nL y.cls (va_A (wl w) s.heap.size) s.heap := ⟨⟨B.exec, B.bytes, hml, hown, fun w h => hts w (List.mem_cons_of_mem _ h)⟩, hK, hN, fun q h => Or.inr h⟩
  rw [lg_entry_eq]
  refine body p e s m below meth c _ _ X ⟨hP, hD, va_S.rf⟩ ?_ _ (lv_entry As hlen)
  intro v u H locs pc ls hdg hW hp
  exact W.zret B.exec B.bytes hr (hty v u hp) (fun t ht hwm => ⟨⟨v, u, rfl, hp, by rw [ht]; exact hW.1, hK.moved hwm.alike, hW.2.1⟩, hW.2.2.F ht⟩) hW.2.2.2.2 hdg hlocks
theorem MV.mk {l : Launch} {G : va_G} {cy : Nat → ClassId} {w : WT} {y : MethodName} {cc : ByteArray} {nL : Nat} {rm : Room} {As : List Value} {post : WT → Prop} (hy : plainName y.cls = true) (hlen : (lg_sl As).length ≤ nL)
    (body : ∀ (p : Program) (e : Env) (s : State) (m : MethodId) (below : List Frame) (meth : Method) (c : Code) (A : Nat → Prop) (Q : State → Prop), meth.name = y.name → Cx G cy p s m As.toArray c cc nL y.cls A s.heap → Wd G A s.heap w s.heap [] →
      (∀ (u : WT) (H : Heap) (locs : List Loc) (pc : Nat) (ls : Array Slot), decode cc pc = .ok (.return_, 1) → Wd G A s.heap u H locs → post u → W p l e rm s m As.toArray below meth c H locs rm.cells rm.slots Q (F0 m pc ls [])) →
      ∀ (ls : Array Slot), lv_has ls nL (lv_args 0 As) → W p l e rm s m As.toArray below meth c s.heap [] 0 0 Q (F0 m 0 ls [])) : MV l G cy w y cc nL none rm As post := by
  intro sz
  refine Met.ofW (cc := cc) (maxL := nL) (ret := none) hy rfl ?_
  intro p e s m args below meth c s₁ B hml hv
  obtain ⟨rfl, hsz, hP, hK, hD0, hN⟩ := hv
  have hr := B.returns
  have hts := atoms_spec B.pre
  have hown : s.vm.findClass y.cls = some m.cls := findClass_of_methodNamed B.named
  have hlocks := B.notSynchronized
  have hin : meth.name = y.name := (name_of_methodNamed B.named B.method).1
  subst hsz
  have hD := hD0.self (sz := s.heap.size)
  have X : Cx G cy p s m As.toArray c cc nL y.cls (va_A (wl w) s.heap.size) s.heap := ⟨⟨B.exec, B.bytes, hml, hown, fun w h => hts w (List.mem_cons_of_mem _ h)⟩, hK, hN, fun q h => Or.inr h⟩
  rw [lg_entry_eq]
  refine body p e s m below meth c _ _ hin X ⟨hP, hD, va_S.rf⟩ ?_ _ (lv_entry As hlen)
  intro u H locs pc ls hdg hW hp
  exact W.vret B.exec B.bytes hr (fun t ht hwm => ⟨⟨u, rfl, hp, by rw [ht]; exact hW.1, hK.moved hwm.alike, hW.2.1⟩, hW.2.2.F ht⟩) hW.2.2.2.2 hdg hlocks
theorem MR.mk {l : Launch} {G : va_G} {cy : Nat → ClassId} {w : WT} {y : MethodName} {cc : ByteArray} {nL : Nat} {C : String} {rm : Room} {As : List Value} {post : Option Nat → WT → Prop} (hy : plainName y.cls = true) (hlen : (lg_sl As).length ≤ nL)
    (body : ∀ (p : Program) (e : Env) (s : State) (m : MethodId) (below : List Frame) (meth : Method) (c : Code) (A : Nat → Prop) (Q : State → Prop), Cx G cy p s m As.toArray c cc nL y.cls A s.heap → Wd G A s.heap w s.heap [] →
      (∀ (v : Option Nat) (u : WT) (H : Heap) (locs : List Loc) (pc : Nat) (ls : Array Slot), decode cc pc = .ok (.areturn, 1) → Wd G A s.heap u H locs → post v u → W p l e rm s m As.toArray below meth c H locs rm.cells rm.slots Q (F0 m pc ls [va_rf v])) →
      ∀ (ls : Array Slot), lv_has ls nL (lv_args 0 As) → W p l e rm s m As.toArray below meth c s.heap [] 0 0 Q (F0 m 0 ls [])) : MR l G cy w y cc nL (some (.object C)) rm As post := by
  intro sz
  refine Met.ofW (cc := cc) (maxL := nL) (ret := some (.object C)) hy rfl ?_
  intro p e s m args below meth c s₁ B hml hv
  obtain ⟨rfl, hsz, hP, hK, hD0, hN⟩ := hv
  have hr := B.returns
  have hts := atoms_spec B.pre
  have hown : s.vm.findClass y.cls = some m.cls := findClass_of_methodNamed B.named
  have hlocks := B.notSynchronized
  subst hsz
  have hD := hD0.self (sz := s.heap.size)
  have X : Cx G cy p s m As.toArray c cc nL y.cls (va_A (wl w) s.heap.size) s.heap := ⟨⟨B.exec, B.bytes, hml, hown, fun w h => hts w (List.mem_cons_of_mem _ h)⟩, hK, hN, fun q h => Or.inr h⟩
  rw [lg_entry_eq]
  refine body p e s m below meth c _ _ X ⟨hP, hD, va_S.rf⟩ ?_ _ (lv_entry As hlen)
  intro v u H locs pc ls hdg hW hp
  exact W.aret B.exec B.bytes hr (Or.inl ⟨_, rfl⟩) (by cases v with | none => exact Or.inl rfl | some a => exact Or.inr ⟨a, rfl⟩) (fun t ht hwm => ⟨⟨v, u, rfl, hp, by rw [ht]; exact hW.1, hK.moved hwm.alike, hW.2.1⟩, hW.2.2.F ht⟩) hW.2.2.2.2 hdg hlocks
end
section
theorem mf_X0_init : MthI yX0_init cX0_init 4 3 := ⟨im_yX0_init, ini_X0, co_yX0_init, by decide, by decide, rfl, by decide +kernel⟩
theorem mf_X0_canBe : MthS yX0_canBe cX0_canBe 3 (some .boolean) 3 := ⟨st_yX0_canBe, ini_X0, co_yX0_canBe, by decide, by decide, by decide +kernel⟩
theorem mf_X0_isCondition : MthS yX0_isCondition cX0_isCondition 1 (some .boolean) 1 := ⟨st_yX0_isCondition, ini_X0, co_yX0_isCondition, by decide, by decide, by decide +kernel⟩
theorem mf_X0_isEffect : MthS yX0_isEffect cX0_isEffect 1 (some .boolean) 1 := ⟨st_yX0_isEffect, ini_X0, co_yX0_isEffect, by decide, by decide, by decide +kernel⟩
theorem mf_X0_holds : MthV yX0_holds cX0_holds 3 (some .boolean) 1 := ⟨im_yX0_holds, se_yX0_holds, ini_X0, co_yX0_holds, by decide, by decide, by decide +kernel⟩
theorem mf_X0_stateBehind : MthV yX0_stateBehind cX0_stateBehind 4 (some .int) 2 := ⟨im_yX0_stateBehind, se_yX0_stateBehind, ini_X0, co_yX0_stateBehind, by decide, by decide, by decide +kernel⟩
theorem mf_X0_resultIn : MthV yX0_resultIn cX0_resultIn 2 (some .int) 1 := ⟨im_yX0_resultIn, se_yX0_resultIn, ini_X0, co_yX0_resultIn, by decide, by decide, by decide +kernel⟩
theorem mf_X1_init : MthI yX1_init cX1_init 1 0 := ⟨im_yX1_init, ini_X1, co_yX1_init, by decide, by decide, rfl, by decide +kernel⟩
theorem mf_X1_size : MthV yX1_size cX1_size 1 (some .int) 0 := ⟨im_yX1_size, se_yX1_size, ini_X1, co_yX1_size, by decide, by decide, by decide +kernel⟩
theorem mf_X1_add : MthV yX1_add cX1_add 4 (some .int) 2 := ⟨im_yX1_add, se_yX1_add, ini_X1, co_yX1_add, by decide, by decide, by decide +kernel⟩
theorem mf_X1_clear : MthV yX1_clear cX1_clear 2 (some .int) 0 := ⟨im_yX1_clear, se_yX1_clear, ini_X1, co_yX1_clear, by decide, by decide, by decide +kernel⟩
theorem mf_X1_tell : MthV yX1_tell cX1_tell 3 (some .int) 2 := ⟨im_yX1_tell, se_yX1_tell, ini_X1, co_yX1_tell, by decide, by decide, by decide +kernel⟩
theorem mf_X2_init : MthI yX2_init cX2_init 1 0 := ⟨im_yX2_init, ini_X2, co_yX2_init, by decide, by decide, rfl, by decide +kernel⟩
theorem mf_X2_hasRoom : MthV yX2_hasRoom cX2_hasRoom 2 (some .boolean) 1 := ⟨im_yX2_hasRoom, se_yX2_hasRoom, ini_X2, co_yX2_hasRoom, by decide, by decide, by decide +kernel⟩
theorem mf_X2_has : MthV yX2_has cX2_has 2 (some .boolean) 1 := ⟨im_yX2_has, se_yX2_has, ini_X2, co_yX2_has, by decide, by decide, by decide +kernel⟩
theorem mf_X2_add : MthV yX2_add cX2_add 3 (some .int) 2 := ⟨im_yX2_add, se_yX2_add, ini_X2, co_yX2_add, by decide, by decide, by decide +kernel⟩
theorem mf_X2_put : MthV yX2_put cX2_put 3 none 2 := ⟨im_yX2_put, se_yX2_put, ini_X2, co_yX2_put, by decide, by decide, by decide +kernel⟩
theorem mf_X2_allBits : MthV yX2_allBits cX2_allBits 3 (some .int) 0 := ⟨im_yX2_allBits, se_yX2_allBits, ini_X2, co_yX2_allBits, by decide, by decide, by decide +kernel⟩
theorem mf_X2_takenBy : MthV yX2_takenBy cX2_takenBy 6 (some .int) 2 := ⟨im_yX2_takenBy, se_yX2_takenBy, ini_X2, co_yX2_takenBy, by decide, by decide, by decide +kernel⟩
theorem mf_X2_stateBehind : MthV yX2_stateBehind cX2_stateBehind 4 (some .int) 3 := ⟨im_yX2_stateBehind, se_yX2_stateBehind, ini_X2, co_yX2_stateBehind, by decide, by decide, by decide +kernel⟩
theorem mf_X2_resultOf : MthV yX2_resultOf cX2_resultOf 3 (some .int) 2 := ⟨im_yX2_resultOf, se_yX2_resultOf, ini_X2, co_yX2_resultOf, by decide, by decide, by decide +kernel⟩
theorem mf_X3_init : MthI yX3_init cX3_init 1 0 := ⟨im_yX3_init, ini_X3, co_yX3_init, by decide, by decide, rfl, by decide +kernel⟩
theorem mf_X3_settle : MthV yX3_settle cX3_settle 2 none 1 := ⟨im_yX3_settle, se_yX3_settle, ini_X3, co_yX3_settle, by decide, by decide, by decide +kernel⟩
theorem mf_X4_init : MthI yX4_init cX4_init 2 1 := ⟨im_yX4_init, ini_X4, co_yX4_init, by decide, by decide, rfl, by decide +kernel⟩
theorem mf_X4_play : MthV yX4_play cX4_play 5 none 1 := ⟨im_yX4_play, se_yX4_play, ini_X4, co_yX4_play, by decide, by decide, by decide +kernel⟩
theorem mf_X4_meets : MthV yX4_meets cX4_meets 2 (some .int) 1 := ⟨im_yX4_meets, se_yX4_meets, ini_X4, co_yX4_meets, by decide, by decide, by decide +kernel⟩
theorem mf_X4_met : MthV yX4_met cX4_met 1 (some .int) 0 := ⟨im_yX4_met, se_yX4_met, ini_X4, co_yX4_met, by decide, by decide, by decide +kernel⟩
theorem mf_X4_lastTaken : MthV yX4_lastTaken cX4_lastTaken 1 (some .int) 0 := ⟨im_yX4_lastTaken, se_yX4_lastTaken, ini_X4, co_yX4_lastTaken, by decide, by decide, by decide +kernel⟩
theorem mf_X4_lastResult : MthV yX4_lastResult cX4_lastResult 1 (some .int) 0 := ⟨im_yX4_lastResult, se_yX4_lastResult, ini_X4, co_yX4_lastResult, by decide, by decide, by decide +kernel⟩
theorem mf_X4_resultAt : MthV yX4_resultAt cX4_resultAt 2 (some .int) 1 := ⟨im_yX4_resultAt, se_yX4_resultAt, ini_X4, co_yX4_resultAt, by decide, by decide, by decide +kernel⟩
theorem mf_X4_firstDifference : MthV yX4_firstDifference cX4_firstDifference 3 (some .int) 1 := ⟨im_yX4_firstDifference, se_yX4_firstDifference, ini_X4, co_yX4_firstDifference, by decide, by decide, by decide +kernel⟩
theorem mf_X4_differences : MthV yX4_differences cX4_differences 4 (some .int) 1 := ⟨im_yX4_differences, se_yX4_differences, ini_X4, co_yX4_differences, by decide, by decide, by decide +kernel⟩
theorem mf_X5_init : MthI yX5_init cX5_init 1 0 := ⟨im_yX5_init, ini_X5, co_yX5_init, by decide, by decide, rfl, by decide +kernel⟩
theorem mf_X5_size : MthV yX5_size cX5_size 1 (some .int) 0 := ⟨im_yX5_size, se_yX5_size, ini_X5, co_yX5_size, by decide, by decide, by decide +kernel⟩
theorem mf_X5_callAt : MthV yX5_callAt cX5_callAt 2 (some .int) 1 := ⟨im_yX5_callAt, se_yX5_callAt, ini_X5, co_yX5_callAt, by decide, by decide, by decide +kernel⟩
theorem mf_X5_resultAt : MthV yX5_resultAt cX5_resultAt 2 (some .int) 1 := ⟨im_yX5_resultAt, se_yX5_resultAt, ini_X5, co_yX5_resultAt, by decide, by decide, by decide +kernel⟩
theorem mf_X5_add : MthV yX5_add cX5_add 3 none 2 := ⟨im_yX5_add, se_yX5_add, ini_X5, co_yX5_add, by decide, by decide, by decide +kernel⟩
theorem mf_X5_move : MthV yX5_move cX5_move 3 none 2 := ⟨im_yX5_move, se_yX5_move, ini_X5, co_yX5_move, by decide, by decide, by decide +kernel⟩
theorem mf_X5_cutTo : MthV yX5_cutTo cX5_cutTo 2 none 1 := ⟨im_yX5_cutTo, se_yX5_cutTo, ini_X5, co_yX5_cutTo, by decide, by decide, by decide +kernel⟩
theorem mf_X5_copyStart : MthV yX5_copyStart cX5_copyStart 4 none 2 := ⟨im_yX5_copyStart, se_yX5_copyStart, ini_X5, co_yX5_copyStart, by decide, by decide, by decide +kernel⟩
theorem mf_X5_takeResults : MthV yX5_takeResults cX5_takeResults 3 none 1 := ⟨im_yX5_takeResults, se_yX5_takeResults, ini_X5, co_yX5_takeResults, by decide, by decide, by decide +kernel⟩
theorem mf_X5_hasCallOf : MthV yX5_hasCallOf cX5_hasCallOf 3 (some .boolean) 1 := ⟨im_yX5_hasCallOf, se_yX5_hasCallOf, ini_X5, co_yX5_hasCallOf, by decide, by decide, by decide +kernel⟩
theorem mf_X5_hasSameCalls : MthV yX5_hasSameCalls cX5_hasSameCalls 3 (some .boolean) 1 := ⟨im_yX5_hasSameCalls, se_yX5_hasSameCalls, ini_X5, co_yX5_hasSameCalls, by decide, by decide, by decide +kernel⟩
theorem mf_X6_init : MthI yX6_init cX6_init 2 1 := ⟨im_yX6_init, ini_X6, co_yX6_init, by decide, by decide, rfl, by decide +kernel⟩
theorem mf_X6_shorten : MthV yX6_shorten cX6_shorten 6 none 3 := ⟨im_yX6_shorten, se_yX6_shorten, ini_X6, co_yX6_shorten, by decide, by decide, by decide +kernel⟩
theorem mf_X6_leaveOut : MthV yX6_leaveOut cX6_leaveOut 7 (some .boolean) 1 := ⟨im_yX6_leaveOut, se_yX6_leaveOut, ini_X6, co_yX6_leaveOut, by decide, by decide, by decide +kernel⟩
theorem mf_X6_endsAlike : MthV yX6_endsAlike cX6_endsAlike 8 (some .boolean) 3 := ⟨im_yX6_endsAlike, se_yX6_endsAlike, ini_X6, co_yX6_endsAlike, by decide, by decide, by decide +kernel⟩
theorem mf_X7_init : MthI yX7_init cX7_init 2 0 := ⟨im_yX7_init, ini_X7, co_yX7_init, by decide, by decide, rfl, by decide +kernel⟩
theorem mf_X7_size : MthV yX7_size cX7_size 1 (some .int) 0 := ⟨im_yX7_size, se_yX7_size, ini_X7, co_yX7_size, by decide, by decide, by decide +kernel⟩
theorem mf_X7_at : MthV yX7_at cX7_at 2 (some (.object "TestsFromUse$MadeTest")) 1 := ⟨im_yX7_at, se_yX7_at, ini_X7, co_yX7_at, by decide, by decide, by decide +kernel⟩
theorem mf_X7_spare : MthV yX7_spare cX7_spare 1 (some (.object "TestsFromUse$MadeTest")) 0 := ⟨im_yX7_spare, se_yX7_spare, ini_X7, co_yX7_spare, by decide, by decide, by decide +kernel⟩
theorem mf_X7_keepSpare : MthV yX7_keepSpare cX7_keepSpare 1 (some .int) 0 := ⟨im_yX7_keepSpare, se_yX7_keepSpare, ini_X7, co_yX7_keepSpare, by decide, by decide, by decide +kernel⟩
theorem mf_X7_remove : MthV yX7_remove cX7_remove 4 (some .boolean) 1 := ⟨im_yX7_remove, se_yX7_remove, ini_X7, co_yX7_remove, by decide, by decide, by decide +kernel⟩
theorem mf_X7_hasLike : MthV yX7_hasLike cX7_hasLike 3 (some .boolean) 1 := ⟨im_yX7_hasLike, se_yX7_hasLike, ini_X7, co_yX7_hasLike, by decide, by decide, by decide +kernel⟩
theorem mf_X7_touchThoseThatMet : MthV yX7_touchThoseThatMet cX7_touchThoseThatMet 3 none 1 := ⟨im_yX7_touchThoseThatMet, se_yX7_touchThoseThatMet, ini_X7, co_yX7_touchThoseThatMet, by decide, by decide, by decide +kernel⟩
theorem mf_X7_touchCallersOf : MthV yX7_touchCallersOf cX7_touchCallersOf 3 none 1 := ⟨im_yX7_touchCallersOf, se_yX7_touchCallersOf, ini_X7, co_yX7_touchCallersOf, by decide, by decide, by decide +kernel⟩
theorem mf_X7_touchedOnes : MthV yX7_touchedOnes cX7_touchedOnes 3 (some .int) 0 := ⟨im_yX7_touchedOnes, se_yX7_touchedOnes, ini_X7, co_yX7_touchedOnes, by decide, by decide, by decide +kernel⟩
theorem mf_X7_brokenOnes : MthV yX7_brokenOnes cX7_brokenOnes 3 (some .int) 0 := ⟨im_yX7_brokenOnes, se_yX7_brokenOnes, ini_X7, co_yX7_brokenOnes, by decide, by decide, by decide +kernel⟩
theorem mf_X7_leastHeap : MthV yX7_leastHeap cX7_leastHeap 5 (some .int) 1 := ⟨im_yX7_leastHeap, se_yX7_leastHeap, ini_X7, co_yX7_leastHeap, by decide, by decide, by decide +kernel⟩
theorem mf_X7_metByHeap : MthV yX7_metByHeap cX7_metByHeap 4 (some .int) 1 := ⟨im_yX7_metByHeap, se_yX7_metByHeap, ini_X7, co_yX7_metByHeap, by decide, by decide, by decide +kernel⟩
theorem mf_X8_init : MthI yX8_init cX8_init 1 0 := ⟨im_yX8_init, ini_X8, co_yX8_init, by decide, by decide, rfl, by decide +kernel⟩
theorem mf_X8_branch : MthV yX8_branch cX8_branch 5 (some .int) 4 := ⟨im_yX8_branch, se_yX8_branch, ini_X8, co_yX8_branch, by decide, by decide, by decide +kernel⟩
theorem mf_X8_change : MthV yX8_change cX8_change 5 (some .boolean) 4 := ⟨im_yX8_change, se_yX8_change, ini_X8, co_yX8_change, by decide, by decide, by decide +kernel⟩
theorem mf_X8_call : MthV yX8_call cX8_call 3 (some .int) 2 := ⟨im_yX8_call, se_yX8_call, ini_X8, co_yX8_call, by decide, by decide, by decide +kernel⟩
theorem mf_X8_fresh : MthV yX8_fresh cX8_fresh 1 (some .int) 0 := ⟨im_yX8_fresh, se_yX8_fresh, ini_X8, co_yX8_fresh, by decide, by decide, by decide +kernel⟩
theorem mf_X8_logged : MthV yX8_logged cX8_logged 3 (some .int) 2 := ⟨im_yX8_logged, se_yX8_logged, ini_X8, co_yX8_logged, by decide, by decide, by decide +kernel⟩
theorem mf_X8_make : MthV yX8_make cX8_make 3 (some .int) 1 := ⟨im_yX8_make, se_yX8_make, ini_X8, co_yX8_make, by decide, by decide, by decide +kernel⟩
theorem mf_X8_drop : MthV yX8_drop cX8_drop 2 (some .boolean) 1 := ⟨im_yX8_drop, se_yX8_drop, ini_X8, co_yX8_drop, by decide, by decide, by decide +kernel⟩
theorem mf_X8_told : MthV yX8_told cX8_told 4 (some .int) 2 := ⟨im_yX8_told, se_yX8_told, ini_X8, co_yX8_told, by decide, by decide, by decide +kernel⟩
theorem mf_X8_row : MthV yX8_row cX8_row 5 (some .int) 3 := ⟨im_yX8_row, se_yX8_row, ini_X8, co_yX8_row, by decide, by decide, by decide +kernel⟩
theorem mf_X8_differs : MthV yX8_differs cX8_differs 3 (some .int) 1 := ⟨im_yX8_differs, se_yX8_differs, ini_X8, co_yX8_differs, by decide, by decide, by decide +kernel⟩
theorem mf_X8_run : MthV yX8_run cX8_run 4 (some .int) 0 := ⟨im_yX8_run, se_yX8_run, ini_X8, co_yX8_run, by decide, by decide, by decide +kernel⟩
theorem mf_X8_accept : MthV yX8_accept cX8_accept 3 (some .boolean) 1 := ⟨im_yX8_accept, se_yX8_accept, ini_X8, co_yX8_accept, by decide, by decide, by decide +kernel⟩
theorem mf_X8_reached : MthV yX8_reached cX8_reached 1 (some .int) 0 := ⟨im_yX8_reached, se_yX8_reached, ini_X8, co_yX8_reached, by decide, by decide, by decide +kernel⟩
theorem mf_X8_never : MthV yX8_never cX8_never 1 (some .int) 0 := ⟨im_yX8_never, se_yX8_never, ini_X8, co_yX8_never, by decide, by decide, by decide +kernel⟩
theorem mf_X8_fewest : MthV yX8_fewest cX8_fewest 1 (some .int) 0 := ⟨im_yX8_fewest, se_yX8_fewest, ini_X8, co_yX8_fewest, by decide, by decide, by decide +kernel⟩
theorem mf_X8_chosen : MthV yX8_chosen cX8_chosen 1 (some .int) 0 := ⟨im_yX8_chosen, se_yX8_chosen, ini_X8, co_yX8_chosen, by decide, by decide, by decide +kernel⟩
theorem mf_X8_register : MthV yX8_register cX8_register 2 (some .int) 1 := ⟨im_yX8_register, se_yX8_register, ini_X8, co_yX8_register, by decide, by decide, by decide +kernel⟩
theorem mf_X8_count : MthV yX8_count cX8_count 2 (some .int) 1 := ⟨im_yX8_count, se_yX8_count, ini_X8, co_yX8_count, by decide, by decide, by decide +kernel⟩
theorem mf_X8_firstDifference : MthV yX8_firstDifference cX8_firstDifference 2 (some .int) 1 := ⟨im_yX8_firstDifference, se_yX8_firstDifference, ini_X8, co_yX8_firstDifference, by decide, by decide, by decide +kernel⟩
theorem mf_X8_resultNow : MthV yX8_resultNow cX8_resultNow 3 (some .int) 2 := ⟨im_yX8_resultNow, se_yX8_resultNow, ini_X8, co_yX8_resultNow, by decide, by decide, by decide +kernel⟩
theorem mf_X8_differencesOfLog : MthV yX8_differencesOfLog cX8_differencesOfLog 1 (some .int) 0 := ⟨im_yX8_differencesOfLog, se_yX8_differencesOfLog, ini_X8, co_yX8_differencesOfLog, by decide, by decide, by decide +kernel⟩
theorem mf_X8_isBelow : MthS yX8_isBelow cX8_isBelow 2 (some .boolean) 2 := ⟨st_yX8_isBelow, ini_X8, co_yX8_isBelow, by decide, by decide, by decide +kernel⟩
theorem mf_X8_callOf : MthS yX8_callOf cX8_callOf 2 (some .int) 2 := ⟨st_yX8_callOf, ini_X8, co_yX8_callOf, by decide, by decide, by decide +kernel⟩
theorem mf_X8_kindOf : MthS yX8_kindOf cX8_kindOf 1 (some .int) 1 := ⟨st_yX8_kindOf, ini_X8, co_yX8_kindOf, by decide, by decide, by decide +kernel⟩
theorem mf_X8_numberOf : MthS yX8_numberOf cX8_numberOf 1 (some .int) 1 := ⟨st_yX8_numberOf, ini_X8, co_yX8_numberOf, by decide, by decide, by decide +kernel⟩
theorem mf_X8_valueIn : MthS yX8_valueIn cX8_valueIn 2 (some .int) 2 := ⟨st_yX8_valueIn, ini_X8, co_yX8_valueIn, by decide, by decide, by decide +kernel⟩
theorem mf_X8_withValue : MthS yX8_withValue cX8_withValue 5 (some .int) 3 := ⟨st_yX8_withValue, ini_X8, co_yX8_withValue, by decide, by decide, by decide +kernel⟩
theorem mf_X9_init : MthI yX9_init cX9_init 1 0 := ⟨im_yX9_init, ini_X9, co_yX9_init, by decide, by decide, rfl, by decide +kernel⟩
theorem mf_X9_in : MthS yX9_in cX9_in 3 (some .boolean) 3 := ⟨st_yX9_in, ini_X9, co_yX9_in, by decide, by decide, by decide +kernel⟩
theorem mf_X9_isKind : MthS yX9_isKind cX9_isKind 1 (some .boolean) 1 := ⟨st_yX9_isKind, ini_X9, co_yX9_isKind, by decide, by decide, by decide +kernel⟩
theorem mf_X9_isBranch : MthS yX9_isBranch cX9_isBranch 3 (some .boolean) 3 := ⟨st_yX9_isBranch, ini_X9, co_yX9_isBranch, by decide, by decide, by decide +kernel⟩
theorem mf_X9_tells : MthV yX9_tells cX9_tells 5 none 4 := ⟨im_yX9_tells, se_yX9_tells, ini_X9, co_yX9_tells, by decide, by decide, by decide +kernel⟩
theorem mf_X9_branch : MthV yX9_branch cX9_branch 8 (some .int) 4 := ⟨im_yX9_branch, se_yX9_branch, ini_X9, co_yX9_branch, by decide, by decide, by decide +kernel⟩
theorem mf_X9_isThere : MthV yX9_isThere cX9_isThere 2 (some .boolean) 1 := ⟨im_yX9_isThere, se_yX9_isThere, ini_X9, co_yX9_isThere, by decide, by decide, by decide +kernel⟩
theorem mf_X9_change : MthV yX9_change cX9_change 6 (some .boolean) 4 := ⟨im_yX9_change, se_yX9_change, ini_X9, co_yX9_change, by decide, by decide, by decide +kernel⟩
theorem mf_X9_begins : MthV yX9_begins cX9_begins 2 none 0 := ⟨im_yX9_begins, se_yX9_begins, ini_X9, co_yX9_begins, by decide, by decide, by decide +kernel⟩
theorem mf_X9_holds : MthV yX9_holds cX9_holds 5 (some .boolean) 1 := ⟨im_yX9_holds, se_yX9_holds, ini_X9, co_yX9_holds, by decide, by decide, by decide +kernel⟩
theorem mf_X9_goes : MthV yX9_goes cX9_goes 5 (some .int) 2 := ⟨im_yX9_goes, se_yX9_goes, ini_X9, co_yX9_goes, by decide, by decide, by decide +kernel⟩
theorem mf_X9_call : MthV yX9_call cX9_call 5 (some .int) 2 := ⟨im_yX9_call, se_yX9_call, ini_X9, co_yX9_call, by decide, by decide, by decide +kernel⟩
theorem mf_X9_fresh : MthV yX9_fresh cX9_fresh 3 (some .int) 0 := ⟨im_yX9_fresh, se_yX9_fresh, ini_X9, co_yX9_fresh, by decide, by decide, by decide +kernel⟩
theorem mf_X9_logged : MthV yX9_logged cX9_logged 3 (some .int) 2 := ⟨im_yX9_logged, se_yX9_logged, ini_X9, co_yX9_logged, by decide, by decide, by decide +kernel⟩
theorem mf_X9_ends : MthV yX9_ends cX9_ends 4 (some .int) 1 := ⟨im_yX9_ends, se_yX9_ends, ini_X9, co_yX9_ends, by decide, by decide, by decide +kernel⟩
theorem mf_X9_shrinks : MthV yX9_shrinks cX9_shrinks 6 none 1 := ⟨im_yX9_shrinks, se_yX9_shrinks, ini_X9, co_yX9_shrinks, by decide, by decide, by decide +kernel⟩
theorem mf_X9_isLike : MthV yX9_isLike cX9_isLike 6 (some .boolean) 2 := ⟨im_yX9_isLike, se_yX9_isLike, ini_X9, co_yX9_isLike, by decide, by decide, by decide +kernel⟩
theorem mf_X9_make : MthV yX9_make cX9_make 4 (some .int) 1 := ⟨im_yX9_make, se_yX9_make, ini_X9, co_yX9_make, by decide, by decide, by decide +kernel⟩
theorem mf_X9_isTest : MthV yX9_isTest cX9_isTest 2 (some .boolean) 1 := ⟨im_yX9_isTest, se_yX9_isTest, ini_X9, co_yX9_isTest, by decide, by decide, by decide +kernel⟩
theorem mf_X9_accept : MthV yX9_accept cX9_accept 3 (some .boolean) 1 := ⟨im_yX9_accept, se_yX9_accept, ini_X9, co_yX9_accept, by decide, by decide, by decide +kernel⟩
theorem mf_X9_drop : MthV yX9_drop cX9_drop 4 (some .boolean) 1 := ⟨im_yX9_drop, se_yX9_drop, ini_X9, co_yX9_drop, by decide, by decide, by decide +kernel⟩
theorem mf_X9_differs : MthV yX9_differs cX9_differs 4 (some .int) 1 := ⟨im_yX9_differs, se_yX9_differs, ini_X9, co_yX9_differs, by decide, by decide, by decide +kernel⟩
theorem mf_X9_meets : MthV yX9_meets cX9_meets 4 (some .int) 1 := ⟨im_yX9_meets, se_yX9_meets, ini_X9, co_yX9_meets, by decide, by decide, by decide +kernel⟩
theorem mf_X9_told : MthV yX9_told cX9_told 3 (some .int) 2 := ⟨im_yX9_told, se_yX9_told, ini_X9, co_yX9_told, by decide, by decide, by decide +kernel⟩
theorem mf_X9_givesNow : MthV yX9_givesNow cX9_givesNow 5 (some .int) 2 := ⟨im_yX9_givesNow, se_yX9_givesNow, ini_X9, co_yX9_givesNow, by decide, by decide, by decide +kernel⟩
theorem mf_X9_row : MthV yX9_row cX9_row 5 (some .int) 3 := ⟨im_yX9_row, se_yX9_row, ini_X9, co_yX9_row, by decide, by decide, by decide +kernel⟩
theorem mf_X9_run : MthV yX9_run cX9_run 3 (some .int) 0 := ⟨im_yX9_run, se_yX9_run, ini_X9, co_yX9_run, by decide, by decide, by decide +kernel⟩
theorem mf_X9_reached : MthV yX9_reached cX9_reached 3 (some .int) 0 := ⟨im_yX9_reached, se_yX9_reached, ini_X9, co_yX9_reached, by decide, by decide, by decide +kernel⟩
theorem mf_X9_never : MthV yX9_never cX9_never 3 (some .int) 0 := ⟨im_yX9_never, se_yX9_never, ini_X9, co_yX9_never, by decide, by decide, by decide +kernel⟩
theorem mf_X9_bits : MthS yX9_bits cX9_bits 3 (some .int) 1 := ⟨st_yX9_bits, ini_X9, co_yX9_bits, by decide, by decide, by decide +kernel⟩
theorem mf_X9_chosen : MthV yX9_chosen cX9_chosen 6 (some .int) 0 := ⟨im_yX9_chosen, se_yX9_chosen, ini_X9, co_yX9_chosen, by decide, by decide, by decide +kernel⟩
theorem mf_X9_fewest : MthV yX9_fewest cX9_fewest 1 (some .int) 0 := ⟨im_yX9_fewest, se_yX9_fewest, ini_X9, co_yX9_fewest, by decide, by decide, by decide +kernel⟩
theorem mf_X9_register : MthV yX9_register cX9_register 2 (some .int) 1 := ⟨im_yX9_register, se_yX9_register, ini_X9, co_yX9_register, by decide, by decide, by decide +kernel⟩
theorem mf_X9_count : MthV yX9_count cX9_count 4 (some .int) 1 := ⟨im_yX9_count, se_yX9_count, ini_X9, co_yX9_count, by decide, by decide, by decide +kernel⟩
theorem mf_J6_bitCount_0f7a4 : MthS yJ6_bitCount_0f7a4 cJ6_bitCount_0f7a4 1 (some .int) 1 := ⟨st_yJ6_bitCount_0f7a4, ini_J6, co_yJ6_bitCount_0f7a4, by decide, by decide, by decide +kernel⟩
/-! readers and movers: contracts over a world whose cells stay the same -/
def RI (l : Launch) (G : va_G) (cy : Nat → ClassId) (w : WT) (y : MethodName) (cc : ByteArray) (nL : Nat) (ret : Option FieldType) (rm : Room) (As : List Value) (V : Int32) : Prop := MI l G cy w y cc nL ret rm As (fun r u => r = V ∧ u = w)
section WE
variable {p : Program} {l : Launch} {e : Env} {R : Room} {s : State} {m : MethodId} {args : Array Value} {below : List Frame} {meth : Method} {c : Code} {H : Heap} {locs : List Loc} {cells slots : Nat} {Q : State → Prop}
variable {cc : ByteArray} {pc : Nat} {ls : Array Slot} {rest st0 : List Value} {G : va_G} {cy : Nat → ClassId} {A : Nat → Prop} {H0 : Heap} {nL : Nat} {own : String} {w : WT} {n : Nat}
variable {y : MethodName} {cc' : ByteArray} {nL' idx d : Nat} {ret : Option FieldType} {As : List Value} {N : Nat} {ad : Nat → Nat} {g : Nat → va_E}
/-- a reader called on an object -/
theorem w_rV (X : Cx G cy p s m args c cc nL own A H0) (hW : Wd G A H0 (N, ad, g) H locs) {V : Int32} (hM : RI l G cy (N, ad, g) y cc' nL' ret (rmN d) (.ref (ad n) :: As) V) (hn : n < N) {ci : Nat} {fs : List Value} (hg : g n = .inr (ci, fs)) {q : vw_C} (hc : vwCl[ci]? = some q) (hq : q.1 = y.cls) (hl : Cond.methodLink own idx y ∈ tg) (hm : MthV y cc' nL' ret As.length)
    (hR : d + 1 ≤ R.frames ∧ 8 + (nL' + 11) + 30 * d ≤ R.locals) (hls : ls.size = nL) (hst : st0 = As.reverse ++ .ref (ad n) :: rest) (hcat : (rest.map fun v => v.category).sum ≤ 8) (hf : cells ≤ R.cells ∧ slots ≤ R.slots) (hdg : decode cc pc = .ok (.invokevirtual idx, 3))
    (kk : ∀ (H1 : Heap) (locs1 : List Loc), Wd G A H0 (N, ad, g) H1 locs1 → W p l e R s m args below meth c H1 locs1 cells slots Q (F0 m (pc + 3) ls (.int V :: rest))) : W p l e R s m args below meth c H locs cells slots Q (F0 m pc ls st0) :=
  w_cVi (w := (N, ad, g)) X hW hM hn hg hc hq hl hm hR hls hst hcat hdg hf (fun r u H1 locs1 hp hW1 => by obtain ⟨h1, h2⟩ := hp; rw [h1]; rw [h2] at hW1; exact kk H1 locs1 hW1)
theorem w_rS (X : Cx G cy p s m args c cc nL own A H0) (hW : Wd G A H0 w H locs) {V : Int32} (hM : RI l G cy w y cc' nL' ret (rmN d) As V) (hl : Cond.methodLink own idx y ∈ tg) (hm : MthS y cc' nL' ret As.length)
    (hR : d + 1 ≤ R.frames ∧ 8 + (nL' + 11) + 30 * d ≤ R.locals) (hls : ls.size = nL) (hst : st0 = As.reverse ++ rest) (hcat : (rest.map fun v => v.category).sum ≤ 8) (hf : cells ≤ R.cells ∧ slots ≤ R.slots) (hdg : decode cc pc = .ok (.invokestatic idx, 3))
    (kk : ∀ (H1 : Heap) (locs1 : List Loc), Wd G A H0 w H1 locs1 → W p l e R s m args below meth c H1 locs1 cells slots Q (F0 m (pc + 3) ls (.int V :: rest))) : W p l e R s m args below meth c H locs cells slots Q (F0 m pc ls st0) :=
  w_cSi X hW hM hl hm hR hls hst hcat hdg hf (fun r u H1 locs1 hp hW1 => by obtain ⟨h1, h2⟩ := hp; rw [h1]; rw [h2] at hW1; exact kk H1 locs1 hW1)
theorem w_rN (X : Cx G cy p s m args c cc nL own A H0) (hW : Wd G A H0 w H locs) {V : Int32} (hM : RI l G cy w y cc' nL' ret (rmN d) As V) {host : String} (hl : ((own, idx, y, host) : nmT) ∈ nml) (hm : MthS y cc' nL' ret As.length)
    (hR : d + 1 ≤ R.frames ∧ 8 + (nL' + 11) + 30 * d ≤ R.locals) (hls : ls.size = nL) (hst : st0 = As.reverse ++ rest) (hcat : (rest.map fun v => v.category).sum ≤ 8) (hf : cells ≤ R.cells ∧ slots ≤ R.slots) (hdg : decode cc pc = .ok (.invokestatic idx, 3))
    (kk : ∀ (H1 : Heap) (locs1 : List Loc), Wd G A H0 w H1 locs1 → W p l e R s m args below meth c H1 locs1 cells slots Q (F0 m (pc + 3) ls (.int V :: rest))) : W p l e R s m args below meth c H locs cells slots Q (F0 m pc ls st0) :=
  w_cNi X hW hM hl hm hR hls hst hcat hdg hf (fun r u H1 locs1 hp hW1 => by obtain ⟨h1, h2⟩ := hp; rw [h1]; rw [h2] at hW1; exact kk H1 locs1 hW1)
/-- a mover called on an object, with an answer -/
theorem w_nV (X : Cx G cy p s m args c cc nL own A H0) (hW : Wd G A H0 (N, ad, g) H locs) {P : Int32 → (Nat → va_E) → Prop} (hM : MI l G cy (N, ad, g) y cc' nL' ret (rmN d) (.ref (ad n) :: As) (nA N ad P)) (hn : n < N) {ci : Nat} {fs : List Value} (hg : g n = .inr (ci, fs)) {q : vw_C} (hc : vwCl[ci]? = some q) (hq : q.1 = y.cls) (hl : Cond.methodLink own idx y ∈ tg) (hm : MthV y cc' nL' ret As.length)
    (hR : d + 1 ≤ R.frames ∧ 8 + (nL' + 11) + 30 * d ≤ R.locals) (hls : ls.size = nL) (hst : st0 = As.reverse ++ .ref (ad n) :: rest) (hcat : (rest.map fun v => v.category).sum ≤ 8) (hf : cells ≤ R.cells ∧ slots ≤ R.slots) (hdg : decode cc pc = .ok (.invokevirtual idx, 3))
    (kk : ∀ (r : Int32) (g1 : Nat → va_E) (H1 : Heap) (locs1 : List Loc), P r g1 → Wd G A H0 (N, ad, g1) H1 locs1 → W p l e R s m args below meth c H1 locs1 cells slots Q (F0 m (pc + 3) ls (.int r :: rest))) : W p l e R s m args below meth c H locs cells slots Q (F0 m pc ls st0) :=
  w_cVi (w := (N, ad, g)) X hW hM hn hg hc hq hl hm hR hls hst hcat hdg hf (fun r u H1 locs1 hp hW1 => by obtain ⟨N1, ad1, g1⟩ := u; obtain ⟨h1, h2, h3⟩ := hp; dsimp only at h1 h2 h3; rw [h1, h2] at hW1; exact kk r g1 H1 locs1 h3 hW1)
/-- a mover called on an object, without -/
theorem w_nVv (X : Cx G cy p s m args c cc nL own A H0) (hW : Wd G A H0 (N, ad, g) H locs) {P : (Nat → va_E) → Prop} (hM : MV l G cy (N, ad, g) y cc' nL' ret (rmN d) (.ref (ad n) :: As) (nV N ad P)) (hn : n < N) {ci : Nat} {fs : List Value} (hg : g n = .inr (ci, fs)) {q : vw_C} (hc : vwCl[ci]? = some q) (hq : q.1 = y.cls) (hl : Cond.methodLink own idx y ∈ tg) (hm : MthV y cc' nL' ret As.length)
    (hR : d + 1 ≤ R.frames ∧ 8 + (nL' + 11) + 30 * d ≤ R.locals) (hls : ls.size = nL) (hst : st0 = As.reverse ++ .ref (ad n) :: rest) (hcat : (rest.map fun v => v.category).sum ≤ 8) (hf : cells ≤ R.cells ∧ slots ≤ R.slots) (hdg : decode cc pc = .ok (.invokevirtual idx, 3))
    (kk : ∀ (g1 : Nat → va_E) (H1 : Heap) (locs1 : List Loc), P g1 → Wd G A H0 (N, ad, g1) H1 locs1 → W p l e R s m args below meth c H1 locs1 cells slots Q (F0 m (pc + 3) ls rest)) : W p l e R s m args below meth c H locs cells slots Q (F0 m pc ls st0) :=
  w_cVv (w := (N, ad, g)) X hW hM hn hg hc hq hl hm hR hls hst hcat hdg hf (fun u H1 locs1 hp hW1 => by obtain ⟨N1, ad1, g1⟩ := u; obtain ⟨h1, h2, h3⟩ := hp; dsimp only at h1 h2 h3; rw [h1, h2] at hW1; exact kk g1 H1 locs1 h3 hW1)
/-- a reader that answers with a reference or null -/
theorem w_rVr (X : Cx G cy p s m args c cc nL own A H0) (hW : Wd G A H0 (N, ad, g) H locs) {V : Option Nat} (hM : MR l G cy (N, ad, g) y cc' nL' ret (rmN d) (.ref (ad n) :: As) (fun r u => r = V ∧ u = (N, ad, g))) (hn : n < N) {ci : Nat} {fs : List Value} (hg : g n = .inr (ci, fs)) {q : vw_C} (hc : vwCl[ci]? = some q) (hq : q.1 = y.cls) (hl : Cond.methodLink own idx y ∈ tg) (hm : MthV y cc' nL' ret As.length)
    (hR : d + 1 ≤ R.frames ∧ 8 + (nL' + 11) + 30 * d ≤ R.locals) (hls : ls.size = nL) (hst : st0 = As.reverse ++ .ref (ad n) :: rest) (hcat : (rest.map fun v => v.category).sum ≤ 8) (hf : cells ≤ R.cells ∧ slots ≤ R.slots) (hdg : decode cc pc = .ok (.invokevirtual idx, 3))
    (kk : ∀ (H1 : Heap) (locs1 : List Loc), Wd G A H0 (N, ad, g) H1 locs1 → W p l e R s m args below meth c H1 locs1 cells slots Q (F0 m (pc + 3) ls (va_rf V :: rest))) : W p l e R s m args below meth c H locs cells slots Q (F0 m pc ls st0) :=
  w_cVr (w := (N, ad, g)) X hW hM hn hg hc hq hl hm hR hls hst hcat hdg hf (fun r u H1 locs1 hp hW1 => by obtain ⟨h1, h2⟩ := hp; rw [h1]; rw [h2] at hW1; exact kk H1 locs1 hW1)
end WE
theorem RI.mk {l : Launch} {G : va_G} {cy : Nat → ClassId} {w : WT} {y : MethodName} {cc : ByteArray} {nL : Nat} {ty : FieldType} {rm : Room} {As : List Value} {V : Int32} (hy : plainName y.cls = true) (hty : narrow ty (.int V) = .int V) (hlen : (lg_sl As).length ≤ nL)
    (body : ∀ (p : Program) (e : Env) (s : State) (m : MethodId) (below : List Frame) (meth : Method) (c : Code) (A : Nat → Prop) (Q : State → Prop), Cx G cy p s m As.toArray c cc nL y.cls A s.heap → Wd G A s.heap w s.heap [] →
      (∀ (v : Int32) (H : Heap) (locs : List Loc) (pc : Nat) (ls : Array Slot), decode cc pc = .ok (.ireturn, 1) → Wd G A s.heap w H locs → v = V → W p l e rm s m As.toArray below meth c H locs rm.cells rm.slots Q (F0 m pc ls [.int v])) →
      ∀ (ls : Array Slot), lv_has ls nL (lv_args 0 As) → W p l e rm s m As.toArray below meth c s.heap [] 0 0 Q (F0 m 0 ls [])) : RI l G cy w y cc nL (some ty) rm As V :=
  MI.mk hy (fun r u h => by rw [h.1]; exact hty) hlen (fun p e s m below meth c A Q X hW ret => body p e s m below meth c A Q X hW (fun v H locs pc ls hd hW1 hv => ret v w H locs pc ls hd hW1 ⟨hv, rfl⟩))
theorem NI.mk {l : Launch} {G : va_G} {cy : Nat → ClassId} {N : Nat} {ad : Nat → Nat} {g : Nat → va_E} {y : MethodName} {cc : ByteArray} {nL : Nat} {ty : FieldType} {rm : Room} {As : List Value} {P : Int32 → (Nat → va_E) → Prop} (hy : plainName y.cls = true) (hty : ∀ r g1, P r g1 → narrow ty (.int r) = .int r) (hlen : (lg_sl As).length ≤ nL)
    (body : ∀ (p : Program) (e : Env) (s : State) (m : MethodId) (below : List Frame) (meth : Method) (c : Code) (A : Nat → Prop) (Q : State → Prop), Cx G cy p s m As.toArray c cc nL y.cls A s.heap → Wd G A s.heap (N, ad, g) s.heap [] →
      (∀ (v : Int32) (g1 : Nat → va_E) (H : Heap) (locs : List Loc) (pc : Nat) (ls : Array Slot), decode cc pc = .ok (.ireturn, 1) → Wd G A s.heap (N, ad, g1) H locs → P v g1 → W p l e rm s m As.toArray below meth c H locs rm.cells rm.slots Q (F0 m pc ls [.int v])) →
      ∀ (ls : Array Slot), lv_has ls nL (lv_args 0 As) → W p l e rm s m As.toArray below meth c s.heap [] 0 0 Q (F0 m 0 ls [])) : MI l G cy (N, ad, g) y cc nL (some ty) rm As (nA N ad P) :=
  MI.mk hy (fun r u h => hty r u.2.2 h.2.2) hlen (fun p e s m below meth c A Q X hW ret => body p e s m below meth c A Q X hW (fun v g1 H locs pc ls hd hW1 hv => ret v (N, ad, g1) H locs pc ls hd hW1 ⟨rfl, rfl, hv⟩))
theorem NV.mk {l : Launch} {G : va_G} {cy : Nat → ClassId} {N : Nat} {ad : Nat → Nat} {g : Nat → va_E} {y : MethodName} {cc : ByteArray} {nL : Nat} {rm : Room} {As : List Value} {P : (Nat → va_E) → Prop} (hy : plainName y.cls = true) (hlen : (lg_sl As).length ≤ nL)
    (body : ∀ (p : Program) (e : Env) (s : State) (m : MethodId) (below : List Frame) (meth : Method) (c : Code) (A : Nat → Prop) (Q : State → Prop), Cx G cy p s m As.toArray c cc nL y.cls A s.heap → Wd G A s.heap (N, ad, g) s.heap [] →
      (∀ (g1 : Nat → va_E) (H : Heap) (locs : List Loc) (pc : Nat) (ls : Array Slot), decode cc pc = .ok (.return_, 1) → Wd G A s.heap (N, ad, g1) H locs → P g1 → W p l e rm s m As.toArray below meth c H locs rm.cells rm.slots Q (F0 m pc ls [])) →
      ∀ (ls : Array Slot), lv_has ls nL (lv_args 0 As) → W p l e rm s m As.toArray below meth c s.heap [] 0 0 Q (F0 m 0 ls [])) : MV l G cy (N, ad, g) y cc nL none rm As (nV N ad P) :=
  MV.mk hy hlen (fun p e s m below meth c A Q _ X hW ret => body p e s m below meth c A Q X hW (fun g1 H locs pc ls hd hW1 hv => ret (N, ad, g1) H locs pc ls hd hW1 ⟨rfl, rfl, hv⟩))
theorem RR.mk {l : Launch} {G : va_G} {cy : Nat → ClassId} {w : WT} {y : MethodName} {cc : ByteArray} {nL : Nat} {C : String} {rm : Room} {As : List Value} {V : Option Nat} (hy : plainName y.cls = true) (hlen : (lg_sl As).length ≤ nL)
    (body : ∀ (p : Program) (e : Env) (s : State) (m : MethodId) (below : List Frame) (meth : Method) (c : Code) (A : Nat → Prop) (Q : State → Prop), Cx G cy p s m As.toArray c cc nL y.cls A s.heap → Wd G A s.heap w s.heap [] →
      (∀ (v : Option Nat) (H : Heap) (locs : List Loc) (pc : Nat) (ls : Array Slot), decode cc pc = .ok (.areturn, 1) → Wd G A s.heap w H locs → v = V → W p l e rm s m As.toArray below meth c H locs rm.cells rm.slots Q (F0 m pc ls [va_rf v])) →
      ∀ (ls : Array Slot), lv_has ls nL (lv_args 0 As) → W p l e rm s m As.toArray below meth c s.heap [] 0 0 Q (F0 m 0 ls [])) : MR l G cy w y cc nL (some (.object C)) rm As (fun r u => r = V ∧ u = w) :=
  MR.mk hy hlen (fun p e s m below meth c A Q X hW ret => body p e s m below meth c A Q X hW (fun v H locs pc ls hd hW1 hv => ret v w H locs pc ls hd hW1 ⟨hv, rfl⟩))
/-- a truth as the machine has it -/
def bI (b : Prop) [Decidable b] : Int32 := if b then 1 else 0
theorem bI_t {b : Prop} [Decidable b] (h : b) : bI b = 1 := if_pos h
theorem bI_f {b : Prop} [Decidable b] (h : ¬ b) : bI b = 0 := if_neg h
theorem bI_0 {b : Prop} [Decidable b] : bI b = 0 ↔ ¬ b := by by_cases h : b <;> simp [bI, h]
theorem bI_n0 {b : Prop} [Decidable b] : ¬ bI b = 0 ↔ b := by by_cases h : b <;> simp [bI, h]
theorem bI_1 {b : Prop} [Decidable b] : bI b = 1 ↔ b := by by_cases h : b <;> simp [bI, h]
theorem bI_01 {b : Prop} [Decidable b] : bI b = 0 ∨ bI b = 1 := by by_cases h : b <;> simp [bI, h]
theorem bI_nar {b : Prop} [Decidable b] : narrow .boolean (.int (bI b)) = .int (bI b) := by by_cases h : b <;> simp [bI, h] <;> decide
theorem bI_iff {a b : Prop} [Decidable a] [Decidable b] (h : a ↔ b) : bI a = bI b := by by_cases q : a <;> simp [bI, q, ← h]
end
section
/-! the mathematics that both sides are tied to: a machine (how many branches a kind has; when, then, from of a branch), its state as one number of four nibbles, rows of calls (kind * 16 + number) -/
abbrev M4 : Type := (Nat → Nat) × (Nat → Nat) × (Nat → Nat) × (Nat → Nat)
def nib (st j : Nat) : Nat := st / 16 ^ j % 16
def hold (wb st : Nat) : Bool := if wb / 100 % 10 = 0 then decide (nib st (wb / 1000) < wb % 100) else if wb / 100 % 10 = 1 then decide (nib st (wb / 1000) = wb % 100) else decide (wb % 100 < nib st (wb / 1000))
def fb (P : Nat → Bool) (k : Nat) : Nat → Nat → Option Nat
  | _, 0 => none
  | b, d + 1 => if P (4 * k + b) = true then some (4 * k + b) else fb P k (b + 1) d
def tk (M : M4) (k st : Nat) : Option Nat := fb (fun b => hold (M.2.1 b) st) k 0 (M.1 k)
def setn (st j v : Nat) : Nat := (st &&& (65535 ^^^ (15 * 16 ^ j))) ||| (v * 16 ^ j)
def efn (T st num : Nat) : Nat := T / 1000 % 10 * nib st (T / 10000) + T / 100 % 10 * num + T % 100
def nx (M : M4) (t : Option Nat) (st num : Nat) : Nat := match t with
  | none => st
  | some b => setn st (M.2.2.1 b / 10000) (efn (M.2.2.1 b) st num % 16)
def rs (M : M4) (t : Option Nat) (st : Nat) : Int32 := match t with
  | none => -1
  | some b => nI (nib st (M.2.2.2 b))
def tI (t : Option Nat) : Int32 := match t with
  | none => -1
  | some b => nI b
def stp (M : M4) (call st : Nat) : Nat := nx M (tk M (call / 16) st) st (call % 16)
def stq (M : M4) (c : Nat → Nat) (s0 : Nat) : Nat → Nat
  | 0 => s0
  | k + 1 => stp M (c k) (stq M c s0 k)
def tkq (M : M4) (c : Nat → Nat) (s0 k : Nat) : Option Nat := tk M (c k / 16) (stq M c s0 k)
def rsq (M : M4) (c : Nat → Nat) (s0 k : Nat) : Int32 := rs M (tkq M c s0 k) (stq M c s0 (k + 1))
def btq (t : Option Nat) : Int32 := match t with
  | none => 0
  | some b => (1 : Int32) <<< (nI b &&& 31)
def mtq (M : M4) (c : Nat → Nat) : Nat → Int32
  | 0 => 0
  | k + 1 => mtq M c k ||| btq (tkq M c 0 k)
/-- a machine as the document lets it be -/
abbrev okW (w : Nat) : Prop := w < 4000 ∧ w / 100 % 10 < 3 ∧ w % 100 < 16
abbrev okT (t : Nat) : Prop := t < 40000 ∧ t % 100 < 16
def okM (M : M4) : Prop := (∀ k, k < 6 → M.1 k ≤ 4) ∧ ∀ b, b < 24 → b % 4 < M.1 (b / 4) → okW (M.2.1 b) ∧ okT (M.2.2.1 b) ∧ M.2.2.2 b < 4
theorem fb_some {P : Nat → Bool} {k : Nat} : ∀ {d b x : Nat}, fb P k b d = some x → ∃ i, b ≤ i ∧ i < b + d ∧ x = 4 * k + i ∧ P x = true
  | 0, b, x, h => by simp [fb] at h
  | d + 1, b, x, h => by
    unfold fb at h
    by_cases hp : P (4 * k + b) = true
    · rw [if_pos hp] at h
      cases h
      exact ⟨b, Nat.le_refl _, by omega, rfl, hp⟩
    · rw [if_neg hp] at h
      obtain ⟨i, h1, h2, h3, h4⟩ := fb_some h
      exact ⟨i, by omega, by omega, h3, h4⟩
theorem tk_some {M : M4} (hM : okM M) {k st b : Nat} (hk : k < 6) (h : tk M k st = some b) : b < 24 ∧ b / 4 = k ∧ b % 4 < M.1 (b / 4) := by
  obtain ⟨i, h1, h2, h3, -⟩ := fb_some h
  have h4 := hM.1 k hk
  have h5 : b / 4 = k := by omega
  refine ⟨by omega, h5, ?_⟩
  rw [h5]
  omega
theorem nib_lt (st j : Nat) : nib st j < 16 := Nat.mod_lt _ (by decide)
theorem setn_lt {st j v : Nat} (hj : j < 4) (hv : v < 16) (hs : st < 65536) : setn st j v < 65536 := by
  have h1 : st &&& (65535 ^^^ (15 * 16 ^ j)) < 2 ^ 16 := Nat.lt_of_le_of_lt Nat.and_le_left hs
  have h2 : v * 16 ^ j < 2 ^ 16 := by
    rcases (show j = 0 ∨ j = 1 ∨ j = 2 ∨ j = 3 by omega) with rfl | rfl | rfl | rfl <;> omega
  exact Nat.or_lt_two_pow h1 h2
theorem nib_bit {st j i : Nat} : (nib st j).testBit i = (decide (i < 4) && st.testBit (4 * j + i)) := by
  unfold nib
  rw [show (16 : Nat) = 2 ^ 4 from rfl, ← Nat.pow_mul, Nat.testBit_mod_two_pow, Nat.testBit_div_two_pow, Nat.add_comm]
theorem mask_bit : ∀ j, j < 4 → ∀ i, i < 16 → (65535 ^^^ (15 * 16 ^ j)).testBit i = !(decide (4 * j ≤ i) && decide (i < 4 * j + 4)) := by decide
theorem mul_bit {v j i : Nat} : (v * 16 ^ j).testBit i = (decide (4 * j ≤ i) && v.testBit (i - 4 * j)) := by
  rw [show (16 : Nat) = 2 ^ 4 from rfl, ← Nat.pow_mul, Nat.testBit_mul_two_pow]
theorem nib_set {st j v k : Nat} (hj : j < 4) (hv : v < 16) (hk : k < 4) : nib (setn st j v) k = if k = j then v else nib st k := by
  apply Nat.eq_of_testBit_eq
  intro i
  rw [nib_bit]
  unfold setn
  rw [Nat.testBit_or, Nat.testBit_and, mul_bit]
  by_cases hi : i < 4
  · rw [mask_bit j hj (4 * k + i) (by omega)]
    by_cases hkj : k = j
    · subst hkj
      simp [hi]
    · have h1 : ¬ (4 * j ≤ 4 * k + i ∧ 4 * k + i < 4 * j + 4) := by omega
      have h3 : (decide (4 * j ≤ 4 * k + i) && v.testBit (4 * k + i - 4 * j)) = false := by
        by_cases h4 : 4 * j ≤ 4 * k + i
        · have h5 : v.testBit (4 * k + i - 4 * j) = false := Nat.testBit_lt_two_pow (Nat.lt_of_lt_of_le hv (by
            have : 4 ≤ 4 * k + i - 4 * j := by omega
            exact Nat.pow_le_pow_right (n := 2) (by decide) this))
          simp [h5]
        · simp [h4]
      rw [h3, if_neg hkj, nib_bit]
      have h2 : (decide (4 * j ≤ 4 * k + i) && decide (4 * k + i < 4 * j + 4)) = false := by
        simp only [Bool.and_eq_false_iff, decide_eq_false_iff_not]
        omega
      rw [h2]
      simp
  · have h6 : ∀ x : Nat, x < 16 → x.testBit i = false := fun x hx => Nat.testBit_lt_two_pow (Nat.lt_of_lt_of_le hx (by
      have : 4 ≤ i := by omega
      exact Nat.pow_le_pow_right (n := 2) (by decide) this))
    by_cases hkj : k = j
    · rw [if_pos hkj, h6 v hv]
      simp [hi]
    · rw [if_neg hkj, h6 _ (nib_lt st k)]
      simp [hi]
theorem nx_lt {M : M4} (hM : okM M) {k st num : Nat} (hk : k < 6) (hs : st < 65536) : nx M (tk M k st) st num < 65536 := by
  cases h : tk M k st with
  | none => exact hs
  | some b =>
    obtain ⟨h1, h2, h3⟩ := tk_some hM hk h
    obtain ⟨-, h4, -⟩ := hM.2 b h1 h3
    have h5 : M.2.2.1 b / 10000 < 4 := by have := h4.1; omega
    exact setn_lt h5 (Nat.mod_lt _ (by decide)) hs
/-- a row of calls of kinds and numbers that there are -/
def okC (c : Nat → Nat) (n : Nat) : Prop := ∀ k, k < n → c k < 96
theorem stq_lt {M : M4} (hM : okM M) {c : Nat → Nat} {s0 : Nat} (h0 : s0 < 65536) : ∀ {k : Nat}, okC c k → stq M c s0 k < 65536
  | 0, _ => h0
  | k + 1, hc => nx_lt hM (by have := hc k (by omega); omega) (stq_lt hM h0 (fun i hi => hc i (by omega)))
section TE
variable {p : Program} {l : Launch} {e : Env} {R : Room} {s : State} {m : MethodId} {args : Array Value} {below : List Frame} {meth : Method} {c : Code} {H : Heap} {locs : List Loc} {cells slots : Nat} {Q : State → Prop} {pc : Nat} {ls : Array Slot} {rest : List Value}
theorem top_eq {x y : Int32} (h : x = y) (k : W p l e R s m args below meth c H locs cells slots Q (F0 m pc ls (.int y :: rest))) : W p l e R s m args below meth c H locs cells slots Q (F0 m pc ls (.int x :: rest)) := h ▸ k
theorem top_q {x y : Option Nat} (h : x = y) (k : W p l e R s m args below meth c H locs cells slots Q (F0 m pc ls (va_rf y :: rest))) : W p l e R s m args below meth c H locs cells slots Q (F0 m pc ls (va_rf x :: rest)) := h ▸ k
end TE
theorem sh4 : ∀ j, j < 4 → ((nI j * 4 &&& 31).toBitVec.smod 32).toNat = 4 * j := by decide
theorem val_eq {st j : Nat} (hs : st < 65536) (hj : j < 4) : (nI st >>> ((nI j * 4) &&& 31)) &&& 15 = nI (nib st j) := by
  rw [pk_shrN (by omega) _ (4 * j) (sh4 j hj), pk_andN (by have := Nat.div_le_self st (2 ^ (4 * j)); omega) 4 (by decide)]
  unfold nib
  rw [show (16 : Nat) = 2 ^ 4 from rfl, ← Nat.pow_mul]
theorem nI_and (a b : Nat) : nI a &&& nI b = nI (a &&& b) := by
  apply Int32.toBitVec_inj.mp
  apply BitVec.eq_of_toNat_eq
  simp [nI, Int32.toBitVec_and]
theorem nI_or (a b : Nat) : nI a ||| nI b = nI (a ||| b) := by
  apply Int32.toBitVec_inj.mp
  apply BitVec.eq_of_toNat_eq
  simp [nI, Int32.toBitVec_or]
theorem msk4 : ∀ j, j < 4 → ((15 : Int32) <<< (nI j * 4 &&& 31)) ^^^ (-1) = nI (4294967295 ^^^ (15 * 16 ^ j)) := by decide
theorem and_msk {st j : Nat} (hs : st < 65536) (hj : j < 4) : st &&& (4294967295 ^^^ (15 * 16 ^ j)) = st &&& (65535 ^^^ (15 * 16 ^ j)) := by
  have h : ∀ j, j < 4 → (4294967295 ^^^ (15 * 16 ^ j)) &&& 65535 = (65535 ^^^ (15 * 16 ^ j)) := by decide
  have h2 : st &&& 65535 = st := by
    rw [show (65535 : Nat) = 2 ^ 16 - 1 from rfl, Nat.and_two_pow_sub_one_eq_mod]
    exact Nat.mod_eq_of_lt hs
  rw [← h j hj, Nat.and_comm (4294967295 ^^^ (15 * 16 ^ j)) 65535, ← Nat.and_assoc, h2]
theorem wit_eq {st j v : Nat} (hs : st < 65536) (hj : j < 4) (hv : v < 65536) : (nI st &&& (((15 : Int32) <<< (nI j * 4 &&& 31)) ^^^ (-1))) ||| ((nI v &&& 15) <<< (nI j * 4 &&& 31)) = nI (setn st j (v % 16)) := by
  rw [msk4 j hj, nI_and, and_msk hs hj, pk_andN (by omega) 4 (by decide), pk_shlN _ (4 * j) (sh4 j hj) (by
    have : v % 2 ^ 4 < 16 := Nat.mod_lt _ (by decide)
    rcases (show j = 0 ∨ j = 1 ∨ j = 2 ∨ j = 3 by omega) with rfl | rfl | rfl | rfl <;> omega), nI_or]
  unfold setn
  rw [Nat.pow_mul]
end
section
/-- what is the same in two worlds, but for some cells -/
def Fr (g g' : Nat → va_E) (L : List Nat) : Prop := ∀ k, k ∉ L → g' k = g k
theorem bel_a {v lim : Int32} (h : v < 0) : (0 : Int32) = bI (0 ≤ v ∧ v < lim) := (bI_f (fun q => by
  have := q.1
  rw [Int32.le_iff_toInt_le] at this
  rw [Int32.lt_iff_toInt_lt] at h
  omega)).symm
theorem bel_b {v lim : Int32} (h : lim ≤ v) : (0 : Int32) = bI (0 ≤ v ∧ v < lim) := (bI_f (fun q => by
  have := q.2
  rw [Int32.le_iff_toInt_le] at h
  rw [Int32.lt_iff_toInt_lt] at this
  omega)).symm
theorem bel_c {v lim : Int32} (h0 : ¬ v < 0) (h : ¬ lim ≤ v) : (1 : Int32) = bI (0 ≤ v ∧ v < lim) := (bI_t (by
  constructor
  · rw [Int32.le_iff_toInt_le]
    rw [Int32.lt_iff_toInt_lt] at h0
    omega
  · rw [Int32.lt_iff_toInt_lt]
    rw [Int32.le_iff_toInt_le] at h
    omega)).symm

set_option maxHeartbeats 4000000 in
set_option maxRecDepth 100000 in
theorem c_isBelow {l : Launch} {G : va_G} {cy : Nat → ClassId} {w : WT} {v lim : Int32} : RI l G cy w yX8_isBelow cX8_isBelow 2 (some .boolean) (rmN 0) [.int v, .int lim] (bI (0 ≤ v ∧ v < lim)) := by
  refine RI.mk (by decide) (by first | rfl | exact bI_nar) (Nat.le_of_ble_eq_true rfl) ?_
  intro jp je js jm below meth jc A Q X hW ret ls hl
  have jx := X.hx
  have jb := X.hb
  have hl : lv_has ls 2 [(0, .int v), (1, .int lim)] := hl
  have X : Cx G cy jp js jm _ jc cX8_isBelow 2 RX8 A js.heap := X
  refine lv_iload_n jx jb dX8_isBelow_0 rfl (lv_at hl 0 rfl) ?_
  refine lv_if_lt (tgt := 13) jx jb dX8_isBelow_1 (by decide) (fun c1 => ?_) (fun c1 => ?_)
  · refine lv_iconst (v := 0) jx jb dX8_isBelow_13 (by decide) ?_
    exact ret _ _ _ _ _ dX8_isBelow_14 hW (bel_a c1)
  · refine lv_iload_n jx jb dX8_isBelow_4 rfl (lv_at hl 0 rfl) ?_
    refine lv_iload_n jx jb dX8_isBelow_5 rfl (lv_at hl 1 rfl) ?_
    refine lv_icmp_ge (tgt := 13) jx jb dX8_isBelow_6 (by decide) (fun c6 => ?_) (fun c6 => ?_)
    · refine lv_iconst (v := 0) jx jb dX8_isBelow_13 (by decide) ?_
      exact ret _ _ _ _ _ dX8_isBelow_14 hW (bel_b c6)
    · refine lv_iconst (v := 1) jx jb dX8_isBelow_9 (by decide) ?_
      refine lv_goto (tgt := 14) jx jb dX8_isBelow_10 (by decide) ?_
      exact ret _ _ _ _ _ dX8_isBelow_14 hW (bel_c c1 c6)

set_option maxHeartbeats 4000000 in
set_option maxRecDepth 100000 in
theorem c_callOf {l : Launch} {G : va_G} {cy : Nat → ClassId} {w : WT} {k q : Nat} : RI l G cy w yX8_callOf cX8_callOf 2 (some .int) (rmN 0) [.int (nI k), .int (nI q)] (nI (k * 16 + q)) := by
  refine RI.mk (by decide) (by first | rfl | exact bI_nar) (Nat.le_of_ble_eq_true rfl) ?_
  intro jp je js jm below meth jc A Q X hW ret ls hl
  have jx := X.hx
  have jb := X.hb
  have hl : lv_has ls 2 [(0, .int (nI k)), (1, .int (nI q))] := hl
  have X : Cx G cy jp js jm _ jc cX8_callOf 2 RX8 A js.heap := X
  refine lv_iload_n jx jb dX8_callOf_0 rfl (lv_at hl 0 rfl) ?_
  refine lv_bipush (v := 16) jx jb dX8_callOf_1 (by decide) ?_
  refine lv_imul jx jb dX8_callOf_3 ?_
  refine lv_iload_n jx jb dX8_callOf_4 rfl (lv_at hl 1 rfl) ?_
  refine lv_iadd jx jb dX8_callOf_5 ?_
  exact ret _ _ _ _ _ dX8_callOf_6 hW (by rw [show (16 : Int32) = nI 16 from rfl, pk_mul, nI_add])

set_option maxHeartbeats 4000000 in
set_option maxRecDepth 100000 in
theorem c_kindOf {l : Launch} {G : va_G} {cy : Nat → ClassId} {w : WT} {c0 : Nat} (h : c0 < 2 ^ 31) : RI l G cy w yX8_kindOf cX8_kindOf 1 (some .int) (rmN 0) [.int (nI c0)] (nI (c0 / 16)) := by
  refine RI.mk (by decide) (by first | rfl | exact bI_nar) (Nat.le_of_ble_eq_true rfl) ?_
  intro jp je js jm below meth jc A Q X hW ret ls hl
  have jx := X.hx
  have jb := X.hb
  have hl : lv_has ls 1 [(0, .int (nI c0))] := hl
  have X : Cx G cy jp js jm _ jc cX8_kindOf 1 RX8 A js.heap := X
  refine lv_iload_n jx jb dX8_kindOf_0 rfl (lv_at hl 0 rfl) ?_
  refine lv_bipush (v := 16) jx jb dX8_kindOf_1 (by decide) ?_
  refine lv_idiv jx jb dX8_kindOf_3 (by decide) ?_
  exact ret _ _ _ _ _ dX8_kindOf_4 hW (by rw [show (16 : Int32) = nI 16 from rfl]; exact pk_div h (by decide) (by decide))

set_option maxHeartbeats 4000000 in
set_option maxRecDepth 100000 in
theorem c_numberOf {l : Launch} {G : va_G} {cy : Nat → ClassId} {w : WT} {c0 : Nat} (h : c0 < 2 ^ 31) : RI l G cy w yX8_numberOf cX8_numberOf 1 (some .int) (rmN 0) [.int (nI c0)] (nI (c0 % 16)) := by
  refine RI.mk (by decide) (by first | rfl | exact bI_nar) (Nat.le_of_ble_eq_true rfl) ?_
  intro jp je js jm below meth jc A Q X hW ret ls hl
  have jx := X.hx
  have jb := X.hb
  have hl : lv_has ls 1 [(0, .int (nI c0))] := hl
  have X : Cx G cy jp js jm _ jc cX8_numberOf 1 RX8 A js.heap := X
  refine lv_iload_n jx jb dX8_numberOf_0 rfl (lv_at hl 0 rfl) ?_
  refine lv_bipush (v := 16) jx jb dX8_numberOf_1 (by decide) ?_
  refine lv_irem jx jb dX8_numberOf_3 (by decide) ?_
  exact ret _ _ _ _ _ dX8_numberOf_4 hW (by rw [show (16 : Int32) = nI 16 from rfl]; exact pk_rem h (by decide) (by decide))

set_option maxHeartbeats 4000000 in
set_option maxRecDepth 100000 in
theorem c_valueIn {l : Launch} {G : va_G} {cy : Nat → ClassId} {w : WT} {st j : Nat} (hs : st < 65536) (hj : j < 4) : RI l G cy w yX8_valueIn cX8_valueIn 2 (some .int) (rmN 0) [.int (nI st), .int (nI j)] (nI (nib st j)) := by
  refine RI.mk (by decide) (by first | rfl | exact bI_nar) (Nat.le_of_ble_eq_true rfl) ?_
  intro jp je js jm below meth jc A Q X hW ret ls hl
  have jx := X.hx
  have jb := X.hb
  have hl : lv_has ls 2 [(0, .int (nI st)), (1, .int (nI j))] := hl
  have X : Cx G cy jp js jm _ jc cX8_valueIn 2 RX8 A js.heap := X
  refine lv_iload_n jx jb dX8_valueIn_0 rfl (lv_at hl 0 rfl) ?_
  refine lv_iload_n jx jb dX8_valueIn_1 rfl (lv_at hl 1 rfl) ?_
  refine lv_iconst (v := 4) jx jb dX8_valueIn_2 (by decide) ?_
  refine lv_imul jx jb dX8_valueIn_3 ?_
  refine lv_ishr jx jb dX8_valueIn_4 ?_
  refine lv_bipush (v := 15) jx jb dX8_valueIn_5 (by decide) ?_
  refine lv_iand jx jb dX8_valueIn_7 ?_
  exact ret _ _ _ _ _ dX8_valueIn_8 hW (val_eq hs hj)

set_option maxHeartbeats 4000000 in
set_option maxRecDepth 100000 in
theorem c_withValue {l : Launch} {G : va_G} {cy : Nat → ClassId} {w : WT} {st j v : Nat} (hs : st < 65536) (hj : j < 4) (hv : v < 65536) : RI l G cy w yX8_withValue cX8_withValue 5 (some .int) (rmN 0) [.int (nI st), .int (nI j), .int (nI v)] (nI (setn st j (v % 16))) := by
  refine RI.mk (by decide) (by first | rfl | exact bI_nar) (Nat.le_of_ble_eq_true rfl) ?_
  intro jp je js jm below meth jc A Q X hW ret ls hl
  have jx := X.hx
  have jb := X.hb
  have hl : lv_has ls 5 [(0, .int (nI st)), (1, .int (nI j)), (2, .int (nI v))] := hl
  have X : Cx G cy jp js jm _ jc cX8_withValue 5 RX8 A js.heap := X
  refine lv_iload_n jx jb dX8_withValue_0 rfl (lv_at hl 1 rfl) ?_
  refine lv_iconst (v := 4) jx jb dX8_withValue_1 (by decide) ?_
  refine lv_imul jx jb dX8_withValue_2 ?_
  refine lv_istore_n (lv' := [(3, .int ((nI j) * 4)), (0, .int (nI st)), (1, .int (nI j)), (2, .int (nI v))]) jx jb dX8_withValue_3 rfl hl (by decide) rfl (fun ls hl => ?_)
  refine lv_iload_n jx jb dX8_withValue_4 rfl (lv_at hl 1 rfl) ?_
  refine lv_bipush (v := 15) jx jb dX8_withValue_5 (by decide) ?_
  refine lv_iload_n jx jb dX8_withValue_7 rfl (lv_at hl 0 rfl) ?_
  refine lv_ishl jx jb dX8_withValue_8 ?_
  refine lv_iconst (v := -1) jx jb dX8_withValue_9 (by decide) ?_
  refine lv_ixor jx jb dX8_withValue_10 ?_
  refine lv_iand jx jb dX8_withValue_11 ?_
  refine lv_istore (lv' := [(4, .int ((nI st) &&& ((15 <<< (((nI j) * 4) &&& 31)) ^^^ (-1)))), (3, .int ((nI j) * 4)), (0, .int (nI st)), (1, .int (nI j)), (2, .int (nI v))]) jx jb dX8_withValue_12 hl (by decide) rfl (fun ls hl => ?_)
  refine lv_iload jx jb dX8_withValue_14 (lv_at hl 0 rfl) ?_
  refine lv_iload_n jx jb dX8_withValue_16 rfl (lv_at hl 4 rfl) ?_
  refine lv_bipush (v := 15) jx jb dX8_withValue_17 (by decide) ?_
  refine lv_iand jx jb dX8_withValue_19 ?_
  refine lv_iload_n jx jb dX8_withValue_20 rfl (lv_at hl 1 rfl) ?_
  refine lv_ishl jx jb dX8_withValue_21 ?_
  refine lv_ior jx jb dX8_withValue_22 ?_
  exact ret _ _ _ _ _ dX8_withValue_23 hW (wit_eq hs hj hv)
end
section
abbrev okWi (v : Int32) : Prop := 0 ≤ v ∧ okW v.toNatClampNeg
abbrev okTi (v : Int32) : Prop := 0 ≤ v ∧ okT v.toNatClampNeg
theorem i_below {v : Int32} {n : Nat} (hn : n < 2 ^ 31) (h : 0 ≤ v ∧ v < nI n) : ∃ w, w < n ∧ v = nI w := by
  have h1 := h.1
  have h2 := h.2
  rw [Int32.le_iff_toInt_le] at h1
  rw [Int32.lt_iff_toInt_lt, nI_toInt hn] at h2
  exact vp_in_of (vp_in_iff.mpr ⟨h1, h2⟩) hn
theorem i_0le {w : Nat} (h : w < 2 ^ 31) : (0 : Int32) ≤ nI w := nI_pos' h
theorem i_cl {w : Nat} (h : w < 2 ^ 31) : (nI w).toNatClampNeg = w := nI_clamp h
theorem dv100 {w : Nat} (h : w < 2 ^ 31) : nI w / 100 = nI (w / 100) := pk_div (d := 100) h (by decide) (by decide)
theorem dv1000 {w : Nat} (h : w < 2 ^ 31) : nI w / 1000 = nI (w / 1000) := pk_div (d := 1000) h (by decide) (by decide)
theorem dv10000 {w : Nat} (h : w < 2 ^ 31) : nI w / 10000 = nI (w / 10000) := pk_div (d := 10000) h (by decide) (by decide)
theorem rm10 {w : Nat} (h : w < 2 ^ 31) : nI w - nI w / 10 * 10 = nI (w % 10) := pk_rem (d := 10) h (by decide) (by decide)
theorem rm100 {w : Nat} (h : w < 2 ^ 31) : nI w - nI w / 100 * 100 = nI (w % 100) := pk_rem (d := 100) h (by decide) (by decide)
theorem n_le {a b : Nat} (ha : a < 2 ^ 31) (hb : b < 2 ^ 31) (h : nI a ≤ nI b) : a ≤ b := (nI_leI ha hb).mp h
theorem n_nle {a b : Nat} (ha : a < 2 ^ 31) (hb : b < 2 ^ 31) (h : ¬ nI a ≤ nI b) : b < a := Nat.lt_of_not_le (fun q => h ((nI_leI ha hb).mpr q))
theorem n_lt {a b : Nat} (ha : a < 2 ^ 31) (hb : b < 2 ^ 31) (h : nI a < nI b) : a < b := (nI_ltI ha hb).mp h
theorem n_nlt {a b : Nat} (ha : a < 2 ^ 31) (hb : b < 2 ^ 31) (h : ¬ nI a < nI b) : b ≤ a := Nat.le_of_not_lt (fun q => h ((nI_ltI ha hb).mpr q))
theorem n_eq {a b : Nat} (ha : a < 2 ^ 31) (hb : b < 2 ^ 31) (h : nI a = nI b) : a = b := (nI_eq ha hb).mp h
theorem n_ne {a b : Nat} (ha : a < 2 ^ 31) (hb : b < 2 ^ 31) (h : ¬ nI a = nI b) : a ≠ b := fun q => h ((nI_eq ha hb).mpr q)
theorem okWi_no {v : Int32} (h : bI (0 ≤ v ∧ v < 4000) = 0) : (0 : Int32) = bI (okWi v) := (bI_f (fun q => by
  have h1 := bI_0.mp h
  have h2 : v.toNatClampNeg < 4000 := q.2.1
  apply h1
  refine ⟨q.1, ?_⟩
  obtain ⟨j, hj, rfl⟩ := nI_of (x := v) (fun z => by have := q.1; rw [Int32.le_iff_toInt_le] at this; rw [Int32.lt_iff_toInt_lt] at z; omega)
  rw [i_cl hj] at h2
  exact nI_lt (b := 4000) h2 (by decide))).symm
theorem okTi_no {v : Int32} (h : bI (0 ≤ v ∧ v < 40000) = 0) : (0 : Int32) = bI (okTi v) := (bI_f (fun q => by
  have h1 := bI_0.mp h
  have h2 : v.toNatClampNeg < 40000 := q.2.1
  apply h1
  refine ⟨q.1, ?_⟩
  obtain ⟨j, hj, rfl⟩ := nI_of (x := v) (fun z => by have := q.1; rw [Int32.le_iff_toInt_le] at this; rw [Int32.lt_iff_toInt_lt] at z; omega)
  rw [i_cl hj] at h2
  exact nI_lt (b := 40000) h2 (by decide))).symm
theorem okWi_nI {w : Nat} (h : w < 2 ^ 31) : okWi (nI w) ↔ okW w := by
  unfold okWi
  rw [i_cl h]
  exact ⟨fun q => q.2, fun q => ⟨i_0le h, q⟩⟩
theorem okTi_nI {w : Nat} (h : w < 2 ^ 31) : okTi (nI w) ↔ okT w := by
  unfold okTi
  rw [i_cl h]
  exact ⟨fun q => q.2, fun q => ⟨i_0le h, q⟩⟩
/-- a branch's fields -/
def brf (w t r : Nat) : List Value := [.int (nI (w / 1000)), .int (nI (w / 100 % 10)), .int (nI (w % 100)), .int (nI (t / 10000)), .int (nI (t / 1000 % 10)), .int (nI (t / 100 % 10)), .int (nI (t % 100)), .int (nI r)]

set_option maxHeartbeats 4000000 in
set_option maxRecDepth 100000 in
theorem c_isCondition {l : Launch} {G : va_G} {cy : Nat → ClassId} {w : WT} {v : Int32} : RI l G cy w yX0_isCondition cX0_isCondition 1 (some .boolean) (rmN 1) [.int v] (bI (okWi v)) := by
  refine RI.mk (by decide) (by first | rfl | exact bI_nar) (Nat.le_of_ble_eq_true rfl) ?_
  intro jp je js jm below meth jc A Q X hW ret ls hl
  have jx := X.hx
  have jb := X.hb
  have hl : lv_has ls 1 [(0, .int v)] := hl
  have X : Cx G cy jp js jm _ jc cX0_isCondition 1 RX0 A js.heap := X
  refine lv_iload_n jx jb dX0_isCondition_0 rfl (lv_at hl 0 rfl) ?_
  refine lv_sipush (v := 4000) jx jb dX0_isCondition_1 (by decide) ?_
  refine w_rN (As := [.int v, .int 4000]) X hW (c_isBelow) mn_X0_43 mf_X8_isBelow ⟨Nat.le_of_ble_eq_true rfl, Nat.le_of_ble_eq_true rfl⟩ hl.1 rfl (Nat.le_of_ble_eq_true rfl) ⟨Nat.le_of_ble_eq_true rfl, Nat.le_of_ble_eq_true rfl⟩ dX0_isCondition_4 (fun H locs hW => ?_)
  refine lv_if_eq (tgt := 34) jx jb dX0_isCondition_7 (by decide) (fun c7 => ?_) (fun c7 => ?_)
  · refine lv_iconst (v := 0) jx jb dX0_isCondition_34 (by decide) ?_
    exact ret _ _ _ _ _ dX0_isCondition_35 hW (okWi_no c7)
  · obtain ⟨wn, hwn, ev⟩ := i_below (n := 4000) (by decide) (bI_n0.mp c7)
    refine lv_iload_n jx jb dX0_isCondition_10 rfl (lv_at hl 0 rfl) ?_
    refine lv_bipush (v := 100) jx jb dX0_isCondition_11 (by decide) ?_
    refine lv_idiv jx jb dX0_isCondition_13 (by decide) ?_
    refine lv_bipush (v := 10) jx jb dX0_isCondition_14 (by decide) ?_
    refine lv_irem jx jb dX0_isCondition_16 (by decide) ?_
    refine top_eq (y := nI (wn / 100 % 10)) (by rw [ev, dv100 (by omega), rm10 (by omega)]) ?_
    refine lv_iconst (v := 3) jx jb dX0_isCondition_17 (by decide) ?_
    refine lv_icmp_ge (tgt := 34) jx jb dX0_isCondition_18 (by decide) (fun c18 => ?_) (fun c18 => ?_)
    · refine lv_iconst (v := 0) jx jb dX0_isCondition_34 (by decide) ?_
      exact ret _ _ _ _ _ dX0_isCondition_35 hW (by rw [ev]; exact (bI_f (fun q => by have := ((okWi_nI (by omega)).mp q).2.1; have := n_le (a := 3) (by decide) (by omega) c18; omega)).symm)
    · refine lv_iload_n jx jb dX0_isCondition_21 rfl (lv_at hl 0 rfl) ?_
      refine lv_bipush (v := 100) jx jb dX0_isCondition_22 (by decide) ?_
      refine lv_irem jx jb dX0_isCondition_24 (by decide) ?_
      refine top_eq (y := nI (wn % 100)) (by rw [ev, rm100 (by omega)]) ?_
      refine lv_bipush (v := 16) jx jb dX0_isCondition_25 (by decide) ?_
      refine lv_icmp_ge (tgt := 34) jx jb dX0_isCondition_27 (by decide) (fun c27 => ?_) (fun c27 => ?_)
      · refine lv_iconst (v := 0) jx jb dX0_isCondition_34 (by decide) ?_
        exact ret _ _ _ _ _ dX0_isCondition_35 hW (by rw [ev]; exact (bI_f (fun q => by have := ((okWi_nI (by omega)).mp q).2.2; have := n_le (a := 16) (by decide) (by omega) c27; omega)).symm)
      · refine lv_iconst (v := 1) jx jb dX0_isCondition_30 (by decide) ?_
        refine lv_goto (tgt := 35) jx jb dX0_isCondition_31 (by decide) ?_
        exact ret _ _ _ _ _ dX0_isCondition_35 hW (by rw [ev]; exact (bI_t ((okWi_nI (by omega)).mpr ⟨hwn, by have := n_nle (a := 3) (by decide) (by omega) c18; omega, by have := n_nle (a := 16) (by decide) (by omega) c27; omega⟩)).symm)

set_option maxHeartbeats 4000000 in
set_option maxRecDepth 100000 in
theorem c_isEffect {l : Launch} {G : va_G} {cy : Nat → ClassId} {w : WT} {v : Int32} : RI l G cy w yX0_isEffect cX0_isEffect 1 (some .boolean) (rmN 1) [.int v] (bI (okTi v)) := by
  refine RI.mk (by decide) (by first | rfl | exact bI_nar) (Nat.le_of_ble_eq_true rfl) ?_
  intro jp je js jm below meth jc A Q X hW ret ls hl
  have jx := X.hx
  have jb := X.hb
  have hl : lv_has ls 1 [(0, .int v)] := hl
  have X : Cx G cy jp js jm _ jc cX0_isEffect 1 RX0 A js.heap := X
  refine lv_iload_n jx jb dX0_isEffect_0 rfl (lv_at hl 0 rfl) ?_
  refine lv_ldc (v := 40000) jx jb X.1.2.2.2.1 (X.ht cs_X0_47) dX0_isEffect_1 ?_
  refine w_rN (As := [.int v, .int 40000]) X hW (c_isBelow) mn_X0_43 mf_X8_isBelow ⟨Nat.le_of_ble_eq_true rfl, Nat.le_of_ble_eq_true rfl⟩ hl.1 rfl (Nat.le_of_ble_eq_true rfl) ⟨Nat.le_of_ble_eq_true rfl, Nat.le_of_ble_eq_true rfl⟩ dX0_isEffect_3 (fun H locs hW => ?_)
  refine lv_if_eq (tgt := 22) jx jb dX0_isEffect_6 (by decide) (fun c6 => ?_) (fun c6 => ?_)
  · refine lv_iconst (v := 0) jx jb dX0_isEffect_22 (by decide) ?_
    exact ret _ _ _ _ _ dX0_isEffect_23 hW (okTi_no c6)
  · obtain ⟨wn, hwn, ev⟩ := i_below (n := 40000) (by decide) (bI_n0.mp c6)
    refine lv_iload_n jx jb dX0_isEffect_9 rfl (lv_at hl 0 rfl) ?_
    refine lv_bipush (v := 100) jx jb dX0_isEffect_10 (by decide) ?_
    refine lv_irem jx jb dX0_isEffect_12 (by decide) ?_
    refine top_eq (y := nI (wn % 100)) (by rw [ev, rm100 (by omega)]) ?_
    refine lv_bipush (v := 16) jx jb dX0_isEffect_13 (by decide) ?_
    refine lv_icmp_ge (tgt := 22) jx jb dX0_isEffect_15 (by decide) (fun c15 => ?_) (fun c15 => ?_)
    · refine lv_iconst (v := 0) jx jb dX0_isEffect_22 (by decide) ?_
      exact ret _ _ _ _ _ dX0_isEffect_23 hW (by rw [ev]; exact (bI_f (fun q => by have := ((okTi_nI (by omega)).mp q).2; have := n_le (a := 16) (by decide) (by omega) c15; omega)).symm)
    · refine lv_iconst (v := 1) jx jb dX0_isEffect_18 (by decide) ?_
      refine lv_goto (tgt := 23) jx jb dX0_isEffect_19 (by decide) ?_
      exact ret _ _ _ _ _ dX0_isEffect_23 hW (by rw [ev]; exact (bI_t ((okTi_nI (by omega)).mpr ⟨hwn, by have := n_nle (a := 16) (by decide) (by omega) c15; omega⟩)).symm)

set_option maxHeartbeats 4000000 in
set_option maxRecDepth 100000 in
theorem c_canBe {l : Launch} {G : va_G} {cy : Nat → ClassId} {w : WT} {a b r : Int32} : RI l G cy w yX0_canBe cX0_canBe 3 (some .boolean) (rmN 2) [.int a, .int b, .int r] (bI (okWi a ∧ okTi b ∧ 0 ≤ r ∧ r < 4)) := by
  refine RI.mk (by decide) (by first | rfl | exact bI_nar) (Nat.le_of_ble_eq_true rfl) ?_
  intro jp je js jm below meth jc A Q X hW ret ls hl
  have jx := X.hx
  have jb := X.hb
  have hl : lv_has ls 3 [(0, .int a), (1, .int b), (2, .int r)] := hl
  have X : Cx G cy jp js jm _ jc cX0_canBe 3 RX0 A js.heap := X
  refine lv_iload_n jx jb dX0_canBe_0 rfl (lv_at hl 0 rfl) ?_
  refine w_rS (As := [.int a]) X hW (c_isCondition) ml_X0_36 mf_X0_isCondition ⟨Nat.le_of_ble_eq_true rfl, Nat.le_of_ble_eq_true rfl⟩ hl.1 rfl (Nat.le_of_ble_eq_true rfl) ⟨Nat.le_of_ble_eq_true rfl, Nat.le_of_ble_eq_true rfl⟩ dX0_canBe_1 (fun H locs hW => ?_)
  refine lv_if_eq (tgt := 26) jx jb dX0_canBe_4 (by decide) (fun c4 => ?_) (fun c4 => ?_)
  · refine lv_iconst (v := 0) jx jb dX0_canBe_26 (by decide) ?_
    exact ret _ _ _ _ _ dX0_canBe_27 hW (bI_f (fun q => bI_0.mp c4 q.1)).symm
  · refine lv_iload_n jx jb dX0_canBe_7 rfl (lv_at hl 1 rfl) ?_
    refine w_rS (As := [.int b]) X hW (c_isEffect) ml_X0_40 mf_X0_isEffect ⟨Nat.le_of_ble_eq_true rfl, Nat.le_of_ble_eq_true rfl⟩ hl.1 rfl (Nat.le_of_ble_eq_true rfl) ⟨Nat.le_of_ble_eq_true rfl, Nat.le_of_ble_eq_true rfl⟩ dX0_canBe_8 (fun H locs hW => ?_)
    refine lv_if_eq (tgt := 26) jx jb dX0_canBe_11 (by decide) (fun c11 => ?_) (fun c11 => ?_)
    · refine lv_iconst (v := 0) jx jb dX0_canBe_26 (by decide) ?_
      exact ret _ _ _ _ _ dX0_canBe_27 hW (bI_f (fun q => bI_0.mp c11 q.2.1)).symm
    · refine lv_iload_n jx jb dX0_canBe_14 rfl (lv_at hl 2 rfl) ?_
      refine lv_iconst (v := 4) jx jb dX0_canBe_15 (by decide) ?_
      refine w_rN (As := [.int r, .int 4]) X hW (c_isBelow) mn_X0_43 mf_X8_isBelow ⟨Nat.le_of_ble_eq_true rfl, Nat.le_of_ble_eq_true rfl⟩ hl.1 rfl (Nat.le_of_ble_eq_true rfl) ⟨Nat.le_of_ble_eq_true rfl, Nat.le_of_ble_eq_true rfl⟩ dX0_canBe_16 (fun H locs hW => ?_)
      refine lv_if_eq (tgt := 26) jx jb dX0_canBe_19 (by decide) (fun c19 => ?_) (fun c19 => ?_)
      · refine lv_iconst (v := 0) jx jb dX0_canBe_26 (by decide) ?_
        exact ret _ _ _ _ _ dX0_canBe_27 hW (bI_f (fun q => bI_0.mp c19 q.2.2)).symm
      · refine lv_iconst (v := 1) jx jb dX0_canBe_22 (by decide) ?_
        refine lv_goto (tgt := 27) jx jb dX0_canBe_23 (by decide) ?_
        exact ret _ _ _ _ _ dX0_canBe_27 hW (bI_t ⟨bI_n0.mp c4, bI_n0.mp c11, bI_n0.mp c19⟩).symm

set_option maxHeartbeats 4000000 in
set_option maxRecDepth 100000 in
theorem c_holds {l : Launch} {G : va_G} {cy : Nat → ClassId} {N : Nat} {ad : Nat → Nat} {g : Nat → va_E} {n w t r st : Nat} (hn : n < N) (hg : g n = .inr (0, brf w t r)) (hw : okW w) (hs : st < 65536) : RI l G cy (N, ad, g) yX0_holds cX0_holds 3 (some .boolean) (rmN 1) [.ref (ad n), .int (nI st)] (bI (hold w st = true)) := by
  refine RI.mk (by decide) (by first | rfl | exact bI_nar) (Nat.le_of_ble_eq_true rfl) ?_
  intro jp je js jm below meth jc A Q X hW ret ls hl
  have jx := X.hx
  have jb := X.hb
  have hl : lv_has ls 3 [(0, .ref (ad n)), (1, .int (nI st))] := hl
  have X : Cx G cy jp js jm _ jc cX0_holds 3 RX0 A js.heap := X
  refine lv_iload_n jx jb dX0_holds_0 rfl (lv_at hl 1 rfl) ?_
  refine lv_aload_n jx jb dX0_holds_1 rfl (lv_at hl 0 rfl) ?_
  refine w_get X hW K0 hn hg 0 (by decide) fl_X0_9 rfl dX0_holds_2 ?_
  refine w_rN (As := [.int (nI st), .int (nI (w / 1000))]) X hW (c_valueIn hs (by omega)) mn_X0_48 mf_X8_valueIn ⟨Nat.le_of_ble_eq_true rfl, Nat.le_of_ble_eq_true rfl⟩ hl.1 rfl (Nat.le_of_ble_eq_true rfl) ⟨Nat.le_of_ble_eq_true rfl, Nat.le_of_ble_eq_true rfl⟩ dX0_holds_5 (fun H locs hW => ?_)
  refine lv_istore_n (lv' := [(2, .int (nI (nib st (w / 1000)))), (0, .ref (ad n)), (1, .int (nI st))]) jx jb dX0_holds_8 rfl hl (by decide) rfl (fun ls hl => ?_)
  refine lv_aload_n jx jb dX0_holds_9 rfl (lv_at hl 1 rfl) ?_
  refine w_get X hW K0 hn hg 1 (by decide) fl_X0_15 rfl dX0_holds_10 ?_
  refine lv_if_ne (tgt := 30) jx jb dX0_holds_13 (by decide) (fun c13 => ?_) (fun c13 => ?_)
  · refine lv_aload_n jx jb dX0_holds_30 rfl (lv_at hl 1 rfl) ?_
    refine w_get X hW K0 hn hg 1 (by decide) fl_X0_15 rfl dX0_holds_31 ?_
    refine lv_iconst (v := 1) jx jb dX0_holds_34 (by decide) ?_
    refine lv_icmp_ne (tgt := 54) jx jb dX0_holds_35 (by decide) (fun c35 => ?_) (fun c35 => ?_)
    · refine lv_iload_n jx jb dX0_holds_54 rfl (lv_at hl 0 rfl) ?_
      refine lv_aload_n jx jb dX0_holds_55 rfl (lv_at hl 1 rfl) ?_
      refine w_get X hW K0 hn hg 2 (by decide) fl_X0_18 rfl dX0_holds_56 ?_
      refine lv_icmp_le (tgt := 66) jx jb dX0_holds_59 (by decide) (fun c59 => ?_) (fun c59 => ?_)
      · refine lv_iconst (v := 0) jx jb dX0_holds_66 (by decide) ?_
        exact ret _ _ _ _ _ dX0_holds_67 hW (by have h0 : w / 100 % 10 ≠ 0 := n_ne (b := 0) (by omega) (by decide) c13; have h1 : w / 100 % 10 ≠ 1 := n_ne (b := 1) (by omega) (by decide) c35; have hnb := nib_lt st (w / 1000); have := n_le (by omega) (by omega) c59; rw [bI_f (by simp [hold, h0, h1]; omega)])
      · refine lv_iconst (v := 1) jx jb dX0_holds_62 (by decide) ?_
        refine lv_goto (tgt := 67) jx jb dX0_holds_63 (by decide) ?_
        exact ret _ _ _ _ _ dX0_holds_67 hW (by have h0 : w / 100 % 10 ≠ 0 := n_ne (b := 0) (by omega) (by decide) c13; have h1 : w / 100 % 10 ≠ 1 := n_ne (b := 1) (by omega) (by decide) c35; have hnb := nib_lt st (w / 1000); have := n_nle (by omega) (by omega) c59; rw [bI_t (by simp [hold, h0, h1]; omega)])
    · refine lv_iload_n jx jb dX0_holds_38 rfl (lv_at hl 0 rfl) ?_
      refine lv_aload_n jx jb dX0_holds_39 rfl (lv_at hl 1 rfl) ?_
      refine w_get X hW K0 hn hg 2 (by decide) fl_X0_18 rfl dX0_holds_40 ?_
      refine lv_icmp_ne (tgt := 50) jx jb dX0_holds_43 (by decide) (fun c43 => ?_) (fun c43 => ?_)
      · refine lv_iconst (v := 0) jx jb dX0_holds_50 (by decide) ?_
        refine lv_goto (tgt := 67) jx jb dX0_holds_51 (by decide) ?_
        exact ret _ _ _ _ _ dX0_holds_67 hW (by have h0 : w / 100 % 10 ≠ 0 := n_ne (b := 0) (by omega) (by decide) c13; have h1 : w / 100 % 10 = 1 := n_eq (b := 1) (by omega) (by decide) c35; have hnb := nib_lt st (w / 1000); have := n_ne (by omega) (by omega) c43; rw [bI_f (by simp [hold, h1]; omega)])
      · refine lv_iconst (v := 1) jx jb dX0_holds_46 (by decide) ?_
        refine lv_goto (tgt := 67) jx jb dX0_holds_47 (by decide) ?_
        exact ret _ _ _ _ _ dX0_holds_67 hW (by have h0 : w / 100 % 10 ≠ 0 := n_ne (b := 0) (by omega) (by decide) c13; have h1 : w / 100 % 10 = 1 := n_eq (b := 1) (by omega) (by decide) c35; have hnb := nib_lt st (w / 1000); have := n_eq (by omega) (by omega) c43; rw [bI_t (by simp [hold, h1]; omega)])
  · refine lv_iload_n jx jb dX0_holds_16 rfl (lv_at hl 0 rfl) ?_
    refine lv_aload_n jx jb dX0_holds_17 rfl (lv_at hl 1 rfl) ?_
    refine w_get X hW K0 hn hg 2 (by decide) fl_X0_18 rfl dX0_holds_18 ?_
    refine lv_icmp_ge (tgt := 28) jx jb dX0_holds_21 (by decide) (fun c21 => ?_) (fun c21 => ?_)
    · refine lv_iconst (v := 0) jx jb dX0_holds_28 (by decide) ?_
      exact ret _ _ _ _ _ dX0_holds_29 hW (by have h0 : w / 100 % 10 = 0 := n_eq (b := 0) (by omega) (by decide) c13; have hnb := nib_lt st (w / 1000); have := n_le (by omega) (by omega) c21; rw [bI_f (by simp [hold, h0]; omega)])
    · refine lv_iconst (v := 1) jx jb dX0_holds_24 (by decide) ?_
      refine lv_goto (tgt := 29) jx jb dX0_holds_25 (by decide) ?_
      exact ret _ _ _ _ _ dX0_holds_29 hW (by have h0 : w / 100 % 10 = 0 := n_eq (b := 0) (by omega) (by decide) c13; have hnb := nib_lt st (w / 1000); have := n_nle (by omega) (by omega) c21; rw [bI_t (by simp [hold, h0]; omega)])

theorem efn_lt {t st num : Nat} (ht : okT t) (hn : num < 16) : efn t st num < 65536 := by
  unfold efn
  have h1 := nib_lt st (t / 10000)
  have h2 : t / 1000 % 10 * nib st (t / 10000) ≤ 9 * 15 := Nat.mul_le_mul (by omega) (by omega)
  have h3 : t / 100 % 10 * num ≤ 9 * 15 := Nat.mul_le_mul (by omega) (by omega)
  omega

set_option maxHeartbeats 4000000 in
set_option maxRecDepth 100000 in
theorem c_brStateBehind {l : Launch} {G : va_G} {cy : Nat → ClassId} {N : Nat} {ad : Nat → Nat} {g : Nat → va_E} {n w t r st num : Nat} (hn : n < N) (hg : g n = .inr (0, brf w t r)) (ht : okT t) (hs : st < 65536) (hnum : num < 16) : RI l G cy (N, ad, g) yX0_stateBehind cX0_stateBehind 4 (some .int) (rmN 1) [.ref (ad n), .int (nI st), .int (nI num)] (nI (setn st (t / 10000) (efn t st num % 16))) := by
  refine RI.mk (by decide) (by first | rfl | exact bI_nar) (Nat.le_of_ble_eq_true rfl) ?_
  intro jp je js jm below meth jc A Q X hW ret ls hl
  have jx := X.hx
  have jb := X.hb
  have hl : lv_has ls 4 [(0, .ref (ad n)), (1, .int (nI st)), (2, .int (nI num))] := hl
  have X : Cx G cy jp js jm _ jc cX0_stateBehind 4 RX0 A js.heap := X
  have hef := efn_lt (st := st) ht hnum
  refine lv_iload_n jx jb dX0_stateBehind_0 rfl (lv_at hl 1 rfl) ?_
  refine lv_aload_n jx jb dX0_stateBehind_1 rfl (lv_at hl 0 rfl) ?_
  refine w_get X hW K0 hn hg 3 (by decide) fl_X0_21 rfl dX0_stateBehind_2 ?_
  refine w_rN (As := [.int (nI st), .int (nI (t / 10000))]) X hW (c_valueIn hs (by omega)) mn_X0_48 mf_X8_valueIn ⟨Nat.le_of_ble_eq_true rfl, Nat.le_of_ble_eq_true rfl⟩ hl.1 rfl (Nat.le_of_ble_eq_true rfl) ⟨Nat.le_of_ble_eq_true rfl, Nat.le_of_ble_eq_true rfl⟩ dX0_stateBehind_5 (fun H locs hW => ?_)
  refine lv_istore_n (lv' := [(3, .int (nI (nib st (t / 10000)))), (0, .ref (ad n)), (1, .int (nI st)), (2, .int (nI num))]) jx jb dX0_stateBehind_8 rfl hl (by decide) rfl (fun ls hl => ?_)
  refine lv_iload_n jx jb dX0_stateBehind_9 rfl (lv_at hl 2 rfl) ?_
  refine lv_aload_n jx jb dX0_stateBehind_10 rfl (lv_at hl 1 rfl) ?_
  refine w_get X hW K0 hn hg 3 (by decide) fl_X0_21 rfl dX0_stateBehind_11 ?_
  refine lv_aload_n jx jb dX0_stateBehind_14 rfl (lv_at hl 1 rfl) ?_
  refine w_get X hW K0 hn hg 4 (by decide) fl_X0_24 rfl dX0_stateBehind_15 ?_
  refine lv_iload_n jx jb dX0_stateBehind_18 rfl (lv_at hl 0 rfl) ?_
  refine lv_imul jx jb dX0_stateBehind_19 ?_
  refine lv_aload_n jx jb dX0_stateBehind_20 rfl (lv_at hl 1 rfl) ?_
  refine w_get X hW K0 hn hg 5 (by decide) fl_X0_27 rfl dX0_stateBehind_21 ?_
  refine lv_iload_n jx jb dX0_stateBehind_24 rfl (lv_at hl 3 rfl) ?_
  refine lv_imul jx jb dX0_stateBehind_25 ?_
  refine lv_iadd jx jb dX0_stateBehind_26 ?_
  refine lv_aload_n jx jb dX0_stateBehind_27 rfl (lv_at hl 1 rfl) ?_
  refine w_get X hW K0 hn hg 6 (by decide) fl_X0_30 rfl dX0_stateBehind_28 ?_
  refine lv_iadd jx jb dX0_stateBehind_31 ?_
  refine top_eq (y := nI (efn t st num)) (by rw [pk_mul, pk_mul, nI_add, nI_add]; rfl) ?_
  refine w_rN (As := [.int (nI st), .int (nI (t / 10000)), .int (nI (efn t st num))]) X hW (c_withValue hs (by omega) hef) mn_X0_52 mf_X8_withValue ⟨Nat.le_of_ble_eq_true rfl, Nat.le_of_ble_eq_true rfl⟩ hl.1 rfl (Nat.le_of_ble_eq_true rfl) ⟨Nat.le_of_ble_eq_true rfl, Nat.le_of_ble_eq_true rfl⟩ dX0_stateBehind_32 (fun H locs hW => ?_)
  exact ret _ _ _ _ _ dX0_stateBehind_35 hW rfl

set_option maxHeartbeats 4000000 in
set_option maxRecDepth 100000 in
theorem c_resultIn {l : Launch} {G : va_G} {cy : Nat → ClassId} {N : Nat} {ad : Nat → Nat} {g : Nat → va_E} {n w t r st : Nat} (hn : n < N) (hg : g n = .inr (0, brf w t r)) (hr : r < 4) (hs : st < 65536) : RI l G cy (N, ad, g) yX0_resultIn cX0_resultIn 2 (some .int) (rmN 1) [.ref (ad n), .int (nI st)] (nI (nib st r)) := by
  refine RI.mk (by decide) (by first | rfl | exact bI_nar) (Nat.le_of_ble_eq_true rfl) ?_
  intro jp je js jm below meth jc A Q X hW ret ls hl
  have jx := X.hx
  have jb := X.hb
  have hl : lv_has ls 2 [(0, .ref (ad n)), (1, .int (nI st))] := hl
  have X : Cx G cy jp js jm _ jc cX0_resultIn 2 RX0 A js.heap := X
  refine lv_iload_n jx jb dX0_resultIn_0 rfl (lv_at hl 1 rfl) ?_
  refine lv_aload_n jx jb dX0_resultIn_1 rfl (lv_at hl 0 rfl) ?_
  refine w_get X hW K0 hn hg 7 (by decide) fl_X0_33 rfl dX0_resultIn_2 ?_
  refine w_rN (As := [.int (nI st), .int (nI r)]) X hW (c_valueIn hs hr) mn_X0_48 mf_X8_valueIn ⟨Nat.le_of_ble_eq_true rfl, Nat.le_of_ble_eq_true rfl⟩ hl.1 rfl (Nat.le_of_ble_eq_true rfl) ⟨Nat.le_of_ble_eq_true rfl, Nat.le_of_ble_eq_true rfl⟩ dX0_resultIn_5 (fun H locs hW => ?_)
  exact ret _ _ _ _ _ dX0_resultIn_8 hW rfl

set_option maxHeartbeats 4000000 in
set_option maxRecDepth 100000 in
theorem c_Branch_init {l : Launch} {G : va_G} {cy : Nat → ClassId} {N : Nat} {ad : Nat → Nat} {g : Nat → va_E} {n w t r : Nat} (hn : n < N) (hg : g n = .inr (0, [.int 0, .int 0, .int 0, .int 0, .int 0, .int 0, .int 0, .int 0])) (hw : okW w) (ht : okT t) : MV l G cy (N, ad, g) yX0_init cX0_init 4 none (rmA 1 0 0) [.ref (ad n), .int (nI w), .int (nI t), .int (nI r)] (nV N ad (fun g1 => g1 n = .inr (0, brf w t r) ∧ Fr g g1 [n])) := by
  refine MV.mk (by decide) (Nat.le_of_ble_eq_true rfl) ?_
  intro jp je js jm below meth jc A Q hin X hW ret ls hl
  have jx := X.hx
  have jb := X.hb
  have hl : lv_has ls 4 [(0, .ref (ad n)), (1, .int (nI w)), (2, .int (nI t)), (3, .int (nI r))] := hl
  have X : Cx G cy jp js jm _ jc cX0_init 4 RX0 A js.heap := X
  refine lv_aload_n jx jb dX0_init_0 rfl (lv_at hl 0 rfl) ?_
  refine W.objInit jx jb X.1.2.2.2.1 (X.ht ml_X0_3) (X.ht im_objectInit) (X.ht co_objectInit) rfl (by rw [X.1.2.2.1]; exact hl.1) rfl dX0_init_1 (Nat.le_of_ble_eq_true rfl) (Nat.le_of_ble_eq_true rfl) ?_
  refine W.eq (g2 := F0 jm 4 ls []) rfl ?_
  refine lv_aload_n jx jb dX0_init_4 rfl (lv_at hl 0 rfl) ?_
  refine lv_iload_n jx jb dX0_init_5 rfl (lv_at hl 1 rfl) ?_
  refine lv_sipush (v := 1000) jx jb dX0_init_6 (by decide) ?_
  refine lv_idiv jx jb dX0_init_9 (by decide) ?_
  refine top_eq (y := nI (w / 1000)) (dv1000 (by omega)) ?_
  refine w_putF X hW K0 hn hg 0 (by decide) fl_X0_9 rfl hin rfl rfl rfl (Nat.le_of_ble_eq_true rfl) dX0_init_10 (fun H locs hW => ?_)
  obtain ⟨g_1, eg_1⟩ : ∃ zz, zz = va_up g n (.inr (0, [.int (nI (w / 1000)), .int 0, .int 0, .int 0, .int 0, .int 0, .int 0, .int 0])) := ⟨_, rfl⟩
  have hW : Wd G A js.heap (N, ad, g_1) H locs := by rw [eg_1]; exact hW
  have hf2 : g_1 n = .inr (0, [.int (nI (w / 1000)), .int 0, .int 0, .int 0, .int 0, .int 0, .int 0, .int 0]) := by rw [eg_1]; exact va_up_s
  refine lv_aload_n jx jb dX0_init_13 rfl (lv_at hl 0 rfl) ?_
  refine lv_iload_n jx jb dX0_init_14 rfl (lv_at hl 1 rfl) ?_
  refine lv_bipush (v := 100) jx jb dX0_init_15 (by decide) ?_
  refine lv_idiv jx jb dX0_init_17 (by decide) ?_
  refine lv_bipush (v := 10) jx jb dX0_init_18 (by decide) ?_
  refine lv_irem jx jb dX0_init_20 (by decide) ?_
  refine top_eq (y := nI (w / 100 % 10)) (by rw [dv100 (by omega), rm10 (by omega)]) ?_
  refine w_putF X hW K0 hn hf2 1 (by decide) fl_X0_15 rfl hin rfl rfl rfl (Nat.le_of_ble_eq_true rfl) dX0_init_21 (fun H locs hW => ?_)
  obtain ⟨g_3, eg_3⟩ : ∃ zz, zz = va_up g_1 n (.inr (0, [.int (nI (w / 1000)), .int (nI (w / 100 % 10)), .int 0, .int 0, .int 0, .int 0, .int 0, .int 0])) := ⟨_, rfl⟩
  have hW : Wd G A js.heap (N, ad, g_3) H locs := by rw [eg_3]; exact hW
  have hf4 : g_3 n = .inr (0, [.int (nI (w / 1000)), .int (nI (w / 100 % 10)), .int 0, .int 0, .int 0, .int 0, .int 0, .int 0]) := by rw [eg_3]; exact va_up_s
  refine lv_aload_n jx jb dX0_init_24 rfl (lv_at hl 0 rfl) ?_
  refine lv_iload_n jx jb dX0_init_25 rfl (lv_at hl 1 rfl) ?_
  refine lv_bipush (v := 100) jx jb dX0_init_26 (by decide) ?_
  refine lv_irem jx jb dX0_init_28 (by decide) ?_
  refine top_eq (y := nI (w % 100)) (rm100 (by omega)) ?_
  refine w_putF X hW K0 hn hf4 2 (by decide) fl_X0_18 rfl hin rfl rfl rfl (Nat.le_of_ble_eq_true rfl) dX0_init_29 (fun H locs hW => ?_)
  obtain ⟨g_5, eg_5⟩ : ∃ zz, zz = va_up g_3 n (.inr (0, [.int (nI (w / 1000)), .int (nI (w / 100 % 10)), .int (nI (w % 100)), .int 0, .int 0, .int 0, .int 0, .int 0])) := ⟨_, rfl⟩
  have hW : Wd G A js.heap (N, ad, g_5) H locs := by rw [eg_5]; exact hW
  have hf6 : g_5 n = .inr (0, [.int (nI (w / 1000)), .int (nI (w / 100 % 10)), .int (nI (w % 100)), .int 0, .int 0, .int 0, .int 0, .int 0]) := by rw [eg_5]; exact va_up_s
  refine lv_aload_n jx jb dX0_init_32 rfl (lv_at hl 0 rfl) ?_
  refine lv_iload_n jx jb dX0_init_33 rfl (lv_at hl 2 rfl) ?_
  refine lv_sipush (v := 10000) jx jb dX0_init_34 (by decide) ?_
  refine lv_idiv jx jb dX0_init_37 (by decide) ?_
  refine top_eq (y := nI (t / 10000)) (dv10000 (by omega)) ?_
  refine w_putF X hW K0 hn hf6 3 (by decide) fl_X0_21 rfl hin rfl rfl rfl (Nat.le_of_ble_eq_true rfl) dX0_init_38 (fun H locs hW => ?_)
  obtain ⟨g_7, eg_7⟩ : ∃ zz, zz = va_up g_5 n (.inr (0, [.int (nI (w / 1000)), .int (nI (w / 100 % 10)), .int (nI (w % 100)), .int (nI (t / 10000)), .int 0, .int 0, .int 0, .int 0])) := ⟨_, rfl⟩
  have hW : Wd G A js.heap (N, ad, g_7) H locs := by rw [eg_7]; exact hW
  have hf8 : g_7 n = .inr (0, [.int (nI (w / 1000)), .int (nI (w / 100 % 10)), .int (nI (w % 100)), .int (nI (t / 10000)), .int 0, .int 0, .int 0, .int 0]) := by rw [eg_7]; exact va_up_s
  refine lv_aload_n jx jb dX0_init_41 rfl (lv_at hl 0 rfl) ?_
  refine lv_iload_n jx jb dX0_init_42 rfl (lv_at hl 2 rfl) ?_
  refine lv_sipush (v := 1000) jx jb dX0_init_43 (by decide) ?_
  refine lv_idiv jx jb dX0_init_46 (by decide) ?_
  refine lv_bipush (v := 10) jx jb dX0_init_47 (by decide) ?_
  refine lv_irem jx jb dX0_init_49 (by decide) ?_
  refine top_eq (y := nI (t / 1000 % 10)) (by rw [dv1000 (by omega), rm10 (by omega)]) ?_
  refine w_putF X hW K0 hn hf8 4 (by decide) fl_X0_24 rfl hin rfl rfl rfl (Nat.le_of_ble_eq_true rfl) dX0_init_50 (fun H locs hW => ?_)
  obtain ⟨g_9, eg_9⟩ : ∃ zz, zz = va_up g_7 n (.inr (0, [.int (nI (w / 1000)), .int (nI (w / 100 % 10)), .int (nI (w % 100)), .int (nI (t / 10000)), .int (nI (t / 1000 % 10)), .int 0, .int 0, .int 0])) := ⟨_, rfl⟩
  have hW : Wd G A js.heap (N, ad, g_9) H locs := by rw [eg_9]; exact hW
  have hf10 : g_9 n = .inr (0, [.int (nI (w / 1000)), .int (nI (w / 100 % 10)), .int (nI (w % 100)), .int (nI (t / 10000)), .int (nI (t / 1000 % 10)), .int 0, .int 0, .int 0]) := by rw [eg_9]; exact va_up_s
  refine lv_aload_n jx jb dX0_init_53 rfl (lv_at hl 0 rfl) ?_
  refine lv_iload_n jx jb dX0_init_54 rfl (lv_at hl 2 rfl) ?_
  refine lv_bipush (v := 100) jx jb dX0_init_55 (by decide) ?_
  refine lv_idiv jx jb dX0_init_57 (by decide) ?_
  refine lv_bipush (v := 10) jx jb dX0_init_58 (by decide) ?_
  refine lv_irem jx jb dX0_init_60 (by decide) ?_
  refine top_eq (y := nI (t / 100 % 10)) (by rw [dv100 (by omega), rm10 (by omega)]) ?_
  refine w_putF X hW K0 hn hf10 5 (by decide) fl_X0_27 rfl hin rfl rfl rfl (Nat.le_of_ble_eq_true rfl) dX0_init_61 (fun H locs hW => ?_)
  obtain ⟨g_11, eg_11⟩ : ∃ zz, zz = va_up g_9 n (.inr (0, [.int (nI (w / 1000)), .int (nI (w / 100 % 10)), .int (nI (w % 100)), .int (nI (t / 10000)), .int (nI (t / 1000 % 10)), .int (nI (t / 100 % 10)), .int 0, .int 0])) := ⟨_, rfl⟩
  have hW : Wd G A js.heap (N, ad, g_11) H locs := by rw [eg_11]; exact hW
  have hf12 : g_11 n = .inr (0, [.int (nI (w / 1000)), .int (nI (w / 100 % 10)), .int (nI (w % 100)), .int (nI (t / 10000)), .int (nI (t / 1000 % 10)), .int (nI (t / 100 % 10)), .int 0, .int 0]) := by rw [eg_11]; exact va_up_s
  refine lv_aload_n jx jb dX0_init_64 rfl (lv_at hl 0 rfl) ?_
  refine lv_iload_n jx jb dX0_init_65 rfl (lv_at hl 2 rfl) ?_
  refine lv_bipush (v := 100) jx jb dX0_init_66 (by decide) ?_
  refine lv_irem jx jb dX0_init_68 (by decide) ?_
  refine top_eq (y := nI (t % 100)) (rm100 (by omega)) ?_
  refine w_putF X hW K0 hn hf12 6 (by decide) fl_X0_30 rfl hin rfl rfl rfl (Nat.le_of_ble_eq_true rfl) dX0_init_69 (fun H locs hW => ?_)
  obtain ⟨g_13, eg_13⟩ : ∃ zz, zz = va_up g_11 n (.inr (0, [.int (nI (w / 1000)), .int (nI (w / 100 % 10)), .int (nI (w % 100)), .int (nI (t / 10000)), .int (nI (t / 1000 % 10)), .int (nI (t / 100 % 10)), .int (nI (t % 100)), .int 0])) := ⟨_, rfl⟩
  have hW : Wd G A js.heap (N, ad, g_13) H locs := by rw [eg_13]; exact hW
  have hf14 : g_13 n = .inr (0, [.int (nI (w / 1000)), .int (nI (w / 100 % 10)), .int (nI (w % 100)), .int (nI (t / 10000)), .int (nI (t / 1000 % 10)), .int (nI (t / 100 % 10)), .int (nI (t % 100)), .int 0]) := by rw [eg_13]; exact va_up_s
  refine lv_aload_n jx jb dX0_init_72 rfl (lv_at hl 0 rfl) ?_
  refine lv_iload_n jx jb dX0_init_73 rfl (lv_at hl 3 rfl) ?_
  refine w_putF X hW K0 hn hf14 7 (by decide) fl_X0_33 rfl hin rfl rfl rfl (Nat.le_of_ble_eq_true rfl) dX0_init_74 (fun H locs hW => ?_)
  obtain ⟨g_15, eg_15⟩ : ∃ zz, zz = va_up g_13 n (.inr (0, [.int (nI (w / 1000)), .int (nI (w / 100 % 10)), .int (nI (w % 100)), .int (nI (t / 10000)), .int (nI (t / 1000 % 10)), .int (nI (t / 100 % 10)), .int (nI (t % 100)), .int (nI r)])) := ⟨_, rfl⟩
  have hW : Wd G A js.heap (N, ad, g_15) H locs := by rw [eg_15]; exact hW
  have hf16 : g_15 n = .inr (0, [.int (nI (w / 1000)), .int (nI (w / 100 % 10)), .int (nI (w % 100)), .int (nI (t / 10000)), .int (nI (t / 1000 % 10)), .int (nI (t / 100 % 10)), .int (nI (t % 100)), .int (nI r)]) := by rw [eg_15]; exact va_up_s
  exact ret _ _ _ _ _ dX0_init_77 hW ⟨rfl, rfl, hf16, (fun k hk => by show g_15 k = _; simp only [List.mem_cons, List.not_mem_nil, or_false, not_or] at hk; rw [eg_15, va_up_n (by omega), eg_13, va_up_n (by omega), eg_11, va_up_n (by omega), eg_9, va_up_n (by omega), eg_7, va_up_n (by omega), eg_5, va_up_n (by omega), eg_3, va_up_n (by omega), eg_1, va_up_n (by omega)])⟩
end
section
/-- the machine's cells: the object 1, its branches 2, its sizes 3; the branches lie from cell 83 on -/
def MachAt (cy : Nat → ClassId) (N : Nat) (ad : Nat → Nat) (g : Nat → va_E) (M : M4) : Prop := okM M ∧ 83 ≤ N ∧ ∃ (bc : Nat → Option Nat) (fs : Nat → Int32), g 1 = .inr (2, [.ref (ad 2), .ref (ad 3)]) ∧ (∃ fb : Nat → Option Nat, g 2 = .inl (cy 2, 24, .inr (.inr (.inr (.inr fb)))) ∧ ∀ b, b < 24 → fb b = (bc b).map ad) ∧ g 3 = .inl (cy 0, 6, .inl fs) ∧ (∀ k, k < 6 → fs k = nI (M.1 k)) ∧ (∀ b, b < 24 → b % 4 < M.1 (b / 4) → ∃ n, bc b = some n ∧ 83 ≤ n ∧ n < N ∧ g n = .inr (0, brf (M.2.1 b) (M.2.2.1 b) (M.2.2.2 b))) ∧ ∀ b, b < 24 → ¬ b % 4 < M.1 (b / 4) → bc b = none
theorem MachAt.fr {cy : Nat → ClassId} {N : Nat} {ad : Nat → Nat} {g g' : Nat → va_E} {M : M4} (h : MachAt cy N ad g M) (h1 : ∀ k, k = 1 ∨ k = 2 ∨ k = 3 ∨ 83 ≤ k → g' k = g k) : MachAt cy N ad g' M := by
  obtain ⟨a, b, bc, fs, e1, ⟨fb, e2, e2b⟩, e3, e4, e5, e6⟩ := h
  refine ⟨a, b, bc, fs, (h1 1 (by omega)).trans e1, ⟨fb, (h1 2 (by omega)).trans e2, e2b⟩, (h1 3 (by omega)).trans e3, e4, fun b hb hq => ?_, e6⟩
  obtain ⟨n, n1, n2, n3, n4⟩ := e5 b hb hq
  exact ⟨n, n1, n2, n3, (h1 n (by omega)).trans n4⟩
abbrev isB (M : M4) (v : Int32) : Prop := 0 ≤ v ∧ v.toNatClampNeg < 24 ∧ v.toNatClampNeg % 4 < M.1 (v.toNatClampNeg / 4)
theorem isB_nI {M : M4} {b : Nat} (h : b < 24) : isB M (nI b) ↔ b % 4 < M.1 (b / 4) := by
  unfold isB
  rw [i_cl (by omega)]
  exact ⟨fun q => q.2.2, fun q => ⟨i_0le (by omega), h, q⟩⟩
theorem isB_no {M : M4} {v : Int32} (h : bI (0 ≤ v ∧ v < 24) = 0) : ¬ isB M v := fun q => by
  have h1 := bI_0.mp h
  apply h1
  refine ⟨q.1, ?_⟩
  obtain ⟨j, hj, rfl⟩ := nI_of (x := v) (fun z => by have := q.1; rw [Int32.le_iff_toInt_le] at this; rw [Int32.lt_iff_toInt_lt] at z; omega)
  have h2 := q.2.1
  rw [i_cl hj] at h2
  exact nI_lt (b := 24) h2 (by decide)
abbrev hasR (M : M4) (v : Int32) : Prop := 0 ≤ v ∧ v.toNatClampNeg < 6 ∧ M.1 v.toNatClampNeg < 4
theorem hasR_nI {M : M4} {b : Nat} (h : b < 6) : hasR M (nI b) ↔ M.1 b < 4 := by
  unfold hasR
  rw [i_cl (by omega)]
  exact ⟨fun q => q.2.2, fun q => ⟨i_0le (by omega), h, q⟩⟩
theorem hasR_no {M : M4} {v : Int32} (h : bI (0 ≤ v ∧ v < 6) = 0) : ¬ hasR M v := fun q => by
  have h1 := bI_0.mp h
  apply h1
  refine ⟨q.1, ?_⟩
  obtain ⟨j, hj, rfl⟩ := nI_of (x := v) (fun z => by have := q.1; rw [Int32.le_iff_toInt_le] at this; rw [Int32.lt_iff_toInt_lt] at z; omega)
  have h2 := q.2.1
  rw [i_cl hj] at h2
  exact nI_lt (b := 6) h2 (by decide)
theorem bel_t {a b : Nat} (h : a < b) (hb : b < 2 ^ 31) : bI (0 ≤ nI a ∧ nI a < nI b) = 1 := bI_t ⟨i_0le (by omega), nI_lt h hb⟩
def abq (M : M4) : Nat → Int32
  | 0 => 0
  | b + 1 => if b % 4 < M.1 (b / 4) then abq M b ||| ((1 : Int32) <<< (nI b &&& 31)) else abq M b
theorem tI_isB {M : M4} (hM : okM M) {k st : Nat} (hk : k < 6) : isB M (tI (tk M k st)) ↔ ∃ b, tk M k st = some b := by
  cases h : tk M k st with
  | none => exact ⟨fun q => absurd q.1 (by decide), fun ⟨b, q⟩ => by cases q⟩
  | some b =>
    obtain ⟨h1, h2, h3⟩ := tk_some hM hk h
    exact ⟨fun _ => ⟨b, rfl⟩, fun _ => (isB_nI h1).mpr h3⟩

set_option maxHeartbeats 4000000 in
set_option maxRecDepth 100000 in
theorem c_has {l : Launch} {G : va_G} {cy : Nat → ClassId} {N : Nat} {ad : Nat → Nat} {g : Nat → va_E} {M : M4} {v : Int32} (hM : MachAt cy N ad g M) : RI l G cy (N, ad, g) yX2_has cX2_has 2 (some .boolean) (rmN 1) [.ref (ad 1), .int v] (bI (isB M v)) := by
  refine RI.mk (by decide) (by first | rfl | exact bI_nar) (Nat.le_of_ble_eq_true rfl) ?_
  intro jp je js jm below meth jc A Q X hW ret ls hl
  have jx := X.hx
  have jb := X.hb
  have hl : lv_has ls 2 [(0, .ref (ad 1)), (1, .int v)] := hl
  have X : Cx G cy jp js jm _ jc cX2_has 2 RX2 A js.heap := X
  obtain ⟨hok, h83, bc, fs, f1, ⟨fB, f2, hfb0⟩, f3, f4, f5, f6⟩ := hM
  refine lv_iload_n jx jb dX2_has_0 rfl (lv_at hl 1 rfl) ?_
  refine lv_bipush (v := 24) jx jb dX2_has_1 (by decide) ?_
  refine w_rN (As := [.int v, .int 24]) X hW (c_isBelow) mn_X2_21 mf_X8_isBelow ⟨Nat.le_of_ble_eq_true rfl, Nat.le_of_ble_eq_true rfl⟩ hl.1 rfl (Nat.le_of_ble_eq_true rfl) ⟨Nat.le_of_ble_eq_true rfl, Nat.le_of_ble_eq_true rfl⟩ dX2_has_3 (fun H locs hW => ?_)
  refine lv_if_eq (tgt := 22) jx jb dX2_has_6 (by decide) (fun c6 => ?_) (fun c6 => ?_)
  · refine lv_iconst (v := 0) jx jb dX2_has_22 (by decide) ?_
    exact ret _ _ _ _ _ dX2_has_23 hW (bI_f (isB_no c6)).symm
  · obtain ⟨b, hb24, ev⟩ := i_below (n := 24) (by decide) (bI_n0.mp c6)
    refine lv_aload_n jx jb dX2_has_9 rfl (lv_at hl 0 rfl) ?_
    refine w_get X hW K2 (by omega) f1 0 (by decide) fl_X2_11 rfl dX2_has_10 ?_
    refine lv_iload_n jx jb dX2_has_13 rfl (lv_at hl 1 rfl) ?_
    refine w_ald X hW (by omega) (t := 2) rfl f2 b ev hb24 (by decide) dX2_has_14 ?_
    by_cases hq : b % 4 < M.1 (b / 4)
    · obtain ⟨n, n1, n2, n3, n4⟩ := f5 b hb24 hq
      refine top_q (y := some (ad n)) (by rw [hfb0 _ (by omega), n1]; rfl) ?_
      refine lv_ifnull jx jb dX2_has_15 ?_
      refine lv_iconst (v := 1) jx jb dX2_has_18 (by decide) ?_
      refine lv_goto (tgt := 23) jx jb dX2_has_19 (by decide) ?_
      exact ret _ _ _ _ _ dX2_has_23 hW (by rw [ev]; exact (bI_t ((isB_nI hb24).mpr hq)).symm)
    · refine top_q (y := none) (by rw [hfb0 _ (by omega), f6 b hb24 hq]; rfl) ?_
      refine lv_ifnullN (tgt := 22) jx jb dX2_has_15 (by decide) ?_
      refine lv_iconst (v := 0) jx jb dX2_has_22 (by decide) ?_
      exact ret _ _ _ _ _ dX2_has_23 hW (by rw [ev]; exact (bI_f (fun z => hq ((isB_nI hb24).mp z))).symm)

set_option maxHeartbeats 4000000 in
set_option maxRecDepth 100000 in
theorem c_hasRoom {l : Launch} {G : va_G} {cy : Nat → ClassId} {N : Nat} {ad : Nat → Nat} {g : Nat → va_E} {M : M4} {v : Int32} (hM : MachAt cy N ad g M) : RI l G cy (N, ad, g) yX2_hasRoom cX2_hasRoom 2 (some .boolean) (rmN 1) [.ref (ad 1), .int v] (bI (hasR M v)) := by
  refine RI.mk (by decide) (by first | rfl | exact bI_nar) (Nat.le_of_ble_eq_true rfl) ?_
  intro jp je js jm below meth jc A Q X hW ret ls hl
  have jx := X.hx
  have jb := X.hb
  have hl : lv_has ls 2 [(0, .ref (ad 1)), (1, .int v)] := hl
  have X : Cx G cy jp js jm _ jc cX2_hasRoom 2 RX2 A js.heap := X
  obtain ⟨hok, h83, bc, fs, f1, ⟨fB, f2, hfb0⟩, f3, f4, f5, f6⟩ := hM
  refine lv_iload_n jx jb dX2_hasRoom_0 rfl (lv_at hl 1 rfl) ?_
  refine lv_bipush (v := 6) jx jb dX2_hasRoom_1 (by decide) ?_
  refine w_rN (As := [.int v, .int 6]) X hW (c_isBelow) mn_X2_21 mf_X8_isBelow ⟨Nat.le_of_ble_eq_true rfl, Nat.le_of_ble_eq_true rfl⟩ hl.1 rfl (Nat.le_of_ble_eq_true rfl) ⟨Nat.le_of_ble_eq_true rfl, Nat.le_of_ble_eq_true rfl⟩ dX2_hasRoom_3 (fun H locs hW => ?_)
  refine lv_if_eq (tgt := 23) jx jb dX2_hasRoom_6 (by decide) (fun c6 => ?_) (fun c6 => ?_)
  · refine lv_iconst (v := 0) jx jb dX2_hasRoom_23 (by decide) ?_
    exact ret _ _ _ _ _ dX2_hasRoom_24 hW (bI_f (hasR_no c6)).symm
  · obtain ⟨b, hb6, ev⟩ := i_below (n := 6) (by decide) (bI_n0.mp c6)
    have h4 := hok.1 b hb6
    refine lv_aload_n jx jb dX2_hasRoom_9 rfl (lv_at hl 0 rfl) ?_
    refine w_get X hW K2 (by omega) f1 1 (by decide) fl_X2_17 rfl dX2_hasRoom_10 ?_
    refine lv_iload_n jx jb dX2_hasRoom_13 rfl (lv_at hl 1 rfl) ?_
    refine w_ild X hW (by omega) f3 b ev hb6 (by decide) dX2_hasRoom_14 ?_
    refine top_eq (y := nI (M.1 b)) (f4 b hb6) ?_
    refine lv_iconst (v := 4) jx jb dX2_hasRoom_15 (by decide) ?_
    refine lv_icmp_ge (tgt := 23) jx jb dX2_hasRoom_16 (by decide) (fun c16 => ?_) (fun c16 => ?_)
    · refine lv_iconst (v := 0) jx jb dX2_hasRoom_23 (by decide) ?_
      exact ret _ _ _ _ _ dX2_hasRoom_24 hW (by rw [ev]; exact (bI_f (fun z => by have := (hasR_nI hb6).mp z; have := n_le (a := 4) (by decide) (by omega) c16; omega)).symm)
    · refine lv_iconst (v := 1) jx jb dX2_hasRoom_19 (by decide) ?_
      refine lv_goto (tgt := 24) jx jb dX2_hasRoom_20 (by decide) ?_
      exact ret _ _ _ _ _ dX2_hasRoom_24 hW (by rw [ev]; exact (bI_t ((hasR_nI hb6).mpr (n_nle (a := 4) (by decide) (by omega) c16))).symm)

set_option maxHeartbeats 4000000 in
set_option maxRecDepth 100000 in
theorem c_put {l : Launch} {G : va_G} {cy : Nat → ClassId} {N : Nat} {ad : Nat → Nat} {g : Nat → va_E} {b n : Nat} {f : Nat → Option Nat} {fs : Nat → Int32} {vs : List Value} (h83 : 83 ≤ N) (f1 : g 1 = .inr (2, [.ref (ad 2), .ref (ad 3)])) (f2 : g 2 = .inl (cy 2, 24, .inr (.inr (.inr (.inr f))))) (f3 : g 3 = .inl (cy 0, 6, .inl fs)) (hb : b < 24) (hn : n < N) (hg : g n = .inr (0, vs)) : MV l G cy (N, ad, g) yX2_put cX2_put 3 none (rmN 1) [.ref (ad 1), .int (nI b), .ref (ad n)] (nV N ad (fun g1 => g1 2 = .inl (cy 2, 24, .inr (.inr (.inr (.inr (va_up f b (some (ad n))))))) ∧ Fr g g1 [2])) := by
  refine NV.mk (by decide) (Nat.le_of_ble_eq_true rfl) ?_
  intro jp je js jm below meth jc A Q X hW ret ls hl
  have jx := X.hx
  have jb := X.hb
  have hl : lv_has ls 3 [(0, .ref (ad 1)), (1, .int (nI b)), (2, .ref (ad n))] := hl
  have X : Cx G cy jp js jm _ jc cX2_put 3 RX2 A js.heap := X
  refine lv_iload_n jx jb dX2_put_0 rfl (lv_at hl 1 rfl) ?_
  refine lv_bipush (v := 24) jx jb dX2_put_1 (by decide) ?_
  refine w_rN (As := [.int (nI b), .int 24]) X hW (c_isBelow) mn_X2_21 mf_X8_isBelow ⟨Nat.le_of_ble_eq_true rfl, Nat.le_of_ble_eq_true rfl⟩ hl.1 rfl (Nat.le_of_ble_eq_true rfl) ⟨Nat.le_of_ble_eq_true rfl, Nat.le_of_ble_eq_true rfl⟩ dX2_put_3 (fun H locs hW => ?_)
  refine lv_if_eq (tgt := 16) jx jb dX2_put_6 (by decide) (fun c6 => ?_) (fun c6 => ?_)
  · exact absurd (c6.symm.trans (bel_t (b := 24) hb (by decide))) (by decide)
  · refine lv_aload_n jx jb dX2_put_9 rfl (lv_at hl 0 rfl) ?_
    refine w_get X hW K2 (by omega) f1 0 (by decide) fl_X2_11 rfl dX2_put_10 ?_
    refine lv_iload_n jx jb dX2_put_13 rfl (lv_at hl 1 rfl) ?_
    refine lv_aload_n jx jb dX2_put_14 rfl (lv_at hl 2 rfl) ?_
    refine w_ast X hW (by omega) (t := 2) (q := (RX0, TX0, 8)) rfl f2 hn hg rfl b rfl hb (by decide) dX2_put_15 (fun H locs hW => ?_)
    obtain ⟨g_1, eg_1⟩ : ∃ zz, zz = va_up g 2 (.inl (cy 2, 24, .inr (.inr (.inr (.inr (va_up f b (some (ad n)))))))) := ⟨_, rfl⟩
    have hW : Wd G A js.heap (N, ad, g_1) H locs := by rw [eg_1]; exact hW
    have hf2 : g_1 1 = .inr (2, [.ref (ad 2), .ref (ad 3)]) := by rw [eg_1]; exact (va_up_n (by decide)).trans f1
    have hf3 : g_1 2 = .inl (cy 2, 24, .inr (.inr (.inr (.inr (va_up f b (some (ad n))))))) := by rw [eg_1]; exact va_up_s
    have hf4 : g_1 3 = .inl (cy 0, 6, .inl fs) := by rw [eg_1]; exact (va_up_n (by decide)).trans f3
    exact ret _ _ _ _ _ dX2_put_16 hW ⟨hf3, (fun k hk => by show g_1 k = _; simp only [List.mem_cons, List.not_mem_nil, or_false, not_or] at hk; rw [eg_1, va_up_n (by omega)])⟩

set_option maxHeartbeats 4000000 in
set_option maxRecDepth 100000 in
theorem c_mAdd {l : Launch} {G : va_G} {cy : Nat → ClassId} {N : Nat} {ad : Nat → Nat} {g : Nat → va_E} {M : M4} {k n : Nat} {fB : Nat → Option Nat} {fs : Nat → Int32} {vs : List Value} (hM0 : MachAt cy N ad g M) (f1 : g 1 = .inr (2, [.ref (ad 2), .ref (ad 3)])) (f2 : g 2 = .inl (cy 2, 24, .inr (.inr (.inr (.inr fB))))) (f3 : g 3 = .inl (cy 0, 6, .inl fs)) (f4 : ∀ k, k < 6 → fs k = nI (M.1 k)) (hk : k < 6) (hm : M.1 k < 4) (hn : n < N) (hg : g n = .inr (0, vs)) : MI l G cy (N, ad, g) yX2_add cX2_add 3 (some .int) (rmN 2) [.ref (ad 1), .int (nI k), .ref (ad n)] (nA N ad (fun r g1 => r = nI (M.1 k + 1) ∧ g1 2 = .inl (cy 2, 24, .inr (.inr (.inr (.inr (va_up fB (4 * k + M.1 k) (some (ad n))))))) ∧ g1 3 = .inl (cy 0, 6, .inl (upd fs k (fs k + 1))) ∧ Fr g g1 [2, 3])) := by
  refine NI.mk (by decide) (by intros; first | rfl | (simp_all; done)) (Nat.le_of_ble_eq_true rfl) ?_
  intro jp je js jm below meth jc A Q X hW ret ls hl
  have jx := X.hx
  have jb := X.hb
  have hl : lv_has ls 3 [(0, .ref (ad 1)), (1, .int (nI k)), (2, .ref (ad n))] := hl
  have X : Cx G cy jp js jm _ jc cX2_add 3 RX2 A js.heap := X
  have h83 : 83 ≤ N := hM0.2.1
  refine lv_aload_n jx jb dX2_add_0 rfl (lv_at hl 0 rfl) ?_
  refine lv_iload_n jx jb dX2_add_1 rfl (lv_at hl 1 rfl) ?_
  refine w_rV (As := [.int (nI k)]) X hW (c_hasRoom hM0) (by omega) f1 rfl rfl ml_X2_25 mf_X2_hasRoom ⟨Nat.le_of_ble_eq_true rfl, Nat.le_of_ble_eq_true rfl⟩ hl.1 rfl (Nat.le_of_ble_eq_true rfl) ⟨Nat.le_of_ble_eq_true rfl, Nat.le_of_ble_eq_true rfl⟩ dX2_add_2 (fun H locs hW => ?_)
  refine lv_if_ne (tgt := 10) jx jb dX2_add_5 (by decide) (fun c5 => ?_) (fun c5 => ?_)
  · refine lv_aload_n jx jb dX2_add_10 rfl (lv_at hl 0 rfl) ?_
    refine lv_iload_n jx jb dX2_add_11 rfl (lv_at hl 1 rfl) ?_
    refine lv_iconst (v := 4) jx jb dX2_add_12 (by decide) ?_
    refine lv_imul jx jb dX2_add_13 ?_
    refine lv_aload_n jx jb dX2_add_14 rfl (lv_at hl 0 rfl) ?_
    refine w_get X hW K2 (by omega) f1 1 (by decide) fl_X2_17 rfl dX2_add_15 ?_
    refine lv_iload_n jx jb dX2_add_18 rfl (lv_at hl 1 rfl) ?_
    refine w_ild X hW (by omega) f3 k rfl hk (by decide) dX2_add_19 ?_
    refine lv_iadd jx jb dX2_add_20 ?_
    refine top_eq (y := nI (4 * k + M.1 k)) (by rw [f4 k hk, show (4 : Int32) = nI 4 from rfl, pk_mul, nI_add, Nat.mul_comm]) ?_
    refine lv_aload_n jx jb dX2_add_21 rfl (lv_at hl 2 rfl) ?_
    refine w_nVv (As := [.int (nI (4 * k + M.1 k)), .ref (ad n)]) X hW (c_put h83 f1 f2 f3 (by omega) hn hg) (by omega) f1 rfl rfl ml_X2_29 mf_X2_put ⟨Nat.le_of_ble_eq_true rfl, Nat.le_of_ble_eq_true rfl⟩ hl.1 rfl (Nat.le_of_ble_eq_true rfl) ⟨Nat.le_of_ble_eq_true rfl, Nat.le_of_ble_eq_true rfl⟩ dX2_add_22 (fun g1 H locs hp hW => ?_)
    obtain ⟨p2, pfr⟩ := hp
    have hf1 : g1 1 = .inr (2, [.ref (ad 2), .ref (ad 3)]) := (pfr 1 (by simp only [List.mem_cons, List.not_mem_nil, or_false, not_or] <;> omega)).trans f1
    have hf2 : g1 3 = .inl (cy 0, 6, .inl fs) := (pfr 3 (by simp only [List.mem_cons, List.not_mem_nil, or_false, not_or] <;> omega)).trans f3
    refine lv_aload_n jx jb dX2_add_25 rfl (lv_at hl 0 rfl) ?_
    refine w_get X hW K2 (by omega) hf1 1 (by decide) fl_X2_17 rfl dX2_add_26 ?_
    refine lv_iload_n jx jb dX2_add_29 rfl (lv_at hl 1 rfl) ?_
    refine lv_dup2_11 jx jb dX2_add_30 rfl rfl ?_
    refine w_ild X hW (by omega) hf2 k rfl hk (by decide) dX2_add_31 ?_
    refine lv_iconst (v := 1) jx jb dX2_add_32 (by decide) ?_
    refine lv_iadd jx jb dX2_add_33 ?_
    refine w_ist X hW (by omega) hf2 k rfl hk (by decide) dX2_add_34 (fun H locs hW => ?_)
    obtain ⟨g_3, eg_3⟩ : ∃ zz, zz = va_up g1 3 (.inl (cy 0, 6, .inl (upd fs k ((fs k) + 1)))) := ⟨_, rfl⟩
    have hW : Wd G A js.heap (N, ad, g_3) H locs := by rw [eg_3]; exact hW
    have hf4 : g_3 1 = .inr (2, [.ref (ad 2), .ref (ad 3)]) := by rw [eg_3]; exact (va_up_n (by decide)).trans hf1
    have hf5 : g_3 2 = .inl (cy 2, 24, .inr (.inr (.inr (.inr (va_up fB (4 * k + M.1 k) (some (ad n))))))) := by rw [eg_3]; exact (va_up_n (by decide)).trans p2
    have hf6 : g_3 3 = .inl (cy 0, 6, .inl (upd fs k ((fs k) + 1))) := by rw [eg_3]; exact va_up_s
    refine lv_aload_n jx jb dX2_add_35 rfl (lv_at hl 0 rfl) ?_
    refine w_get X hW K2 (by omega) hf4 1 (by decide) fl_X2_17 rfl dX2_add_36 ?_
    refine lv_iload_n jx jb dX2_add_39 rfl (lv_at hl 1 rfl) ?_
    refine w_ild X hW (by omega) hf6 k rfl hk (by decide) dX2_add_40 ?_
    exact ret _ _ _ _ _ _ dX2_add_41 hW ⟨by rw [pk_us, f4 k hk]; exact nI_1 _, hf5, hf6, (fun k hk => by show g_3 k = _; simp only [List.mem_cons, List.not_mem_nil, or_false, not_or] at hk; rw [eg_3, va_up_n (by omega), pfr k (by simp only [List.mem_cons, List.not_mem_nil, or_false, not_or] <;> omega)])⟩
  · exact absurd c5 (bI_n0.mpr ((hasR_nI hk).mpr hm))

set_option maxHeartbeats 4000000 in
set_option maxRecDepth 100000 in
theorem c_allBits {l : Launch} {G : va_G} {cy : Nat → ClassId} {N : Nat} {ad : Nat → Nat} {g : Nat → va_E} {M : M4} (hM : MachAt cy N ad g M) : RI l G cy (N, ad, g) yX2_allBits cX2_allBits 3 (some .int) (rmN 0) [.ref (ad 1)] (abq M 24) := by
  refine RI.mk (by decide) (by first | rfl | exact bI_nar) (Nat.le_of_ble_eq_true rfl) ?_
  intro jp je js jm below meth jc A Q X hW ret ls hl
  have jx := X.hx
  have jb := X.hb
  have hl : lv_has ls 3 [(0, .ref (ad 1))] := hl
  have X : Cx G cy jp js jm _ jc cX2_allBits 3 RX2 A js.heap := X
  obtain ⟨hok, h83, bc, fs, f1, ⟨fB, f2, hfb0⟩, f3, f4, f5, f6⟩ := hM
  refine lv_iconst (v := 0) jx jb dX2_allBits_0 (by decide) ?_
  refine lv_istore_n (lv' := [(1, .int 0), (0, .ref (ad 1))]) jx jb dX2_allBits_1 rfl hl (by decide) rfl (fun ls hl => ?_)
  refine lv_iconst (v := 0) jx jb dX2_allBits_2 (by decide) ?_
  refine lv_istore_n (lv' := [(2, .int 0), (1, .int 0), (0, .ref (ad 1))]) jx jb dX2_allBits_3 rfl hl (by decide) rfl (fun ls hl => ?_)
  have loop4 : ∀ (fuel4 : Nat) (b : Nat) (H : Heap) (locs : List Loc) (ls : Array Slot), (b ≤ 24) → 24 - b < fuel4 → Wd G A js.heap (N, ad, g) H locs → lv_has ls 3 [(0, .ref (ad 1)), (1, .int (abq M b)), (2, .int (nI b))] → W jp l je (rmN 0) js jm [.ref (ad 1)].toArray below meth jc H locs 0 0 Q (F0 jm 4 ls []) := by
    intro fuel4
    induction fuel4 with
    | zero => intro b H locs ls hb  hm4; exact absurd hm4 (Nat.not_lt_zero _)
    | succ fuel4 ih4 =>
      intro b H locs ls hb  hm4 hW hl
      refine lv_iload_n jx jb dX2_allBits_4 rfl (lv_at hl 2 rfl) ?_
      refine lv_bipush (v := 24) jx jb dX2_allBits_5 (by decide) ?_
      refine lv_icmp_ge (tgt := 31) jx jb dX2_allBits_7 (by decide) (fun c7 => ?_) (fun c7 => ?_)
      · refine lv_iload_n jx jb dX2_allBits_31 rfl (lv_at hl 1 rfl) ?_
        exact ret _ _ _ _ _ dX2_allBits_32 hW (by have := n_le (a := 24) (by decide) (by omega) c7; rw [show b = 24 by omega])
      · have hlt : b < 24 := n_nle (a := 24) (by decide) (by omega) c7
        refine lv_aload_n jx jb dX2_allBits_10 rfl (lv_at hl 0 rfl) ?_
        refine w_get X hW K2 (by omega) f1 0 (by decide) fl_X2_11 rfl dX2_allBits_11 ?_
        refine lv_iload_n jx jb dX2_allBits_14 rfl (lv_at hl 2 rfl) ?_
        refine w_ald X hW (by omega) (t := 2) rfl f2 b rfl hlt (by decide) dX2_allBits_15 ?_
        by_cases hq : b % 4 < M.1 (b / 4)
        · obtain ⟨n, n1, n2, n3, n4⟩ := f5 b hlt hq
          refine top_q (y := some (ad n)) (by rw [hfb0 _ (by omega), n1]; rfl) ?_
          refine lv_ifnull jx jb dX2_allBits_16 ?_
          refine lv_iload_n jx jb dX2_allBits_19 rfl (lv_at hl 1 rfl) ?_
          refine lv_iconst (v := 1) jx jb dX2_allBits_20 (by decide) ?_
          refine lv_iload_n jx jb dX2_allBits_21 rfl (lv_at hl 2 rfl) ?_
          refine lv_ishl jx jb dX2_allBits_22 ?_
          refine lv_ior jx jb dX2_allBits_23 ?_
          refine top_eq (y := abq M (b + 1)) ((if_pos hq).symm) ?_
          refine lv_istore_n (lv' := [(1, .int (abq M (b + 1))), (0, .ref (ad 1)), (2, .int (nI b))]) jx jb dX2_allBits_24 rfl hl (by decide) rfl (fun ls hl => ?_)
          refine lv_iinc (v := nI (b + 1)) (lv' := [(2, .int (nI (b + 1))), (1, .int (abq M (b + 1))), (0, .ref (ad 1))]) jx jb dX2_allBits_25 hl (k := 2) rfl (show nI b + 1 = nI (b + 1) from nI_1 _) (by decide) rfl (fun ls hl => ?_)
          refine lv_goto (tgt := 4) jx jb dX2_allBits_28 (by decide) ?_
          exact ih4 (b + 1)  _ _ _ (by omega)  (by omega) hW (lv_sub hl [2, 1, 0] rfl)
        · refine top_q (y := none) (by rw [hfb0 _ (by omega), f6 b hlt hq]; rfl) ?_
          refine lv_ifnullN (tgt := 25) jx jb dX2_allBits_16 (by decide) ?_
          have hl : lv_has ls 3 [(0, .ref (ad 1)), (1, .int (abq M (b + 1))), (2, .int (nI b))] := by rw [show abq M (b + 1) = abq M b from if_neg hq]; exact hl
          refine lv_iinc (v := nI (b + 1)) (lv' := [(2, .int (nI (b + 1))), (0, .ref (ad 1)), (1, .int (abq M (b + 1)))]) jx jb dX2_allBits_25 hl (k := 2) rfl (show nI b + 1 = nI (b + 1) from nI_1 _) (by decide) rfl (fun ls hl => ?_)
          refine lv_goto (tgt := 4) jx jb dX2_allBits_28 (by decide) ?_
          exact ih4 (b + 1)  _ _ _ (by omega)  (by omega) hW (lv_sub hl [1, 2, 0] rfl)
  exact loop4 _ 0  _ _ _ (by omega)  (Nat.lt_succ_self _) hW (lv_sub hl [2, 1, 0] rfl)

set_option maxHeartbeats 4000000 in
set_option maxRecDepth 100000 in
theorem c_takenBy {l : Launch} {G : va_G} {cy : Nat → ClassId} {N : Nat} {ad : Nat → Nat} {g : Nat → va_E} {M : M4} {c0 st : Nat} (hM0 : MachAt cy N ad g M) (hc : c0 < 96) (hs : st < 65536) : RI l G cy (N, ad, g) yX2_takenBy cX2_takenBy 6 (some .int) (rmN 2) [.ref (ad 1), .int (nI c0), .int (nI st)] (tI (tk M (c0 / 16) st)) := by
  refine RI.mk (by decide) (by first | rfl | exact bI_nar) (Nat.le_of_ble_eq_true rfl) ?_
  intro jp je js jm below meth jc A Q X hW ret ls hl
  have jx := X.hx
  have jb := X.hb
  have hl : lv_has ls 6 [(0, .ref (ad 1)), (1, .int (nI c0)), (2, .int (nI st))] := hl
  have X : Cx G cy jp js jm _ jc cX2_takenBy 6 RX2 A js.heap := X
  obtain ⟨hok, h83, bc, fs, f1, ⟨fB, f2, hfb0⟩, f3, f4, f5, f6⟩ := id hM0
  have hk6 : c0 / 16 < 6 := by omega
  have hm4 := hok.1 _ hk6
  refine lv_iload_n jx jb dX2_takenBy_0 rfl (lv_at hl 1 rfl) ?_
  refine w_rN (As := [.int (nI c0)]) X hW (c_kindOf (by omega)) mn_X2_33 mf_X8_kindOf ⟨Nat.le_of_ble_eq_true rfl, Nat.le_of_ble_eq_true rfl⟩ hl.1 rfl (Nat.le_of_ble_eq_true rfl) ⟨Nat.le_of_ble_eq_true rfl, Nat.le_of_ble_eq_true rfl⟩ dX2_takenBy_1 (fun H locs hW => ?_)
  refine lv_istore_n (lv' := [(3, .int (nI (c0 / 16))), (0, .ref (ad 1)), (1, .int (nI c0)), (2, .int (nI st))]) jx jb dX2_takenBy_4 rfl hl (by decide) rfl (fun ls hl => ?_)
  refine lv_iload_n jx jb dX2_takenBy_5 rfl (lv_at hl 0 rfl) ?_
  refine lv_bipush (v := 6) jx jb dX2_takenBy_6 (by decide) ?_
  refine w_rN (As := [.int (nI (c0 / 16)), .int 6]) X hW (c_isBelow) mn_X2_21 mf_X8_isBelow ⟨Nat.le_of_ble_eq_true rfl, Nat.le_of_ble_eq_true rfl⟩ hl.1 rfl (Nat.le_of_ble_eq_true rfl) ⟨Nat.le_of_ble_eq_true rfl, Nat.le_of_ble_eq_true rfl⟩ dX2_takenBy_8 (fun H locs hW => ?_)
  refine lv_if_ne (tgt := 16) jx jb dX2_takenBy_11 (by decide) (fun c11 => ?_) (fun c11 => ?_)
  · refine lv_iload_n jx jb dX2_takenBy_16 rfl (lv_at hl 0 rfl) ?_
    refine lv_iconst (v := 4) jx jb dX2_takenBy_17 (by decide) ?_
    refine lv_imul jx jb dX2_takenBy_18 ?_
    refine top_eq (y := nI (4 * (c0 / 16) + 0)) (by rw [show (4 : Int32) = nI 4 from rfl, pk_mul, Nat.mul_comm]; rfl) ?_
    refine lv_istore (lv' := [(4, .int (nI (4 * (c0 / 16) + 0))), (3, .int (nI (c0 / 16))), (0, .ref (ad 1)), (1, .int (nI c0)), (2, .int (nI st))]) jx jb dX2_takenBy_19 hl (by decide) rfl (fun ls hl => ?_)
    refine lv_iload jx jb dX2_takenBy_21 (lv_at hl 0 rfl) ?_
    refine lv_istore (lv' := [(5, .int (nI (4 * (c0 / 16) + 0))), (4, .int (nI (4 * (c0 / 16) + 0))), (3, .int (nI (c0 / 16))), (0, .ref (ad 1)), (1, .int (nI c0)), (2, .int (nI st))]) jx jb dX2_takenBy_23 hl (by decide) rfl (fun ls hl => ?_)
    have loop25 : ∀ (fuel25 : Nat) (i : Nat) (H : Heap) (locs : List Loc) (ls : Array Slot), (i ≤ M.1 (c0 / 16)) → (fb (fun b => hold (M.2.1 b) st) (c0 / 16) i (M.1 (c0 / 16) - i) = tk M (c0 / 16) st) → M.1 (c0 / 16) - i < fuel25 → Wd G A js.heap (N, ad, g) H locs → lv_has ls 6 [(0, .ref (ad 1)), (1, .int (nI c0)), (2, .int (nI st)), (3, .int (nI (c0 / 16))), (4, .int (nI (4 * (c0 / 16) + 0))), (5, .int (nI (4 * (c0 / 16) + i)))] → W jp l je (rmN 2) js jm [.ref (ad 1), .int (nI c0), .int (nI st)].toArray below meth jc H locs 0 0 Q (F0 jm 25 ls []) := by
      intro fuel25
      induction fuel25 with
      | zero => intro i H locs ls hi hfb  hm25; exact absurd hm25 (Nat.not_lt_zero _)
      | succ fuel25 ih25 =>
        intro i H locs ls hi hfb  hm25 hW hl
        refine lv_iload jx jb dX2_takenBy_25 (lv_at hl 5 rfl) ?_
        refine lv_iload jx jb dX2_takenBy_27 (lv_at hl 4 rfl) ?_
        refine lv_aload_n jx jb dX2_takenBy_29 rfl (lv_at hl 0 rfl) ?_
        refine w_get X hW K2 (by omega) f1 1 (by decide) fl_X2_17 rfl dX2_takenBy_30 ?_
        refine lv_iload_n jx jb dX2_takenBy_33 rfl (lv_at hl 3 rfl) ?_
        refine w_ild X hW (by omega) f3 (c0 / 16) rfl hk6 (by decide) dX2_takenBy_34 ?_
        refine lv_iadd jx jb dX2_takenBy_35 ?_
        refine top_eq (y := nI (4 * (c0 / 16) + M.1 (c0 / 16))) (by rw [f4 _ hk6, nI_add]; rfl) ?_
        refine lv_icmp_ge (tgt := 71) jx jb dX2_takenBy_36 (by decide) (fun c36 => ?_) (fun c36 => ?_)
        · refine lv_iconst (v := -1) jx jb dX2_takenBy_71 (by decide) ?_
          exact ret _ _ _ _ _ dX2_takenBy_72 hW (by have := n_le (by omega) (by omega) c36; have h0 : M.1 (c0 / 16) - i = 0 := (by omega); rw [← hfb, h0]; rfl)
        · have hlt : i < M.1 (c0 / 16) := by have := n_nle (by omega) (by omega) c36; omega
          have hbit : 4 * (c0 / 16) + i < 24 := by omega
          have hth : (4 * (c0 / 16) + i) % 4 < M.1 ((4 * (c0 / 16) + i) / 4) := by rw [show (4 * (c0 / 16) + i) / 4 = c0 / 16 by omega]; omega
          obtain ⟨n, n1, n2, n3, n4⟩ := f5 _ hbit hth
          obtain ⟨w1, w2, w3⟩ := hok.2 _ hbit hth
          have hd : M.1 (c0 / 16) - i = (M.1 (c0 / 16) - i - 1) + 1 := by omega
          refine lv_aload_n jx jb dX2_takenBy_39 rfl (lv_at hl 0 rfl) ?_
          refine lv_iload jx jb dX2_takenBy_40 (lv_at hl 5 rfl) ?_
          refine w_rV (As := [.int (nI (4 * (c0 / 16) + i))]) X hW (c_has hM0) (by omega) f1 rfl rfl ml_X2_37 mf_X2_has ⟨Nat.le_of_ble_eq_true rfl, Nat.le_of_ble_eq_true rfl⟩ hl.1 rfl (Nat.le_of_ble_eq_true rfl) ⟨Nat.le_of_ble_eq_true rfl, Nat.le_of_ble_eq_true rfl⟩ dX2_takenBy_42 (fun H locs hW => ?_)
          refine lv_if_eq (tgt := 65) jx jb dX2_takenBy_45 (by decide) (fun c45 => ?_) (fun c45 => ?_)
          · exact absurd (bI_0.mp c45) (fun z => z ((isB_nI hbit).mpr hth))
          · refine lv_aload_n jx jb dX2_takenBy_48 rfl (lv_at hl 0 rfl) ?_
            refine w_get X hW K2 (by omega) f1 0 (by decide) fl_X2_11 rfl dX2_takenBy_49 ?_
            refine lv_iload jx jb dX2_takenBy_52 (lv_at hl 5 rfl) ?_
            refine w_ald X hW (by omega) (t := 2) rfl f2 (4 * (c0 / 16) + i) rfl hbit (by decide) dX2_takenBy_54 ?_
            refine top_q (y := some (ad n)) (by rw [hfb0 _ (by omega), n1]; rfl) ?_
            refine lv_iload_n jx jb dX2_takenBy_55 rfl (lv_at hl 2 rfl) ?_
            refine w_rV (As := [.int (nI st)]) X hW (c_holds n3 n4 w1 hs) n3 n4 rfl rfl ml_X2_40 mf_X0_holds ⟨Nat.le_of_ble_eq_true rfl, Nat.le_of_ble_eq_true rfl⟩ hl.1 rfl (Nat.le_of_ble_eq_true rfl) ⟨Nat.le_of_ble_eq_true rfl, Nat.le_of_ble_eq_true rfl⟩ dX2_takenBy_56 (fun H locs hW => ?_)
            refine lv_if_eq (tgt := 65) jx jb dX2_takenBy_59 (by decide) (fun c59 => ?_) (fun c59 => ?_)
            · have hnh := bI_0.mp c59
              refine lv_iinc (v := nI ((4 * (c0 / 16) + i) + 1)) (lv' := [(5, .int (nI ((4 * (c0 / 16) + i) + 1))), (0, .ref (ad 1)), (1, .int (nI c0)), (2, .int (nI st)), (3, .int (nI (c0 / 16))), (4, .int (nI (4 * (c0 / 16) + 0)))]) jx jb dX2_takenBy_65 hl (k := 5) rfl (show nI (4 * (c0 / 16) + i) + 1 = nI ((4 * (c0 / 16) + i) + 1) from nI_1 _) (by decide) rfl (fun ls hl => ?_)
              refine lv_goto (tgt := 25) jx jb dX2_takenBy_68 (by decide) ?_
              exact ih25 (i + 1)  _ _ _ (by omega) (by rw [← hfb, hd, fb, if_neg hnh, show M.1 (c0 / 16) - (i + 1) = M.1 (c0 / 16) - i - 1 by omega])  (by omega) hW (lv_sub hl [1, 2, 3, 4, 5, 0] rfl)
            · refine lv_iload jx jb dX2_takenBy_62 (lv_at hl 5 rfl) ?_
              exact ret _ _ _ _ _ dX2_takenBy_64 hW (by rw [← hfb, hd, fb, if_pos (bI_n0.mp c59)]; rfl)
    exact loop25 _ 0  _ _ _ (by omega) rfl  (Nat.lt_succ_self _) hW (lv_sub hl [3, 4, 5, 2, 1, 0] rfl)
  · exact absurd (c11.symm.trans (bel_t (b := 6) hk6 (by decide))) (by decide)

set_option maxHeartbeats 4000000 in
set_option maxRecDepth 100000 in
theorem c_mStateBehind {l : Launch} {G : va_G} {cy : Nat → ClassId} {N : Nat} {ad : Nat → Nat} {g : Nat → va_E} {M : M4} {k st num : Nat} (hM0 : MachAt cy N ad g M) (hk : k < 6) (hs : st < 65536) (hnum : num < 16) : RI l G cy (N, ad, g) yX2_stateBehind cX2_stateBehind 4 (some .int) (rmN 2) [.ref (ad 1), .int (tI (tk M k st)), .int (nI st), .int (nI num)] (nI (nx M (tk M k st) st num)) := by
  refine RI.mk (by decide) (by first | rfl | exact bI_nar) (Nat.le_of_ble_eq_true rfl) ?_
  intro jp je js jm below meth jc A Q X hW ret ls hl
  have jx := X.hx
  have jb := X.hb
  have hl : lv_has ls 4 [(0, .ref (ad 1)), (1, .int (tI (tk M k st))), (2, .int (nI st)), (3, .int (nI num))] := hl
  have X : Cx G cy jp js jm _ jc cX2_stateBehind 4 RX2 A js.heap := X
  obtain ⟨hok, h83, bc, fs, f1, ⟨fB, f2, hfb0⟩, f3, f4, f5, f6⟩ := id hM0
  refine lv_aload_n jx jb dX2_stateBehind_0 rfl (lv_at hl 0 rfl) ?_
  refine lv_iload_n jx jb dX2_stateBehind_1 rfl (lv_at hl 1 rfl) ?_
  refine w_rV (As := [.int (tI (tk M k st))]) X hW (c_has hM0) (by omega) f1 rfl rfl ml_X2_37 mf_X2_has ⟨Nat.le_of_ble_eq_true rfl, Nat.le_of_ble_eq_true rfl⟩ hl.1 rfl (Nat.le_of_ble_eq_true rfl) ⟨Nat.le_of_ble_eq_true rfl, Nat.le_of_ble_eq_true rfl⟩ dX2_stateBehind_2 (fun H locs hW => ?_)
  refine lv_if_eq (tgt := 22) jx jb dX2_stateBehind_5 (by decide) (fun c5 => ?_) (fun c5 => ?_)
  · refine lv_iload_n jx jb dX2_stateBehind_22 rfl (lv_at hl 2 rfl) ?_
    exact ret _ _ _ _ _ dX2_stateBehind_23 hW (by cases h : tk M k st with | none => rfl | some b => exact absurd ((tI_isB hok hk).mpr ⟨b, h⟩) (bI_0.mp c5))
  · obtain ⟨b, hb⟩ := (tI_isB hok hk).mp (bI_n0.mp c5)
    obtain ⟨b1, b2, b3⟩ := tk_some hok hk hb
    obtain ⟨n, n1, n2, n3, n4⟩ := f5 b b1 b3
    obtain ⟨w1, w2, w3⟩ := hok.2 b b1 b3
    refine lv_aload_n jx jb dX2_stateBehind_8 rfl (lv_at hl 0 rfl) ?_
    refine w_get X hW K2 (by omega) f1 0 (by decide) fl_X2_11 rfl dX2_stateBehind_9 ?_
    refine lv_iload_n jx jb dX2_stateBehind_12 rfl (lv_at hl 1 rfl) ?_
    refine w_ald X hW (by omega) (t := 2) rfl f2 b (by rw [hb]; rfl) b1 (by decide) dX2_stateBehind_13 ?_
    refine top_q (y := some (ad n)) (by rw [hfb0 _ (by omega), n1]; rfl) ?_
    refine lv_iload_n jx jb dX2_stateBehind_14 rfl (lv_at hl 2 rfl) ?_
    refine lv_iload_n jx jb dX2_stateBehind_15 rfl (lv_at hl 3 rfl) ?_
    refine w_rV (As := [.int (nI st), .int (nI num)]) X hW (c_brStateBehind n3 n4 w2 hs hnum) n3 n4 rfl rfl ml_X2_43 mf_X0_stateBehind ⟨Nat.le_of_ble_eq_true rfl, Nat.le_of_ble_eq_true rfl⟩ hl.1 rfl (Nat.le_of_ble_eq_true rfl) ⟨Nat.le_of_ble_eq_true rfl, Nat.le_of_ble_eq_true rfl⟩ dX2_stateBehind_16 (fun H locs hW => ?_)
    refine lv_goto (tgt := 23) jx jb dX2_stateBehind_19 (by decide) ?_
    exact ret _ _ _ _ _ dX2_stateBehind_23 hW (by rw [hb]; rfl)

set_option maxHeartbeats 4000000 in
set_option maxRecDepth 100000 in
theorem c_resultOf {l : Launch} {G : va_G} {cy : Nat → ClassId} {N : Nat} {ad : Nat → Nat} {g : Nat → va_E} {M : M4} {k st st2 : Nat} (hM0 : MachAt cy N ad g M) (hk : k < 6) (hs : st2 < 65536) : RI l G cy (N, ad, g) yX2_resultOf cX2_resultOf 3 (some .int) (rmN 2) [.ref (ad 1), .int (tI (tk M k st)), .int (nI st2)] (rs M (tk M k st) st2) := by
  refine RI.mk (by decide) (by first | rfl | exact bI_nar) (Nat.le_of_ble_eq_true rfl) ?_
  intro jp je js jm below meth jc A Q X hW ret ls hl
  have jx := X.hx
  have jb := X.hb
  have hl : lv_has ls 3 [(0, .ref (ad 1)), (1, .int (tI (tk M k st))), (2, .int (nI st2))] := hl
  have X : Cx G cy jp js jm _ jc cX2_resultOf 3 RX2 A js.heap := X
  obtain ⟨hok, h83, bc, fs, f1, ⟨fB, f2, hfb0⟩, f3, f4, f5, f6⟩ := id hM0
  refine lv_aload_n jx jb dX2_resultOf_0 rfl (lv_at hl 0 rfl) ?_
  refine lv_iload_n jx jb dX2_resultOf_1 rfl (lv_at hl 1 rfl) ?_
  refine w_rV (As := [.int (tI (tk M k st))]) X hW (c_has hM0) (by omega) f1 rfl rfl ml_X2_37 mf_X2_has ⟨Nat.le_of_ble_eq_true rfl, Nat.le_of_ble_eq_true rfl⟩ hl.1 rfl (Nat.le_of_ble_eq_true rfl) ⟨Nat.le_of_ble_eq_true rfl, Nat.le_of_ble_eq_true rfl⟩ dX2_resultOf_2 (fun H locs hW => ?_)
  refine lv_if_eq (tgt := 21) jx jb dX2_resultOf_5 (by decide) (fun c5 => ?_) (fun c5 => ?_)
  · refine lv_iconst (v := -1) jx jb dX2_resultOf_21 (by decide) ?_
    exact ret _ _ _ _ _ dX2_resultOf_22 hW (by cases h : tk M k st with | none => rfl | some b => exact absurd ((tI_isB hok hk).mpr ⟨b, h⟩) (bI_0.mp c5))
  · obtain ⟨b, hb⟩ := (tI_isB hok hk).mp (bI_n0.mp c5)
    obtain ⟨b1, b2, b3⟩ := tk_some hok hk hb
    obtain ⟨n, n1, n2, n3, n4⟩ := f5 b b1 b3
    obtain ⟨w1, w2, w3⟩ := hok.2 b b1 b3
    refine lv_aload_n jx jb dX2_resultOf_8 rfl (lv_at hl 0 rfl) ?_
    refine w_get X hW K2 (by omega) f1 0 (by decide) fl_X2_11 rfl dX2_resultOf_9 ?_
    refine lv_iload_n jx jb dX2_resultOf_12 rfl (lv_at hl 1 rfl) ?_
    refine w_ald X hW (by omega) (t := 2) rfl f2 b (by rw [hb]; rfl) b1 (by decide) dX2_resultOf_13 ?_
    refine top_q (y := some (ad n)) (by rw [hfb0 _ (by omega), n1]; rfl) ?_
    refine lv_iload_n jx jb dX2_resultOf_14 rfl (lv_at hl 2 rfl) ?_
    refine w_rV (As := [.int (nI st2)]) X hW (c_resultIn n3 n4 w3 hs) n3 n4 rfl rfl ml_X2_47 mf_X0_resultIn ⟨Nat.le_of_ble_eq_true rfl, Nat.le_of_ble_eq_true rfl⟩ hl.1 rfl (Nat.le_of_ble_eq_true rfl) ⟨Nat.le_of_ble_eq_true rfl, Nat.le_of_ble_eq_true rfl⟩ dX2_resultOf_15 (fun H locs hW => ?_)
    refine lv_goto (tgt := 22) jx jb dX2_resultOf_18 (by decide) ?_
    exact ret _ _ _ _ _ dX2_resultOf_22 hW (by rw [hb]; rfl)
end
section
/-- a row's cells: the object n, its calls c, its results r -/
def RowAt (cy : Nat → ClassId) (N : Nat) (ad : Nat → Nat) (g : Nat → va_E) (n c r sz : Nat) (fc fr : Nat → Int32) : Prop := n < N ∧ c < N ∧ r < N ∧ n ≠ c ∧ n ≠ r ∧ c ≠ r ∧ sz ≤ 200 ∧ g n = .inr (5, [.ref (ad c), .ref (ad r), .int (nI sz)]) ∧ g c = .inl (cy 0, 200, .inl fc) ∧ g r = .inl (cy 0, 200, .inl fr)
theorem RowAt.fr {cy : Nat → ClassId} {N : Nat} {ad : Nat → Nat} {g g' : Nat → va_E} {n c r sz : Nat} {fc fr : Nat → Int32} (h : RowAt cy N ad g n c r sz fc fr) (h1 : g' n = g n) (h2 : g' c = g c) (h3 : g' r = g r) : RowAt cy N ad g' n c r sz fc fr := by
  obtain ⟨a1, a2, a3, a4, a5, a6, a7, a8, a9, a10⟩ := h
  exact ⟨a1, a2, a3, a4, a5, a6, a7, h1.trans a8, h2.trans a9, h3.trans a10⟩
def anyK (cl : Nat → Nat) (kd : Nat) : Nat → Bool
  | 0 => false
  | n + 1 => anyK cl kd n || decide (cl n / 16 = kd)
theorem anyK_mono {cl : Nat → Nat} {kd a : Nat} (h : anyK cl kd a = true) : ∀ {b : Nat}, a ≤ b → anyK cl kd b = true
  | 0, hb => by rw [show a = 0 by omega] at h; exact h
  | b + 1, hb => by
    by_cases e : a = b + 1
    · rw [← e]; exact h
    · unfold anyK
      rw [anyK_mono h (b := b) (by omega)]
      rfl
def sameK (f f' : Nat → Int32) : Nat → Bool
  | 0 => true
  | n + 1 => sameK f f' n && decide (f n = f' n)
theorem sameK_mono {f f' : Nat → Int32} {a : Nat} (h : sameK f f' a = false) : ∀ {b : Nat}, a ≤ b → sameK f f' b = false
  | 0, hb => by rw [show a = 0 by omega] at h; exact h
  | b + 1, hb => by
    by_cases e : a = b + 1
    · rw [← e]; exact h
    · unfold sameK
      rw [sameK_mono h (b := b) (by omega)]
      rfl

set_option maxHeartbeats 4000000 in
set_option maxRecDepth 100000 in
theorem c_rSize {l : Launch} {G : va_G} {cy : Nat → ClassId} {N : Nat} {ad : Nat → Nat} {g : Nat → va_E} {n c r sz : Nat} {fc fr : Nat → Int32} (hR : RowAt cy N ad g n c r sz fc fr) : RI l G cy (N, ad, g) yX5_size cX5_size 1 (some .int) (rmN 0) [.ref (ad n)] (nI sz) := by
  refine RI.mk (by decide) (by first | rfl | exact bI_nar) (Nat.le_of_ble_eq_true rfl) ?_
  intro jp je js jm below meth jc A Q X hW ret ls hl
  have jx := X.hx
  have jb := X.hb
  have hl : lv_has ls 1 [(0, .ref (ad n))] := hl
  have X : Cx G cy jp js jm _ jc cX5_size 1 RX5 A js.heap := X
  obtain ⟨hn, hc, hr, q1, q2, q3, hsz, fn, fc_, fr_⟩ := id hR
  refine lv_aload_n jx jb dX5_size_0 rfl (lv_at hl 0 rfl) ?_
  refine w_get X hW K5 hn fn 2 (by decide) fl_X5_18 rfl dX5_size_1 ?_
  exact ret _ _ _ _ _ dX5_size_4 hW rfl

set_option maxHeartbeats 4000000 in
set_option maxRecDepth 100000 in
theorem c_callAt {l : Launch} {G : va_G} {cy : Nat → ClassId} {N : Nat} {ad : Nat → Nat} {g : Nat → va_E} {n c r sz : Nat} {fc fr : Nat → Int32} {j : Nat} (hR : RowAt cy N ad g n c r sz fc fr) (hj : j < sz) : RI l G cy (N, ad, g) yX5_callAt cX5_callAt 2 (some .int) (rmN 1) [.ref (ad n), .int (nI j)] (fc j) := by
  refine RI.mk (by decide) (by first | rfl | exact bI_nar) (Nat.le_of_ble_eq_true rfl) ?_
  intro jp je js jm below meth jc A Q X hW ret ls hl
  have jx := X.hx
  have jb := X.hb
  have hl : lv_has ls 2 [(0, .ref (ad n)), (1, .int (nI j))] := hl
  have X : Cx G cy jp js jm _ jc cX5_callAt 2 RX5 A js.heap := X
  obtain ⟨hn, hc, hr, q1, q2, q3, hsz, fn, fc_, fr_⟩ := id hR
  refine lv_iload_n jx jb dX5_callAt_0 rfl (lv_at hl 1 rfl) ?_
  refine lv_aload_n jx jb dX5_callAt_1 rfl (lv_at hl 0 rfl) ?_
  refine w_get X hW K5 hn fn 2 (by decide) fl_X5_18 rfl dX5_callAt_2 ?_
  refine w_rN (As := [.int (nI j), .int (nI sz)]) X hW (c_isBelow) mn_X5_22 mf_X8_isBelow ⟨Nat.le_of_ble_eq_true rfl, Nat.le_of_ble_eq_true rfl⟩ hl.1 rfl (Nat.le_of_ble_eq_true rfl) ⟨Nat.le_of_ble_eq_true rfl, Nat.le_of_ble_eq_true rfl⟩ dX5_callAt_5 (fun H locs hW => ?_)
  refine lv_if_eq (tgt := 20) jx jb dX5_callAt_8 (by decide) (fun c8 => ?_) (fun c8 => ?_)
  · exact absurd (c8.symm.trans (bel_t hj (by omega))) (by decide)
  · refine lv_aload_n jx jb dX5_callAt_11 rfl (lv_at hl 0 rfl) ?_
    refine w_get X hW K5 hn fn 0 (by decide) fl_X5_9 rfl dX5_callAt_12 ?_
    refine lv_iload_n jx jb dX5_callAt_15 rfl (lv_at hl 1 rfl) ?_
    refine w_ild X hW hc fc_ j rfl (by omega) (by decide) dX5_callAt_16 ?_
    refine lv_goto (tgt := 21) jx jb dX5_callAt_17 (by decide) ?_
    exact ret _ _ _ _ _ dX5_callAt_21 hW rfl

set_option maxHeartbeats 4000000 in
set_option maxRecDepth 100000 in
theorem c_resultAt {l : Launch} {G : va_G} {cy : Nat → ClassId} {N : Nat} {ad : Nat → Nat} {g : Nat → va_E} {n c r sz : Nat} {fc fr : Nat → Int32} {j : Nat} (hR : RowAt cy N ad g n c r sz fc fr) (hj : j < sz) : RI l G cy (N, ad, g) yX5_resultAt cX5_resultAt 2 (some .int) (rmN 1) [.ref (ad n), .int (nI j)] (fr j) := by
  refine RI.mk (by decide) (by first | rfl | exact bI_nar) (Nat.le_of_ble_eq_true rfl) ?_
  intro jp je js jm below meth jc A Q X hW ret ls hl
  have jx := X.hx
  have jb := X.hb
  have hl : lv_has ls 2 [(0, .ref (ad n)), (1, .int (nI j))] := hl
  have X : Cx G cy jp js jm _ jc cX5_resultAt 2 RX5 A js.heap := X
  obtain ⟨hn, hc, hr, q1, q2, q3, hsz, fn, fc_, fr_⟩ := id hR
  refine lv_iload_n jx jb dX5_resultAt_0 rfl (lv_at hl 1 rfl) ?_
  refine lv_aload_n jx jb dX5_resultAt_1 rfl (lv_at hl 0 rfl) ?_
  refine w_get X hW K5 hn fn 2 (by decide) fl_X5_18 rfl dX5_resultAt_2 ?_
  refine w_rN (As := [.int (nI j), .int (nI sz)]) X hW (c_isBelow) mn_X5_22 mf_X8_isBelow ⟨Nat.le_of_ble_eq_true rfl, Nat.le_of_ble_eq_true rfl⟩ hl.1 rfl (Nat.le_of_ble_eq_true rfl) ⟨Nat.le_of_ble_eq_true rfl, Nat.le_of_ble_eq_true rfl⟩ dX5_resultAt_5 (fun H locs hW => ?_)
  refine lv_if_eq (tgt := 20) jx jb dX5_resultAt_8 (by decide) (fun c8 => ?_) (fun c8 => ?_)
  · exact absurd (c8.symm.trans (bel_t hj (by omega))) (by decide)
  · refine lv_aload_n jx jb dX5_resultAt_11 rfl (lv_at hl 0 rfl) ?_
    refine w_get X hW K5 hn fn 1 (by decide) fl_X5_15 rfl dX5_resultAt_12 ?_
    refine lv_iload_n jx jb dX5_resultAt_15 rfl (lv_at hl 1 rfl) ?_
    refine w_ild X hW hr fr_ j rfl (by omega) (by decide) dX5_resultAt_16 ?_
    refine lv_goto (tgt := 21) jx jb dX5_resultAt_17 (by decide) ?_
    exact ret _ _ _ _ _ dX5_resultAt_21 hW rfl

set_option maxHeartbeats 4000000 in
set_option maxRecDepth 100000 in
theorem c_rAdd {l : Launch} {G : va_G} {cy : Nat → ClassId} {N : Nat} {ad : Nat → Nat} {g : Nat → va_E} {n c r sz : Nat} {fc fr : Nat → Int32} {x y : Int32} (hR : RowAt cy N ad g n c r sz fc fr) (hs : sz < 200) : MV l G cy (N, ad, g) yX5_add cX5_add 3 none (rmN 0) [.ref (ad n), .int x, .int y] (nV N ad (fun g1 => RowAt cy N ad g1 n c r (sz + 1) (upd fc sz x) (upd fr sz y) ∧ Fr g g1 [n, c, r])) := by
  refine NV.mk (by decide) (Nat.le_of_ble_eq_true rfl) ?_
  intro jp je js jm below meth jc A Q X hW ret ls hl
  have jx := X.hx
  have jb := X.hb
  have hl : lv_has ls 3 [(0, .ref (ad n)), (1, .int x), (2, .int y)] := hl
  have X : Cx G cy jp js jm _ jc cX5_add 3 RX5 A js.heap := X
  obtain ⟨hn, hc, hr, q1, q2, q3, hsz, fn, fc_, fr_⟩ := id hR
  refine lv_aload_n jx jb dX5_add_0 rfl (lv_at hl 0 rfl) ?_
  refine w_get X hW K5 hn fn 2 (by decide) fl_X5_18 rfl dX5_add_1 ?_
  refine lv_sipush (v := 200) jx jb dX5_add_4 (by decide) ?_
  refine lv_icmp_ge (tgt := 40) jx jb dX5_add_7 (by decide) (fun c7 => ?_) (fun c7 => ?_)
  · exact absurd (n_le (a := 200) (by decide) (by omega) c7) (by omega)
  · refine lv_aload_n jx jb dX5_add_10 rfl (lv_at hl 0 rfl) ?_
    refine w_get X hW K5 hn fn 0 (by decide) fl_X5_9 rfl dX5_add_11 ?_
    refine lv_aload_n jx jb dX5_add_14 rfl (lv_at hl 0 rfl) ?_
    refine w_get X hW K5 hn fn 2 (by decide) fl_X5_18 rfl dX5_add_15 ?_
    refine lv_iload_n jx jb dX5_add_18 rfl (lv_at hl 1 rfl) ?_
    refine w_ist X hW hc fc_ sz rfl (by omega) (by decide) dX5_add_19 (fun H locs hW => ?_)
    obtain ⟨g_1, eg_1⟩ : ∃ zz, zz = va_up g c (.inl (cy 0, 200, .inl (upd fc sz x))) := ⟨_, rfl⟩
    have hW : Wd G A js.heap (N, ad, g_1) H locs := by rw [eg_1]; exact hW
    have hf2 : g_1 n = .inr (5, [.ref (ad c), .ref (ad r), .int (nI sz)]) := by rw [eg_1]; exact (va_up_n (by omega)).trans fn
    have hf3 : g_1 c = .inl (cy 0, 200, .inl (upd fc sz x)) := by rw [eg_1]; exact va_up_s
    have hf4 : g_1 r = .inl (cy 0, 200, .inl fr) := by rw [eg_1]; exact (va_up_n (by omega)).trans fr_
    refine lv_aload_n jx jb dX5_add_20 rfl (lv_at hl 0 rfl) ?_
    refine w_get X hW K5 hn hf2 1 (by decide) fl_X5_15 rfl dX5_add_21 ?_
    refine lv_aload_n jx jb dX5_add_24 rfl (lv_at hl 0 rfl) ?_
    refine w_get X hW K5 hn hf2 2 (by decide) fl_X5_18 rfl dX5_add_25 ?_
    refine lv_iload_n jx jb dX5_add_28 rfl (lv_at hl 2 rfl) ?_
    refine w_ist X hW hr hf4 sz rfl (by omega) (by decide) dX5_add_29 (fun H locs hW => ?_)
    obtain ⟨g_5, eg_5⟩ : ∃ zz, zz = va_up g_1 r (.inl (cy 0, 200, .inl (upd fr sz y))) := ⟨_, rfl⟩
    have hW : Wd G A js.heap (N, ad, g_5) H locs := by rw [eg_5]; exact hW
    have hf6 : g_5 n = .inr (5, [.ref (ad c), .ref (ad r), .int (nI sz)]) := by rw [eg_5]; exact (va_up_n (by omega)).trans hf2
    have hf7 : g_5 c = .inl (cy 0, 200, .inl (upd fc sz x)) := by rw [eg_5]; exact (va_up_n (by omega)).trans hf3
    have hf8 : g_5 r = .inl (cy 0, 200, .inl (upd fr sz y)) := by rw [eg_5]; exact va_up_s
    refine lv_aload_n jx jb dX5_add_30 rfl (lv_at hl 0 rfl) ?_
    refine lv_dup jx jb dX5_add_31 rfl ?_
    refine w_get X hW K5 hn hf6 2 (by decide) fl_X5_18 rfl dX5_add_32 ?_
    refine lv_iconst (v := 1) jx jb dX5_add_35 (by decide) ?_
    refine lv_iadd jx jb dX5_add_36 ?_
    refine top_eq (y := nI (sz + 1)) (nI_1 _) ?_
    refine w_put X hW K5 hn hf6 2 (by decide) fl_X5_18 rfl rfl rfl (Nat.le_of_ble_eq_true rfl) dX5_add_37 (fun H locs hW => ?_)
    obtain ⟨g_9, eg_9⟩ : ∃ zz, zz = va_up g_5 n (.inr (5, [.ref (ad c), .ref (ad r), .int (nI (sz + 1))])) := ⟨_, rfl⟩
    have hW : Wd G A js.heap (N, ad, g_9) H locs := by rw [eg_9]; exact hW
    have hf10 : g_9 n = .inr (5, [.ref (ad c), .ref (ad r), .int (nI (sz + 1))]) := by rw [eg_9]; exact va_up_s
    have hf11 : g_9 c = .inl (cy 0, 200, .inl (upd fc sz x)) := by rw [eg_9]; exact (va_up_n (by omega)).trans hf7
    have hf12 : g_9 r = .inl (cy 0, 200, .inl (upd fr sz y)) := by rw [eg_9]; exact (va_up_n (by omega)).trans hf8
    exact ret _ _ _ _ _ dX5_add_40 hW ⟨⟨hn, hc, hr, q1, q2, q3, by omega, hf10, hf11, hf12⟩, (fun k hk => by show g_9 k = _; simp only [List.mem_cons, List.not_mem_nil, or_false, not_or] at hk; rw [eg_9, va_up_n (by omega), eg_5, va_up_n (by omega), eg_1, va_up_n (by omega)])⟩

set_option maxHeartbeats 4000000 in
set_option maxRecDepth 100000 in
theorem c_move {l : Launch} {G : va_G} {cy : Nat → ClassId} {N : Nat} {ad : Nat → Nat} {g : Nat → va_E} {n c r sz : Nat} {fc fr : Nat → Int32} {a b : Nat} (hR : RowAt cy N ad g n c r sz fc fr) (ha : a < sz) (hb : b < sz) : MV l G cy (N, ad, g) yX5_move cX5_move 3 none (rmN 1) [.ref (ad n), .int (nI a), .int (nI b)] (nV N ad (fun g1 => RowAt cy N ad g1 n c r sz (upd fc b (fc a)) fr ∧ Fr g g1 [n, c, r])) := by
  refine NV.mk (by decide) (Nat.le_of_ble_eq_true rfl) ?_
  intro jp je js jm below meth jc A Q X hW ret ls hl
  have jx := X.hx
  have jb := X.hb
  have hl : lv_has ls 3 [(0, .ref (ad n)), (1, .int (nI a)), (2, .int (nI b))] := hl
  have X : Cx G cy jp js jm _ jc cX5_move 3 RX5 A js.heap := X
  obtain ⟨hn, hc, hr, q1, q2, q3, hsz, fn, fc_, fr_⟩ := id hR
  refine lv_iload_n jx jb dX5_move_0 rfl (lv_at hl 1 rfl) ?_
  refine lv_aload_n jx jb dX5_move_1 rfl (lv_at hl 0 rfl) ?_
  refine w_get X hW K5 hn fn 2 (by decide) fl_X5_18 rfl dX5_move_2 ?_
  refine w_rN (As := [.int (nI a), .int (nI sz)]) X hW (c_isBelow) mn_X5_22 mf_X8_isBelow ⟨Nat.le_of_ble_eq_true rfl, Nat.le_of_ble_eq_true rfl⟩ hl.1 rfl (Nat.le_of_ble_eq_true rfl) ⟨Nat.le_of_ble_eq_true rfl, Nat.le_of_ble_eq_true rfl⟩ dX5_move_5 (fun H locs hW => ?_)
  refine lv_if_eq (tgt := 34) jx jb dX5_move_8 (by decide) (fun c8 => ?_) (fun c8 => ?_)
  · exact absurd (c8.symm.trans (bel_t ha (by omega))) (by decide)
  · refine lv_iload_n jx jb dX5_move_11 rfl (lv_at hl 2 rfl) ?_
    refine lv_aload_n jx jb dX5_move_12 rfl (lv_at hl 0 rfl) ?_
    refine w_get X hW K5 hn fn 2 (by decide) fl_X5_18 rfl dX5_move_13 ?_
    refine w_rN (As := [.int (nI b), .int (nI sz)]) X hW (c_isBelow) mn_X5_22 mf_X8_isBelow ⟨Nat.le_of_ble_eq_true rfl, Nat.le_of_ble_eq_true rfl⟩ hl.1 rfl (Nat.le_of_ble_eq_true rfl) ⟨Nat.le_of_ble_eq_true rfl, Nat.le_of_ble_eq_true rfl⟩ dX5_move_16 (fun H locs hW => ?_)
    refine lv_if_eq (tgt := 34) jx jb dX5_move_19 (by decide) (fun c19 => ?_) (fun c19 => ?_)
    · exact absurd (c19.symm.trans (bel_t hb (by omega))) (by decide)
    · refine lv_aload_n jx jb dX5_move_22 rfl (lv_at hl 0 rfl) ?_
      refine w_get X hW K5 hn fn 0 (by decide) fl_X5_9 rfl dX5_move_23 ?_
      refine lv_iload_n jx jb dX5_move_26 rfl (lv_at hl 2 rfl) ?_
      refine lv_aload_n jx jb dX5_move_27 rfl (lv_at hl 0 rfl) ?_
      refine w_get X hW K5 hn fn 0 (by decide) fl_X5_9 rfl dX5_move_28 ?_
      refine lv_iload_n jx jb dX5_move_31 rfl (lv_at hl 1 rfl) ?_
      refine w_ild X hW hc fc_ a rfl (by omega) (by decide) dX5_move_32 ?_
      refine w_ist X hW hc fc_ b rfl (by omega) (by decide) dX5_move_33 (fun H locs hW => ?_)
      obtain ⟨g_1, eg_1⟩ : ∃ zz, zz = va_up g c (.inl (cy 0, 200, .inl (upd fc b (fc a)))) := ⟨_, rfl⟩
      have hW : Wd G A js.heap (N, ad, g_1) H locs := by rw [eg_1]; exact hW
      have hf2 : g_1 n = .inr (5, [.ref (ad c), .ref (ad r), .int (nI sz)]) := by rw [eg_1]; exact (va_up_n (by omega)).trans fn
      have hf3 : g_1 c = .inl (cy 0, 200, .inl (upd fc b (fc a))) := by rw [eg_1]; exact va_up_s
      have hf4 : g_1 r = .inl (cy 0, 200, .inl fr) := by rw [eg_1]; exact (va_up_n (by omega)).trans fr_
      exact ret _ _ _ _ _ dX5_move_34 hW ⟨⟨hn, hc, hr, q1, q2, q3, hsz, hf2, hf3, hf4⟩, (fun k hk => by show g_1 k = _; simp only [List.mem_cons, List.not_mem_nil, or_false, not_or] at hk; rw [eg_1, va_up_n (by omega)])⟩

set_option maxHeartbeats 4000000 in
set_option maxRecDepth 100000 in
theorem c_cutTo {l : Launch} {G : va_G} {cy : Nat → ClassId} {N : Nat} {ad : Nat → Nat} {g : Nat → va_E} {n c r sz : Nat} {fc fr : Nat → Int32} {j : Nat} (hR : RowAt cy N ad g n c r sz fc fr) (hj : j ≤ sz) : MV l G cy (N, ad, g) yX5_cutTo cX5_cutTo 2 none (rmN 1) [.ref (ad n), .int (nI j)] (nV N ad (fun g1 => RowAt cy N ad g1 n c r j fc fr ∧ Fr g g1 [n, c, r])) := by
  refine NV.mk (by decide) (Nat.le_of_ble_eq_true rfl) ?_
  intro jp je js jm below meth jc A Q X hW ret ls hl
  have jx := X.hx
  have jb := X.hb
  have hl : lv_has ls 2 [(0, .ref (ad n)), (1, .int (nI j))] := hl
  have X : Cx G cy jp js jm _ jc cX5_cutTo 2 RX5 A js.heap := X
  obtain ⟨hn, hc, hr, q1, q2, q3, hsz, fn, fc_, fr_⟩ := id hR
  refine lv_iload_n jx jb dX5_cutTo_0 rfl (lv_at hl 1 rfl) ?_
  refine lv_aload_n jx jb dX5_cutTo_1 rfl (lv_at hl 0 rfl) ?_
  refine w_get X hW K5 hn fn 2 (by decide) fl_X5_18 rfl dX5_cutTo_2 ?_
  refine w_rN (As := [.int (nI j), .int (nI sz)]) X hW (c_isBelow) mn_X5_22 mf_X8_isBelow ⟨Nat.le_of_ble_eq_true rfl, Nat.le_of_ble_eq_true rfl⟩ hl.1 rfl (Nat.le_of_ble_eq_true rfl) ⟨Nat.le_of_ble_eq_true rfl, Nat.le_of_ble_eq_true rfl⟩ dX5_cutTo_5 (fun H locs hW => ?_)
  refine lv_if_eq (tgt := 16) jx jb dX5_cutTo_8 (by decide) (fun c8 => ?_) (fun c8 => ?_)
  · exact ret _ _ _ _ _ dX5_cutTo_16 hW ⟨by have e : j = sz := (by rcases Nat.lt_or_ge j sz with q | q; exact absurd (c8.symm.trans (bel_t q (by omega))) (by decide); omega); rw [e]; exact hR, (fun k hk => rfl)⟩
  · refine lv_aload_n jx jb dX5_cutTo_11 rfl (lv_at hl 0 rfl) ?_
    refine lv_iload_n jx jb dX5_cutTo_12 rfl (lv_at hl 1 rfl) ?_
    refine w_put X hW K5 hn fn 2 (by decide) fl_X5_18 rfl rfl rfl (Nat.le_of_ble_eq_true rfl) dX5_cutTo_13 (fun H locs hW => ?_)
    obtain ⟨g_1, eg_1⟩ : ∃ zz, zz = va_up g n (.inr (5, [.ref (ad c), .ref (ad r), .int (nI j)])) := ⟨_, rfl⟩
    have hW : Wd G A js.heap (N, ad, g_1) H locs := by rw [eg_1]; exact hW
    have hf2 : g_1 n = .inr (5, [.ref (ad c), .ref (ad r), .int (nI j)]) := by rw [eg_1]; exact va_up_s
    have hf3 : g_1 c = .inl (cy 0, 200, .inl fc) := by rw [eg_1]; exact (va_up_n (by omega)).trans fc_
    have hf4 : g_1 r = .inl (cy 0, 200, .inl fr) := by rw [eg_1]; exact (va_up_n (by omega)).trans fr_
    exact ret _ _ _ _ _ dX5_cutTo_16 hW ⟨⟨hn, hc, hr, q1, q2, q3, by omega, hf2, hf3, hf4⟩, (fun k hk => by show g_1 k = _; simp only [List.mem_cons, List.not_mem_nil, or_false, not_or] at hk; rw [eg_1, va_up_n (by omega)])⟩

set_option maxHeartbeats 4000000 in
set_option maxRecDepth 100000 in
theorem c_copyStart {l : Launch} {G : va_G} {cy : Nat → ClassId} {N : Nat} {ad : Nat → Nat} {g : Nat → va_E} {n c r sz : Nat} {fc fr : Nat → Int32} {n' c' r' sz' : Nat} {fc' fr' : Nat → Int32} {len : Nat} (hR : RowAt cy N ad g n c r sz fc fr) (hR' : RowAt cy N ad g n' c' r' sz' fc' fr') (hd : n ≠ n' ∧ n ≠ c' ∧ n ≠ r' ∧ c ≠ n' ∧ c ≠ c' ∧ c ≠ r' ∧ r ≠ n' ∧ r ≠ c' ∧ r ≠ r') (hlen : len ≤ sz') : MV l G cy (N, ad, g) yX5_copyStart cX5_copyStart 4 none (rmN 1) [.ref (ad n), .ref (ad n'), .int (nI len)] (nV N ad (fun g1 => ∃ fk fq, RowAt cy N ad g1 n c r len fk fq ∧ (∀ i, i < len → fk i = fc' i) ∧ Fr g g1 [n, c, r])) := by
  refine NV.mk (by decide) (Nat.le_of_ble_eq_true rfl) ?_
  intro jp je js jm below meth jc A Q X hW ret ls hl
  have jx := X.hx
  have jb := X.hb
  have hl : lv_has ls 4 [(0, .ref (ad n)), (1, .ref (ad n')), (2, .int (nI len))] := hl
  have X : Cx G cy jp js jm _ jc cX5_copyStart 4 RX5 A js.heap := X
  obtain ⟨hn, hc, hr, q1, q2, q3, hsz, fn, fc_, fr_⟩ := id hR
  obtain ⟨hn', hc', hr', q1', q2', q3', hsz', fn', fc_', fr_'⟩ := id hR'
  refine lv_aload_n jx jb dX5_copyStart_0 rfl (lv_at hl 0 rfl) ?_
  refine lv_iconst (v := 0) jx jb dX5_copyStart_1 (by decide) ?_
  refine w_put X hW K5 hn fn 2 (by decide) fl_X5_18 rfl rfl rfl (Nat.le_of_ble_eq_true rfl) dX5_copyStart_2 (fun H locs hW => ?_)
  obtain ⟨g_1, eg_1⟩ : ∃ zz, zz = va_up g n (.inr (5, [.ref (ad c), .ref (ad r), .int 0])) := ⟨_, rfl⟩
  have hW : Wd G A js.heap (N, ad, g_1) H locs := by rw [eg_1]; exact hW
  have hf2 : g_1 n = .inr (5, [.ref (ad c), .ref (ad r), .int 0]) := by rw [eg_1]; exact va_up_s
  have hf3 : g_1 c = .inl (cy 0, 200, .inl fc) := by rw [eg_1]; exact (va_up_n (by omega)).trans fc_
  have hf4 : g_1 r = .inl (cy 0, 200, .inl fr) := by rw [eg_1]; exact (va_up_n (by omega)).trans fr_
  have hf5 : g_1 n' = .inr (5, [.ref (ad c'), .ref (ad r'), .int (nI sz')]) := by rw [eg_1]; exact (va_up_n (by omega)).trans fn'
  have hf6 : g_1 c' = .inl (cy 0, 200, .inl fc') := by rw [eg_1]; exact (va_up_n (by omega)).trans fc_'
  have hf7 : g_1 r' = .inl (cy 0, 200, .inl fr') := by rw [eg_1]; exact (va_up_n (by omega)).trans fr_'
  refine lv_iconst (v := 0) jx jb dX5_copyStart_5 (by decide) ?_
  refine lv_istore_n (lv' := [(3, .int 0), (0, .ref (ad n)), (1, .ref (ad n')), (2, .int (nI len))]) jx jb dX5_copyStart_6 rfl hl (by decide) rfl (fun ls hl => ?_)
  have loop7 : ∀ (fuel7 : Nat) (k : Nat) (fk : Nat → Int32) (fq : Nat → Int32) (gL7 : Nat → va_E) (H : Heap) (locs : List Loc) (ls : Array Slot), (k ≤ len) → (∀ i, i < k → fk i = fc' i) → gL7 n = .inr (5, [.ref (ad c), .ref (ad r), .int (nI k)]) → gL7 c = .inl (cy 0, 200, .inl fk) → gL7 r = .inl (cy 0, 200, .inl fq) → gL7 n' = .inr (5, [.ref (ad c'), .ref (ad r'), .int (nI sz')]) → gL7 c' = .inl (cy 0, 200, .inl fc') → gL7 r' = .inl (cy 0, 200, .inl fr') → Fr g gL7 [n, c, r] → len - k < fuel7 → Wd G A js.heap (N, ad, gL7) H locs → lv_has ls 4 [(0, .ref (ad n)), (1, .ref (ad n')), (2, .int (nI len)), (3, .int (nI k))] → W jp l je (rmN 1) js jm [.ref (ad n), .ref (ad n'), .int (nI len)].toArray below meth jc H locs 0 0 Q (F0 jm 7 ls []) := by
    intro fuel7
    induction fuel7 with
    | zero => intro k fk fq gL7 H locs ls hk hcp fL7_0 fL7_1 fL7_2 fL7_3 fL7_4 fL7_5 hfr7 hm7; exact absurd hm7 (Nat.not_lt_zero _)
    | succ fuel7 ih7 =>
      intro k fk fq gL7 H locs ls hk hcp fL7_0 fL7_1 fL7_2 fL7_3 fL7_4 fL7_5 hfr7 hm7 hW hl
      refine lv_iload_n jx jb dX5_copyStart_7 rfl (lv_at hl 3 rfl) ?_
      refine lv_iload_n jx jb dX5_copyStart_8 rfl (lv_at hl 2 rfl) ?_
      refine lv_icmp_ge (tgt := 42) jx jb dX5_copyStart_9 (by decide) (fun c9 => ?_) (fun c9 => ?_)
      · exact ret _ _ _ _ _ dX5_copyStart_42 hW ⟨_, _, (by have := n_le (by omega) (by omega) c9; have e : k = len := (by omega); rw [← e]; exact ⟨hn, hc, hr, q1, q2, q3, by omega, fL7_0, fL7_1, fL7_2⟩), (by have := n_le (by omega) (by omega) c9; have e : k = len := (by omega); rw [← e]; exact hcp), (fun k hk => by show gL7 k = _; simp only [List.mem_cons, List.not_mem_nil, or_false, not_or] at hk; rw [hfr7 k (by simp only [List.mem_cons, List.not_mem_nil, or_false, not_or] <;> omega)])⟩
      · have hlt : k < len := n_nle (by omega) (by omega) c9
        refine lv_iload_n jx jb dX5_copyStart_12 rfl (lv_at hl 3 rfl) ?_
        refine lv_aload_n jx jb dX5_copyStart_13 rfl (lv_at hl 1 rfl) ?_
        refine w_get X hW K5 hn' fL7_3 2 (by decide) fl_X5_18 rfl dX5_copyStart_14 ?_
        refine lv_icmp_ge (tgt := 42) jx jb dX5_copyStart_17 (by decide) (fun c17 => ?_) (fun c17 => ?_)
        · exact absurd (n_le (by omega) (by omega) c17) (by omega)
        · refine lv_aload_n jx jb dX5_copyStart_20 rfl (lv_at hl 0 rfl) ?_
          refine lv_aload_n jx jb dX5_copyStart_21 rfl (lv_at hl 1 rfl) ?_
          refine w_get X hW K5 hn' fL7_3 0 (by decide) fl_X5_9 rfl dX5_copyStart_22 ?_
          refine lv_iload_n jx jb dX5_copyStart_25 rfl (lv_at hl 3 rfl) ?_
          refine w_ild X hW hc' fL7_4 k rfl (by omega) (by decide) dX5_copyStart_26 ?_
          refine lv_aload_n jx jb dX5_copyStart_27 rfl (lv_at hl 1 rfl) ?_
          refine w_get X hW K5 hn' fL7_3 1 (by decide) fl_X5_15 rfl dX5_copyStart_28 ?_
          refine lv_iload_n jx jb dX5_copyStart_31 rfl (lv_at hl 3 rfl) ?_
          refine w_ild X hW hr' fL7_5 k rfl (by omega) (by decide) dX5_copyStart_32 ?_
          refine w_nVv (As := [.int (fc' k), .int (fr' k)]) X hW (c_rAdd (n := n) (c := c) (r := r) ⟨hn, hc, hr, q1, q2, q3, by omega, fL7_0, fL7_1, fL7_2⟩ (by omega)) hn fL7_0 rfl rfl ml_X5_26 mf_X5_add ⟨Nat.le_of_ble_eq_true rfl, Nat.le_of_ble_eq_true rfl⟩ hl.1 rfl (Nat.le_of_ble_eq_true rfl) ⟨Nat.le_of_ble_eq_true rfl, Nat.le_of_ble_eq_true rfl⟩ dX5_copyStart_33 (fun g1 H locs hp hW => ?_)
          obtain ⟨⟨-, -, -, -, -, -, -, p8, p9, p10⟩, pfr⟩ := hp
          have hf8 : g1 n' = .inr (5, [.ref (ad c'), .ref (ad r'), .int (nI sz')]) := (pfr n' (by simp only [List.mem_cons, List.not_mem_nil, or_false, not_or] <;> omega)).trans fL7_3
          have hf9 : g1 c' = .inl (cy 0, 200, .inl fc') := (pfr c' (by simp only [List.mem_cons, List.not_mem_nil, or_false, not_or] <;> omega)).trans fL7_4
          have hf10 : g1 r' = .inl (cy 0, 200, .inl fr') := (pfr r' (by simp only [List.mem_cons, List.not_mem_nil, or_false, not_or] <;> omega)).trans fL7_5
          refine lv_iinc (v := nI (k + 1)) (lv' := [(3, .int (nI (k + 1))), (0, .ref (ad n)), (1, .ref (ad n')), (2, .int (nI len))]) jx jb dX5_copyStart_36 hl (k := 3) rfl (show nI k + 1 = nI (k + 1) from nI_1 _) (by decide) rfl (fun ls hl => ?_)
          refine lv_goto (tgt := 7) jx jb dX5_copyStart_39 (by decide) ?_
          exact ih7 (k + 1) _ _ g1 _ _ _ (by omega) (fun i hi => by by_cases e : i = k; (rw [e, pk_us]); (rw [pk_un e]; exact hcp i (by omega))) p8 p9 p10 hf8 hf9 hf10 (fun k hk => by show g1 k = _; simp only [List.mem_cons, List.not_mem_nil, or_false, not_or] at hk; rw [pfr k (by simp only [List.mem_cons, List.not_mem_nil, or_false, not_or] <;> omega), hfr7 k (by simp only [List.mem_cons, List.not_mem_nil, or_false, not_or] <;> omega)]) (by omega) hW (lv_sub hl [1, 2, 3, 0] rfl)
  exact loop7 _ 0 _ _ g_1 _ _ _ (by omega) (fun i hi => absurd hi (by omega)) hf2 hf3 hf4 hf5 hf6 hf7 (fun k hk => by show g_1 k = _; simp only [List.mem_cons, List.not_mem_nil, or_false, not_or] at hk; rw [eg_1, va_up_n (by omega)]) (Nat.lt_succ_self _) hW (lv_sub hl [1, 2, 3, 0] rfl)

set_option maxHeartbeats 4000000 in
set_option maxRecDepth 100000 in
theorem c_hasCallOf {l : Launch} {G : va_G} {cy : Nat → ClassId} {N : Nat} {ad : Nat → Nat} {g : Nat → va_E} {n c r sz : Nat} {fc fr : Nat → Int32} {cl : Nat → Nat} {kd : Nat} (hR : RowAt cy N ad g n c r sz fc fr) (hC : ∀ k, k < sz → fc k = nI (cl k) ∧ cl k < 96) (hkd : kd < 6) : RI l G cy (N, ad, g) yX5_hasCallOf cX5_hasCallOf 3 (some .boolean) (rmN 1) [.ref (ad n), .int (nI kd)] (bI (anyK cl kd sz = true)) := by
  refine RI.mk (by decide) (by first | rfl | exact bI_nar) (Nat.le_of_ble_eq_true rfl) ?_
  intro jp je js jm below meth jc A Q X hW ret ls hl
  have jx := X.hx
  have jb := X.hb
  have hl : lv_has ls 3 [(0, .ref (ad n)), (1, .int (nI kd))] := hl
  have X : Cx G cy jp js jm _ jc cX5_hasCallOf 3 RX5 A js.heap := X
  obtain ⟨hn, hc, hr, q1, q2, q3, hsz, fn, fc_, fr_⟩ := id hR
  refine lv_iconst (v := 0) jx jb dX5_hasCallOf_0 (by decide) ?_
  refine lv_istore_n (lv' := [(2, .int 0), (0, .ref (ad n)), (1, .int (nI kd))]) jx jb dX5_hasCallOf_1 rfl hl (by decide) rfl (fun ls hl => ?_)
  have loop2 : ∀ (fuel2 : Nat) (k : Nat) (H : Heap) (locs : List Loc) (ls : Array Slot), (k ≤ sz) → (anyK cl kd k = false) → sz - k < fuel2 → Wd G A js.heap (N, ad, g) H locs → lv_has ls 3 [(0, .ref (ad n)), (1, .int (nI kd)), (2, .int (nI k))] → W jp l je (rmN 1) js jm [.ref (ad n), .int (nI kd)].toArray below meth jc H locs 0 0 Q (F0 jm 2 ls []) := by
    intro fuel2
    induction fuel2 with
    | zero => intro k H locs ls hk ha  hm2; exact absurd hm2 (Nat.not_lt_zero _)
    | succ fuel2 ih2 =>
      intro k H locs ls hk ha  hm2 hW hl
      refine lv_iload_n jx jb dX5_hasCallOf_2 rfl (lv_at hl 2 rfl) ?_
      refine lv_aload_n jx jb dX5_hasCallOf_3 rfl (lv_at hl 0 rfl) ?_
      refine w_get X hW K5 hn fn 2 (by decide) fl_X5_18 rfl dX5_hasCallOf_4 ?_
      refine lv_icmp_ge (tgt := 31) jx jb dX5_hasCallOf_7 (by decide) (fun c7 => ?_) (fun c7 => ?_)
      · refine lv_iconst (v := 0) jx jb dX5_hasCallOf_31 (by decide) ?_
        exact ret _ _ _ _ _ dX5_hasCallOf_32 hW (by have := n_le (by omega) (by omega) c7; have e : k = sz := (by omega); rw [← e, ha]; rfl)
      · have hlt : k < sz := n_nle (by omega) (by omega) c7
        have h96 := (hC k hlt).2
        refine lv_aload_n jx jb dX5_hasCallOf_10 rfl (lv_at hl 0 rfl) ?_
        refine w_get X hW K5 hn fn 0 (by decide) fl_X5_9 rfl dX5_hasCallOf_11 ?_
        refine lv_iload_n jx jb dX5_hasCallOf_14 rfl (lv_at hl 2 rfl) ?_
        refine w_ild X hW hc fc_ k rfl (by omega) (by decide) dX5_hasCallOf_15 ?_
        refine top_eq (y := nI (cl k)) ((hC k hlt).1) ?_
        refine w_rN (As := [.int (nI (cl k))]) X hW (c_kindOf (by have := (hC k hlt).2; omega)) mn_X5_36 mf_X8_kindOf ⟨Nat.le_of_ble_eq_true rfl, Nat.le_of_ble_eq_true rfl⟩ hl.1 rfl (Nat.le_of_ble_eq_true rfl) ⟨Nat.le_of_ble_eq_true rfl, Nat.le_of_ble_eq_true rfl⟩ dX5_hasCallOf_16 (fun H locs hW => ?_)
        refine lv_iload_n jx jb dX5_hasCallOf_19 rfl (lv_at hl 1 rfl) ?_
        refine lv_icmp_ne (tgt := 25) jx jb dX5_hasCallOf_20 (by decide) (fun c20 => ?_) (fun c20 => ?_)
        · have hne : ¬ cl k / 16 = kd := n_ne (by omega) (by omega) c20
          refine lv_iinc (v := nI (k + 1)) (lv' := [(2, .int (nI (k + 1))), (0, .ref (ad n)), (1, .int (nI kd))]) jx jb dX5_hasCallOf_25 hl (k := 2) rfl (show nI k + 1 = nI (k + 1) from nI_1 _) (by decide) rfl (fun ls hl => ?_)
          refine lv_goto (tgt := 2) jx jb dX5_hasCallOf_28 (by decide) ?_
          exact ih2 (k + 1)  _ _ _ (by omega) (by unfold anyK; rw [ha]; simp; exact hne)  (by omega) hW (lv_sub hl [1, 2, 0] rfl)
        · refine lv_iconst (v := 1) jx jb dX5_hasCallOf_23 (by decide) ?_
          exact ret _ _ _ _ _ dX5_hasCallOf_24 hW (bI_t (anyK_mono (a := k + 1) (by unfold anyK; rw [n_eq (by omega) (by omega) c20]; simp) (by omega))).symm
  exact loop2 _ 0  _ _ _ (by omega) rfl  (Nat.lt_succ_self _) hW (lv_sub hl [1, 2, 0] rfl)

set_option maxHeartbeats 4000000 in
set_option maxRecDepth 100000 in
theorem c_hasSameCalls {l : Launch} {G : va_G} {cy : Nat → ClassId} {N : Nat} {ad : Nat → Nat} {g : Nat → va_E} {n c r sz : Nat} {fc fr : Nat → Int32} {n' c' r' sz' : Nat} {fc' fr' : Nat → Int32} (hR : RowAt cy N ad g n c r sz fc fr) (hR' : RowAt cy N ad g n' c' r' sz' fc' fr') : RI l G cy (N, ad, g) yX5_hasSameCalls cX5_hasSameCalls 3 (some .boolean) (rmN 0) [.ref (ad n), .ref (ad n')] (bI (sz = sz' ∧ sameK fc fc' sz = true)) := by
  refine RI.mk (by decide) (by first | rfl | exact bI_nar) (Nat.le_of_ble_eq_true rfl) ?_
  intro jp je js jm below meth jc A Q X hW ret ls hl
  have jx := X.hx
  have jb := X.hb
  have hl : lv_has ls 3 [(0, .ref (ad n)), (1, .ref (ad n'))] := hl
  have X : Cx G cy jp js jm _ jc cX5_hasSameCalls 3 RX5 A js.heap := X
  obtain ⟨hn, hc, hr, q1, q2, q3, hsz, fn, fc_, fr_⟩ := id hR
  obtain ⟨hn', hc', hr', q1', q2', q3', hsz', fn', fc_', fr_'⟩ := id hR'
  refine lv_aload_n jx jb dX5_hasSameCalls_0 rfl (lv_at hl 0 rfl) ?_
  refine w_get X hW K5 hn fn 2 (by decide) fl_X5_18 rfl dX5_hasSameCalls_1 ?_
  refine lv_aload_n jx jb dX5_hasSameCalls_4 rfl (lv_at hl 1 rfl) ?_
  refine w_get X hW K5 hn' fn' 2 (by decide) fl_X5_18 rfl dX5_hasSameCalls_5 ?_
  refine lv_icmp_eq (tgt := 13) jx jb dX5_hasSameCalls_8 (by decide) (fun c8 => ?_) (fun c8 => ?_)
  · have hss : sz = sz' := n_eq (by omega) (by omega) c8
    refine lv_iconst (v := 0) jx jb dX5_hasSameCalls_13 (by decide) ?_
    refine lv_istore_n (lv' := [(2, .int 0), (0, .ref (ad n)), (1, .ref (ad n'))]) jx jb dX5_hasSameCalls_14 rfl hl (by decide) rfl (fun ls hl => ?_)
    have loop15 : ∀ (fuel15 : Nat) (k : Nat) (H : Heap) (locs : List Loc) (ls : Array Slot), (k ≤ sz) → (sameK fc fc' k = true) → sz - k < fuel15 → Wd G A js.heap (N, ad, g) H locs → lv_has ls 3 [(0, .ref (ad n)), (1, .ref (ad n')), (2, .int (nI k))] → W jp l je (rmN 0) js jm [.ref (ad n), .ref (ad n')].toArray below meth jc H locs 0 0 Q (F0 jm 15 ls []) := by
      intro fuel15
      induction fuel15 with
      | zero => intro k H locs ls hk ha  hm15; exact absurd hm15 (Nat.not_lt_zero _)
      | succ fuel15 ih15 =>
        intro k H locs ls hk ha  hm15 hW hl
        refine lv_iload_n jx jb dX5_hasSameCalls_15 rfl (lv_at hl 2 rfl) ?_
        refine lv_aload_n jx jb dX5_hasSameCalls_16 rfl (lv_at hl 0 rfl) ?_
        refine w_get X hW K5 hn fn 2 (by decide) fl_X5_18 rfl dX5_hasSameCalls_17 ?_
        refine lv_icmp_ge (tgt := 46) jx jb dX5_hasSameCalls_20 (by decide) (fun c20 => ?_) (fun c20 => ?_)
        · refine lv_iconst (v := 1) jx jb dX5_hasSameCalls_46 (by decide) ?_
          exact ret _ _ _ _ _ dX5_hasSameCalls_47 hW (bI_t ⟨hss, by have := n_le (by omega) (by omega) c20; have e : k = sz := (by omega); rw [← e]; exact ha⟩).symm
        · have hlt : k < sz := n_nle (by omega) (by omega) c20
          refine lv_aload_n jx jb dX5_hasSameCalls_23 rfl (lv_at hl 0 rfl) ?_
          refine w_get X hW K5 hn fn 0 (by decide) fl_X5_9 rfl dX5_hasSameCalls_24 ?_
          refine lv_iload_n jx jb dX5_hasSameCalls_27 rfl (lv_at hl 2 rfl) ?_
          refine w_ild X hW hc fc_ k rfl (by omega) (by decide) dX5_hasSameCalls_28 ?_
          refine lv_aload_n jx jb dX5_hasSameCalls_29 rfl (lv_at hl 1 rfl) ?_
          refine w_get X hW K5 hn' fn' 0 (by decide) fl_X5_9 rfl dX5_hasSameCalls_30 ?_
          refine lv_iload_n jx jb dX5_hasSameCalls_33 rfl (lv_at hl 2 rfl) ?_
          refine w_ild X hW hc' fc_' k rfl (by omega) (by decide) dX5_hasSameCalls_34 ?_
          refine lv_icmp_eq (tgt := 40) jx jb dX5_hasSameCalls_35 (by decide) (fun c35 => ?_) (fun c35 => ?_)
          · refine lv_iinc (v := nI (k + 1)) (lv' := [(2, .int (nI (k + 1))), (0, .ref (ad n)), (1, .ref (ad n'))]) jx jb dX5_hasSameCalls_40 hl (k := 2) rfl (show nI k + 1 = nI (k + 1) from nI_1 _) (by decide) rfl (fun ls hl => ?_)
            refine lv_goto (tgt := 15) jx jb dX5_hasSameCalls_43 (by decide) ?_
            exact ih15 (k + 1)  _ _ _ (by omega) (by unfold sameK; rw [ha]; simp; exact c35)  (by omega) hW (lv_sub hl [1, 2, 0] rfl)
          · refine lv_iconst (v := 0) jx jb dX5_hasSameCalls_38 (by decide) ?_
            exact ret _ _ _ _ _ dX5_hasSameCalls_39 hW (bI_f (fun q => by have h1 := sameK_mono (f := fc) (f' := fc') (a := k + 1) (by unfold sameK; simp [c35]) (b := sz) (by omega); rw [q.2] at h1; cases h1)).symm
    exact loop15 _ 0  _ _ _ (by omega) rfl  (Nat.lt_succ_self _) hW (lv_sub hl [1, 2, 0] rfl)
  · refine lv_iconst (v := 0) jx jb dX5_hasSameCalls_11 (by decide) ?_
    exact ret _ _ _ _ _ dX5_hasSameCalls_12 hW (bI_f (fun q => n_ne (by omega) (by omega) c8 q.1)).symm
end
section
/-- the replay's cells: the object 60, its results 61 -/
def RepAt (cy : Nat → ClassId) (N : Nat) (ad : Nat → Nat) (g : Nat → va_E) (sz : Nat) (fr : Nat → Int32) (mt lt : Int32) : Prop := 83 ≤ N ∧ sz ≤ 200 ∧ g 60 = .inr (4, [.ref (ad 1), .ref (ad 61), .int (nI sz), .int mt, .int lt]) ∧ g 61 = .inl (cy 0, 200, .inl fr)
def ltq (M : M4) (c : Nat → Nat) : Nat → Int32
  | 0 => -1
  | k + 1 => tI (tkq M c 0 k)
def fdq (f f' : Nat → Int32) : Nat → Nat → Int32
  | _, 0 => -1
  | k, d + 1 => if f k = f' k then fdq f f' (k + 1) d else nI k
def dfq (f f' : Nat → Int32) : Nat → Nat
  | 0 => 0
  | n + 1 => dfq f f' n + (if f n = f' n then 0 else 1)
theorem dfq_le {f f' : Nat → Int32} : ∀ {n : Nat}, dfq f f' n ≤ n
  | 0 => Nat.le_refl _
  | n + 1 => by
    have := dfq_le (f := f) (f' := f') (n := n)
    unfold dfq
    split <;> omega
theorem tI_m1 {t : Option Nat} (hb : ∀ b, t = some b → b < 24) (h : tI t = -1) : t = none := by
  cases t with
  | none => rfl
  | some b =>
    have h1 := hb b rfl
    have h2 : (nI b).toInt = (-1 : Int32).toInt := congrArg Int32.toInt h
    rw [nI_toInt (by omega)] at h2
    have h3 : (-1 : Int32).toInt = -1 := by decide
    omega
theorem bt_a {t : Option Nat} (hb : ∀ b, t = some b → b < 24) (h : tI t = -1) : (0 : Int32) = btq t := by rw [tI_m1 hb h]; rfl
theorem bt_b {t : Option Nat} (h : ¬ tI t = -1) : (1 : Int32) <<< (tI t &&& 31) = btq t := by
  cases t with
  | none => exact absurd rfl h
  | some b => rfl
theorem tkq_b {M : M4} (hM : okM M) {c : Nat → Nat} {s0 k : Nat} (h : c k < 96) : ∀ b, tkq M c s0 k = some b → b < 24 := fun b hb => (tk_some hM (by omega) hb).1
theorem sw_cases (x : Int32) (n : Nat) (hn : n < 2 ^ 31) : (∃ k, k < n ∧ x = nI k) ∨ (x.toInt < 0 ∨ ((n : Int) - 1) < x.toInt) := by
  by_cases h0 : x.toInt < 0
  · exact Or.inr (Or.inl h0)
  · by_cases h1 : ((n : Int) - 1) < x.toInt
    · exact Or.inr (Or.inr h1)
    · exact Or.inl (vp_in_of (vp_in_iff.mpr ⟨by omega, by omega⟩) hn)

set_option maxHeartbeats 4000000 in
set_option maxRecDepth 100000 in
theorem c_pResultAt {l : Launch} {G : va_G} {cy : Nat → ClassId} {N : Nat} {ad : Nat → Nat} {g : Nat → va_E} {psz : Nat} {pf : Nat → Int32} {mt lt : Int32} {j : Nat} (hP : RepAt cy N ad g psz pf mt lt) (hj : j < psz) : RI l G cy (N, ad, g) yX4_resultAt cX4_resultAt 2 (some .int) (rmN 1) [.ref (ad 60), .int (nI j)] (pf j) := by
  refine RI.mk (by decide) (by first | rfl | exact bI_nar) (Nat.le_of_ble_eq_true rfl) ?_
  intro jp je js jm below meth jc A Q X hW ret ls hl
  have jx := X.hx
  have jb := X.hb
  have hl : lv_has ls 2 [(0, .ref (ad 60)), (1, .int (nI j))] := hl
  have X : Cx G cy jp js jm _ jc cX4_resultAt 2 RX4 A js.heap := X
  obtain ⟨h83, hpsz, f60, f61⟩ := id hP
  refine lv_iload_n jx jb dX4_resultAt_0 rfl (lv_at hl 1 rfl) ?_
  refine lv_aload_n jx jb dX4_resultAt_1 rfl (lv_at hl 0 rfl) ?_
  refine w_get X hW K4 (by omega) f60 2 (by decide) fl_X4_15 rfl dX4_resultAt_2 ?_
  refine w_rN (As := [.int (nI j), .int (nI psz)]) X hW (c_isBelow) mn_X4_61 mf_X8_isBelow ⟨Nat.le_of_ble_eq_true rfl, Nat.le_of_ble_eq_true rfl⟩ hl.1 rfl (Nat.le_of_ble_eq_true rfl) ⟨Nat.le_of_ble_eq_true rfl, Nat.le_of_ble_eq_true rfl⟩ dX4_resultAt_5 (fun H locs hW => ?_)
  refine lv_if_eq (tgt := 27) jx jb dX4_resultAt_8 (by decide) (fun c8 => ?_) (fun c8 => ?_)
  · exact absurd (c8.symm.trans (bel_t hj (by omega))) (by decide)
  · refine lv_iload_n jx jb dX4_resultAt_11 rfl (lv_at hl 1 rfl) ?_
    refine lv_sipush (v := 200) jx jb dX4_resultAt_12 (by decide) ?_
    refine lv_icmp_ge (tgt := 27) jx jb dX4_resultAt_15 (by decide) (fun c15 => ?_) (fun c15 => ?_)
    · exact absurd (n_le (a := 200) (by decide) (by omega) c15) (by omega)
    · refine lv_aload_n jx jb dX4_resultAt_18 rfl (lv_at hl 0 rfl) ?_
      refine w_get X hW K4 (by omega) f60 1 (by decide) fl_X4_9 rfl dX4_resultAt_19 ?_
      refine lv_iload_n jx jb dX4_resultAt_22 rfl (lv_at hl 1 rfl) ?_
      refine w_ild X hW (by omega) f61 j rfl (by omega) (by decide) dX4_resultAt_23 ?_
      refine lv_goto (tgt := 28) jx jb dX4_resultAt_24 (by decide) ?_
      exact ret _ _ _ _ _ dX4_resultAt_28 hW rfl

set_option maxHeartbeats 4000000 in
set_option maxRecDepth 100000 in
theorem c_met {l : Launch} {G : va_G} {cy : Nat → ClassId} {N : Nat} {ad : Nat → Nat} {g : Nat → va_E} {psz : Nat} {pf : Nat → Int32} {mt lt : Int32} (hP : RepAt cy N ad g psz pf mt lt) : RI l G cy (N, ad, g) yX4_met cX4_met 1 (some .int) (rmN 0) [.ref (ad 60)] mt := by
  refine RI.mk (by decide) (by first | rfl | exact bI_nar) (Nat.le_of_ble_eq_true rfl) ?_
  intro jp je js jm below meth jc A Q X hW ret ls hl
  have jx := X.hx
  have jb := X.hb
  have hl : lv_has ls 1 [(0, .ref (ad 60))] := hl
  have X : Cx G cy jp js jm _ jc cX4_met 1 RX4 A js.heap := X
  obtain ⟨h83, hpsz, f60, f61⟩ := id hP
  refine lv_aload_n jx jb dX4_met_0 rfl (lv_at hl 0 rfl) ?_
  refine w_get X hW K4 (by omega) f60 3 (by decide) fl_X4_19 rfl dX4_met_1 ?_
  exact ret _ _ _ _ _ dX4_met_4 hW rfl

set_option maxHeartbeats 4000000 in
set_option maxRecDepth 100000 in
theorem c_lastTaken {l : Launch} {G : va_G} {cy : Nat → ClassId} {N : Nat} {ad : Nat → Nat} {g : Nat → va_E} {psz : Nat} {pf : Nat → Int32} {mt lt : Int32} (hP : RepAt cy N ad g psz pf mt lt) : RI l G cy (N, ad, g) yX4_lastTaken cX4_lastTaken 1 (some .int) (rmN 0) [.ref (ad 60)] lt := by
  refine RI.mk (by decide) (by first | rfl | exact bI_nar) (Nat.le_of_ble_eq_true rfl) ?_
  intro jp je js jm below meth jc A Q X hW ret ls hl
  have jx := X.hx
  have jb := X.hb
  have hl : lv_has ls 1 [(0, .ref (ad 60))] := hl
  have X : Cx G cy jp js jm _ jc cX4_lastTaken 1 RX4 A js.heap := X
  obtain ⟨h83, hpsz, f60, f61⟩ := id hP
  refine lv_aload_n jx jb dX4_lastTaken_0 rfl (lv_at hl 0 rfl) ?_
  refine w_get X hW K4 (by omega) f60 4 (by decide) fl_X4_22 rfl dX4_lastTaken_1 ?_
  exact ret _ _ _ _ _ dX4_lastTaken_4 hW rfl

set_option maxHeartbeats 4000000 in
set_option maxRecDepth 100000 in
theorem c_lastResult {l : Launch} {G : va_G} {cy : Nat → ClassId} {N : Nat} {ad : Nat → Nat} {g : Nat → va_E} {psz : Nat} {pf : Nat → Int32} {mt lt : Int32} (hP : RepAt cy N ad g psz pf mt lt) (h1 : 1 ≤ psz) : RI l G cy (N, ad, g) yX4_lastResult cX4_lastResult 1 (some .int) (rmN 2) [.ref (ad 60)] (pf (psz - 1)) := by
  refine RI.mk (by decide) (by first | rfl | exact bI_nar) (Nat.le_of_ble_eq_true rfl) ?_
  intro jp je js jm below meth jc A Q X hW ret ls hl
  have jx := X.hx
  have jb := X.hb
  have hl : lv_has ls 1 [(0, .ref (ad 60))] := hl
  have X : Cx G cy jp js jm _ jc cX4_lastResult 1 RX4 A js.heap := X
  obtain ⟨h83, hpsz, f60, f61⟩ := id hP
  refine lv_aload_n jx jb dX4_lastResult_0 rfl (lv_at hl 0 rfl) ?_
  refine lv_aload_n jx jb dX4_lastResult_1 rfl (lv_at hl 0 rfl) ?_
  refine w_get X hW K4 (by omega) f60 2 (by decide) fl_X4_15 rfl dX4_lastResult_2 ?_
  refine lv_iconst (v := 1) jx jb dX4_lastResult_5 (by decide) ?_
  refine lv_isub jx jb dX4_lastResult_6 ?_
  refine top_eq (y := nI (psz - 1)) (pk_sub (b := 1) h1) ?_
  refine w_rV (As := [.int (nI (psz - 1))]) X hW (c_pResultAt hP (by omega)) (by omega) f60 rfl rfl ml_X4_58 mf_X4_resultAt ⟨Nat.le_of_ble_eq_true rfl, Nat.le_of_ble_eq_true rfl⟩ hl.1 rfl (Nat.le_of_ble_eq_true rfl) ⟨Nat.le_of_ble_eq_true rfl, Nat.le_of_ble_eq_true rfl⟩ dX4_lastResult_7 (fun H locs hW => ?_)
  exact ret _ _ _ _ _ dX4_lastResult_10 hW rfl

set_option maxHeartbeats 4000000 in
set_option maxRecDepth 100000 in
theorem c_firstDiff {l : Launch} {G : va_G} {cy : Nat → ClassId} {N : Nat} {ad : Nat → Nat} {g : Nat → va_E} {n c r sz : Nat} {fc fr : Nat → Int32} {pf : Nat → Int32} {mt lt : Int32} (hP : RepAt cy N ad g sz pf mt lt) (hR : RowAt cy N ad g n c r sz fc fr) : RI l G cy (N, ad, g) yX4_firstDifference cX4_firstDifference 3 (some .int) (rmN 2) [.ref (ad 60), .ref (ad n)] (fdq pf fr 0 sz) := by
  refine RI.mk (by decide) (by first | rfl | exact bI_nar) (Nat.le_of_ble_eq_true rfl) ?_
  intro jp je js jm below meth jc A Q X hW ret ls hl
  have jx := X.hx
  have jb := X.hb
  have hl : lv_has ls 3 [(0, .ref (ad 60)), (1, .ref (ad n))] := hl
  have X : Cx G cy jp js jm _ jc cX4_firstDifference 3 RX4 A js.heap := X
  obtain ⟨h83, hpsz, f60, f61⟩ := id hP
  obtain ⟨hn, hc, hr, q1, q2, q3, hsz, fn, fc_, fr_⟩ := id hR
  refine lv_iconst (v := 0) jx jb dX4_firstDifference_0 (by decide) ?_
  refine lv_istore_n (lv' := [(2, .int 0), (0, .ref (ad 60)), (1, .ref (ad n))]) jx jb dX4_firstDifference_1 rfl hl (by decide) rfl (fun ls hl => ?_)
  have loop2 : ∀ (fuel2 : Nat) (k : Nat) (H : Heap) (locs : List Loc) (ls : Array Slot), (k ≤ sz) → (fdq pf fr k (sz - k) = fdq pf fr 0 sz) → sz - k < fuel2 → Wd G A js.heap (N, ad, g) H locs → lv_has ls 3 [(0, .ref (ad 60)), (1, .ref (ad n)), (2, .int (nI k))] → W jp l je (rmN 2) js jm [.ref (ad 60), .ref (ad n)].toArray below meth jc H locs 0 0 Q (F0 jm 2 ls []) := by
    intro fuel2
    induction fuel2 with
    | zero => intro k H locs ls hk hfd  hm2; exact absurd hm2 (Nat.not_lt_zero _)
    | succ fuel2 ih2 =>
      intro k H locs ls hk hfd  hm2 hW hl
      refine lv_iload_n jx jb dX4_firstDifference_2 rfl (lv_at hl 2 rfl) ?_
      refine lv_aload_n jx jb dX4_firstDifference_3 rfl (lv_at hl 0 rfl) ?_
      refine w_get X hW K4 (by omega) f60 2 (by decide) fl_X4_15 rfl dX4_firstDifference_4 ?_
      refine lv_icmp_ge (tgt := 31) jx jb dX4_firstDifference_7 (by decide) (fun c7 => ?_) (fun c7 => ?_)
      · refine lv_iconst (v := -1) jx jb dX4_firstDifference_31 (by decide) ?_
        exact ret _ _ _ _ _ dX4_firstDifference_32 hW (by have := n_le (by omega) (by omega) c7; rw [← hfd, show sz - k = 0 by omega]; rfl)
      · have hlt : k < sz := n_nle (by omega) (by omega) c7
        have hd1 : sz - k = (sz - k - 1) + 1 := by omega
        refine lv_aload_n jx jb dX4_firstDifference_10 rfl (lv_at hl 0 rfl) ?_
        refine lv_iload_n jx jb dX4_firstDifference_11 rfl (lv_at hl 2 rfl) ?_
        refine w_rV (As := [.int (nI k)]) X hW (c_pResultAt hP hlt) (by omega) f60 rfl rfl ml_X4_58 mf_X4_resultAt ⟨Nat.le_of_ble_eq_true rfl, Nat.le_of_ble_eq_true rfl⟩ hl.1 rfl (Nat.le_of_ble_eq_true rfl) ⟨Nat.le_of_ble_eq_true rfl, Nat.le_of_ble_eq_true rfl⟩ dX4_firstDifference_12 (fun H locs hW => ?_)
        refine lv_aload_n jx jb dX4_firstDifference_15 rfl (lv_at hl 1 rfl) ?_
        refine lv_iload_n jx jb dX4_firstDifference_16 rfl (lv_at hl 2 rfl) ?_
        refine w_rV (As := [.int (nI k)]) X hW (c_resultAt hR hlt) hn fn rfl rfl ml_X4_65 mf_X5_resultAt ⟨Nat.le_of_ble_eq_true rfl, Nat.le_of_ble_eq_true rfl⟩ hl.1 rfl (Nat.le_of_ble_eq_true rfl) ⟨Nat.le_of_ble_eq_true rfl, Nat.le_of_ble_eq_true rfl⟩ dX4_firstDifference_17 (fun H locs hW => ?_)
        refine lv_icmp_eq (tgt := 25) jx jb dX4_firstDifference_20 (by decide) (fun c20 => ?_) (fun c20 => ?_)
        · refine lv_iinc (v := nI (k + 1)) (lv' := [(2, .int (nI (k + 1))), (0, .ref (ad 60)), (1, .ref (ad n))]) jx jb dX4_firstDifference_25 hl (k := 2) rfl (show nI k + 1 = nI (k + 1) from nI_1 _) (by decide) rfl (fun ls hl => ?_)
          refine lv_goto (tgt := 2) jx jb dX4_firstDifference_28 (by decide) ?_
          exact ih2 (k + 1)  _ _ _ (by omega) (by rw [← hfd, hd1, fdq, if_pos c20, show sz - (k + 1) = sz - k - 1 by omega])  (by omega) hW (lv_sub hl [1, 2, 0] rfl)
        · refine lv_iload_n jx jb dX4_firstDifference_23 rfl (lv_at hl 2 rfl) ?_
          exact ret _ _ _ _ _ dX4_firstDifference_24 hW (by rw [← hfd, hd1, fdq, if_neg c20])
  exact loop2 _ 0  _ _ _ (by omega) rfl  (Nat.lt_succ_self _) hW (lv_sub hl [1, 2, 0] rfl)

set_option maxHeartbeats 4000000 in
set_option maxRecDepth 100000 in
theorem c_differences {l : Launch} {G : va_G} {cy : Nat → ClassId} {N : Nat} {ad : Nat → Nat} {g : Nat → va_E} {n c r sz : Nat} {fc fr : Nat → Int32} {pf : Nat → Int32} {mt lt : Int32} (hP : RepAt cy N ad g sz pf mt lt) (hR : RowAt cy N ad g n c r sz fc fr) : RI l G cy (N, ad, g) yX4_differences cX4_differences 4 (some .int) (rmN 2) [.ref (ad 60), .ref (ad n)] (nI (dfq pf fr sz)) := by
  refine RI.mk (by decide) (by first | rfl | exact bI_nar) (Nat.le_of_ble_eq_true rfl) ?_
  intro jp je js jm below meth jc A Q X hW ret ls hl
  have jx := X.hx
  have jb := X.hb
  have hl : lv_has ls 4 [(0, .ref (ad 60)), (1, .ref (ad n))] := hl
  have X : Cx G cy jp js jm _ jc cX4_differences 4 RX4 A js.heap := X
  obtain ⟨h83, hpsz, f60, f61⟩ := id hP
  obtain ⟨hn, hc, hr, q1, q2, q3, hsz, fn, fc_, fr_⟩ := id hR
  refine lv_iconst (v := 0) jx jb dX4_differences_0 (by decide) ?_
  refine lv_istore_n (lv' := [(2, .int 0), (0, .ref (ad 60)), (1, .ref (ad n))]) jx jb dX4_differences_1 rfl hl (by decide) rfl (fun ls hl => ?_)
  refine lv_iconst (v := 0) jx jb dX4_differences_2 (by decide) ?_
  refine lv_istore_n (lv' := [(3, .int 0), (2, .int 0), (0, .ref (ad 60)), (1, .ref (ad n))]) jx jb dX4_differences_3 rfl hl (by decide) rfl (fun ls hl => ?_)
  have loop4 : ∀ (fuel4 : Nat) (k : Nat) (H : Heap) (locs : List Loc) (ls : Array Slot), (k ≤ sz) → sz - k < fuel4 → Wd G A js.heap (N, ad, g) H locs → lv_has ls 4 [(0, .ref (ad 60)), (1, .ref (ad n)), (2, .int (nI (dfq pf fr k))), (3, .int (nI k))] → W jp l je (rmN 2) js jm [.ref (ad 60), .ref (ad n)].toArray below meth jc H locs 0 0 Q (F0 jm 4 ls []) := by
    intro fuel4
    induction fuel4 with
    | zero => intro k H locs ls hk  hm4; exact absurd hm4 (Nat.not_lt_zero _)
    | succ fuel4 ih4 =>
      intro k H locs ls hk  hm4 hW hl
      refine lv_iload_n jx jb dX4_differences_4 rfl (lv_at hl 3 rfl) ?_
      refine lv_aload_n jx jb dX4_differences_5 rfl (lv_at hl 0 rfl) ?_
      refine w_get X hW K4 (by omega) f60 2 (by decide) fl_X4_15 rfl dX4_differences_6 ?_
      refine lv_icmp_ge (tgt := 39) jx jb dX4_differences_9 (by decide) (fun c9 => ?_) (fun c9 => ?_)
      · refine lv_iload_n jx jb dX4_differences_39 rfl (lv_at hl 2 rfl) ?_
        exact ret _ _ _ _ _ dX4_differences_40 hW (by have := n_le (by omega) (by omega) c9; rw [show k = sz by omega])
      · have hlt : k < sz := n_nle (by omega) (by omega) c9
        refine lv_iload_n jx jb dX4_differences_12 rfl (lv_at hl 2 rfl) ?_
        refine lv_aload_n jx jb dX4_differences_13 rfl (lv_at hl 0 rfl) ?_
        refine lv_iload_n jx jb dX4_differences_14 rfl (lv_at hl 3 rfl) ?_
        refine w_rV (As := [.int (nI k)]) X hW (c_pResultAt hP hlt) (by omega) f60 rfl rfl ml_X4_58 mf_X4_resultAt ⟨Nat.le_of_ble_eq_true rfl, Nat.le_of_ble_eq_true rfl⟩ hl.1 rfl (Nat.le_of_ble_eq_true rfl) ⟨Nat.le_of_ble_eq_true rfl, Nat.le_of_ble_eq_true rfl⟩ dX4_differences_15 (fun H locs hW => ?_)
        refine lv_aload_n jx jb dX4_differences_18 rfl (lv_at hl 1 rfl) ?_
        refine lv_iload_n jx jb dX4_differences_19 rfl (lv_at hl 3 rfl) ?_
        refine w_rV (As := [.int (nI k)]) X hW (c_resultAt hR hlt) hn fn rfl rfl ml_X4_65 mf_X5_resultAt ⟨Nat.le_of_ble_eq_true rfl, Nat.le_of_ble_eq_true rfl⟩ hl.1 rfl (Nat.le_of_ble_eq_true rfl) ⟨Nat.le_of_ble_eq_true rfl, Nat.le_of_ble_eq_true rfl⟩ dX4_differences_20 (fun H locs hW => ?_)
        refine lv_icmp_ne (tgt := 30) jx jb dX4_differences_23 (by decide) (fun c23 => ?_) (fun c23 => ?_)
        · refine lv_iconst (v := 1) jx jb dX4_differences_30 (by decide) ?_
          refine lv_iadd jx jb dX4_differences_31 ?_
          refine top_eq (y := nI (dfq pf fr (k + 1))) (by rw [show dfq pf fr (k + 1) = dfq pf fr k + (if pf k = fr k then 0 else 1) from rfl, if_neg c23, ← nI_add]; rfl) ?_
          refine lv_istore_n (lv' := [(2, .int (nI (dfq pf fr (k + 1)))), (0, .ref (ad 60)), (1, .ref (ad n)), (3, .int (nI k))]) jx jb dX4_differences_32 rfl hl (by decide) rfl (fun ls hl => ?_)
          refine lv_iinc (v := nI (k + 1)) (lv' := [(3, .int (nI (k + 1))), (2, .int (nI (dfq pf fr (k + 1)))), (0, .ref (ad 60)), (1, .ref (ad n))]) jx jb dX4_differences_33 hl (k := 3) rfl (show nI k + 1 = nI (k + 1) from nI_1 _) (by decide) rfl (fun ls hl => ?_)
          refine lv_goto (tgt := 4) jx jb dX4_differences_36 (by decide) ?_
          exact ih4 (k + 1)  _ _ _ (by omega)  (by omega) hW (lv_sub hl [2, 3, 1, 0] rfl)
        · refine lv_iconst (v := 0) jx jb dX4_differences_26 (by decide) ?_
          refine lv_goto (tgt := 31) jx jb dX4_differences_27 (by decide) ?_
          refine lv_iadd jx jb dX4_differences_31 ?_
          refine top_eq (y := nI (dfq pf fr (k + 1))) (by rw [show dfq pf fr (k + 1) = dfq pf fr k + (if pf k = fr k then 0 else 1) from rfl, if_pos c23, ← nI_add]; rfl) ?_
          refine lv_istore_n (lv' := [(2, .int (nI (dfq pf fr (k + 1)))), (0, .ref (ad 60)), (1, .ref (ad n)), (3, .int (nI k))]) jx jb dX4_differences_32 rfl hl (by decide) rfl (fun ls hl => ?_)
          refine lv_iinc (v := nI (k + 1)) (lv' := [(3, .int (nI (k + 1))), (2, .int (nI (dfq pf fr (k + 1)))), (0, .ref (ad 60)), (1, .ref (ad n))]) jx jb dX4_differences_33 hl (k := 3) rfl (show nI k + 1 = nI (k + 1) from nI_1 _) (by decide) rfl (fun ls hl => ?_)
          refine lv_goto (tgt := 4) jx jb dX4_differences_36 (by decide) ?_
          exact ih4 (k + 1)  _ _ _ (by omega)  (by omega) hW (lv_sub hl [2, 3, 1, 0] rfl)
  exact loop4 _ 0  _ _ _ (by omega)  (Nat.lt_succ_self _) hW (lv_sub hl [2, 3, 1, 0] rfl)

set_option maxHeartbeats 4000000 in
set_option maxRecDepth 100000 in
theorem c_play {l : Launch} {G : va_G} {cy : Nat → ClassId} {N : Nat} {ad : Nat → Nat} {g : Nat → va_E} {n c r sz : Nat} {fc fr : Nat → Int32} {psz : Nat} {pf : Nat → Int32} {mt lt : Int32} {M : M4} {cl : Nat → Nat} (hM : MachAt cy N ad g M) (hP : RepAt cy N ad g psz pf mt lt) (hR : RowAt cy N ad g n c r sz fc fr) (hC : ∀ k, k < sz → fc k = nI (cl k) ∧ cl k < 96) (hd : n ≠ 60 ∧ n ≠ 61 ∧ c ≠ 60 ∧ c ≠ 61 ∧ r ≠ 60 ∧ r ≠ 61) : MV l G cy (N, ad, g) yX4_play cX4_play 5 none (rmN 3) [.ref (ad 60), .ref (ad n)] (nV N ad (fun g1 => ∃ f1, RepAt cy N ad g1 sz f1 (mtq M cl sz) (ltq M cl sz) ∧ (∀ i, i < sz → f1 i = rsq M cl 0 i) ∧ Fr g g1 [60, 61])) := by
  refine NV.mk (by decide) (Nat.le_of_ble_eq_true rfl) ?_
  intro jp je js jm below meth jc A Q X hW ret ls hl
  have jx := X.hx
  have jb := X.hb
  have hl : lv_has ls 5 [(0, .ref (ad 60)), (1, .ref (ad n))] := hl
  have X : Cx G cy jp js jm _ jc cX4_play 5 RX4 A js.heap := X
  have hok := hM.1
  obtain ⟨-, -, bc_, fs_, f1_, -⟩ := id hM
  obtain ⟨h83, hpsz, f60, f61⟩ := id hP
  obtain ⟨hn, hc, hr, q1, q2, q3, hsz, fn, fc_, fr_⟩ := id hR
  refine lv_iconst (v := 0) jx jb dX4_play_0 (by decide) ?_
  refine lv_istore_n (lv' := [(2, .int 0), (0, .ref (ad 60)), (1, .ref (ad n))]) jx jb dX4_play_1 rfl hl (by decide) rfl (fun ls hl => ?_)
  refine lv_aload_n jx jb dX4_play_2 rfl (lv_at hl 1 rfl) ?_
  refine lv_aload_n jx jb dX4_play_3 rfl (lv_at hl 2 rfl) ?_
  refine w_rV (As := []) X hW (c_rSize hR) hn fn rfl rfl ml_X4_29 mf_X5_size ⟨Nat.le_of_ble_eq_true rfl, Nat.le_of_ble_eq_true rfl⟩ hl.1 rfl (Nat.le_of_ble_eq_true rfl) ⟨Nat.le_of_ble_eq_true rfl, Nat.le_of_ble_eq_true rfl⟩ dX4_play_4 (fun H locs hW => ?_)
  refine w_put X hW K4 (by omega) f60 2 (by decide) fl_X4_15 rfl rfl rfl (Nat.le_of_ble_eq_true rfl) dX4_play_7 (fun H locs hW => ?_)
  obtain ⟨g_1, eg_1⟩ : ∃ zz, zz = va_up g 60 (.inr (4, [.ref (ad 1), .ref (ad 61), .int (nI sz), .int mt, .int lt])) := ⟨_, rfl⟩
  have hW : Wd G A js.heap (N, ad, g_1) H locs := by rw [eg_1]; exact hW
  have hf2 : g_1 60 = .inr (4, [.ref (ad 1), .ref (ad 61), .int (nI sz), .int mt, .int lt]) := by rw [eg_1]; exact va_up_s
  have hf3 : g_1 61 = .inl (cy 0, 200, .inl pf) := by rw [eg_1]; exact (va_up_n (by decide)).trans f61
  have hf4 : g_1 n = .inr (5, [.ref (ad c), .ref (ad r), .int (nI sz)]) := by rw [eg_1]; exact (va_up_n (by omega)).trans fn
  have hf5 : g_1 c = .inl (cy 0, 200, .inl fc) := by rw [eg_1]; exact (va_up_n (by omega)).trans fc_
  have hf6 : g_1 r = .inl (cy 0, 200, .inl fr) := by rw [eg_1]; exact (va_up_n (by omega)).trans fr_
  have hf7 : g_1 1 = .inr (2, [.ref (ad 2), .ref (ad 3)]) := by rw [eg_1]; exact (va_up_n (by decide)).trans f1_
  refine lv_aload_n jx jb dX4_play_10 rfl (lv_at hl 1 rfl) ?_
  refine lv_iconst (v := 0) jx jb dX4_play_11 (by decide) ?_
  refine w_put X hW K4 (by omega) hf2 3 (by decide) fl_X4_19 rfl rfl rfl (Nat.le_of_ble_eq_true rfl) dX4_play_12 (fun H locs hW => ?_)
  obtain ⟨g_8, eg_8⟩ : ∃ zz, zz = va_up g_1 60 (.inr (4, [.ref (ad 1), .ref (ad 61), .int (nI sz), .int 0, .int lt])) := ⟨_, rfl⟩
  have hW : Wd G A js.heap (N, ad, g_8) H locs := by rw [eg_8]; exact hW
  have hf9 : g_8 60 = .inr (4, [.ref (ad 1), .ref (ad 61), .int (nI sz), .int 0, .int lt]) := by rw [eg_8]; exact va_up_s
  have hf10 : g_8 61 = .inl (cy 0, 200, .inl pf) := by rw [eg_8]; exact (va_up_n (by decide)).trans hf3
  have hf11 : g_8 n = .inr (5, [.ref (ad c), .ref (ad r), .int (nI sz)]) := by rw [eg_8]; exact (va_up_n (by omega)).trans hf4
  have hf12 : g_8 c = .inl (cy 0, 200, .inl fc) := by rw [eg_8]; exact (va_up_n (by omega)).trans hf5
  have hf13 : g_8 r = .inl (cy 0, 200, .inl fr) := by rw [eg_8]; exact (va_up_n (by omega)).trans hf6
  have hf14 : g_8 1 = .inr (2, [.ref (ad 2), .ref (ad 3)]) := by rw [eg_8]; exact (va_up_n (by decide)).trans hf7
  refine lv_aload_n jx jb dX4_play_15 rfl (lv_at hl 1 rfl) ?_
  refine lv_iconst (v := -1) jx jb dX4_play_16 (by decide) ?_
  refine w_put X hW K4 (by omega) hf9 4 (by decide) fl_X4_22 rfl rfl rfl (Nat.le_of_ble_eq_true rfl) dX4_play_17 (fun H locs hW => ?_)
  obtain ⟨g_15, eg_15⟩ : ∃ zz, zz = va_up g_8 60 (.inr (4, [.ref (ad 1), .ref (ad 61), .int (nI sz), .int 0, .int (-1)])) := ⟨_, rfl⟩
  have hW : Wd G A js.heap (N, ad, g_15) H locs := by rw [eg_15]; exact hW
  have hf16 : g_15 60 = .inr (4, [.ref (ad 1), .ref (ad 61), .int (nI sz), .int 0, .int (-1)]) := by rw [eg_15]; exact va_up_s
  have hf17 : g_15 61 = .inl (cy 0, 200, .inl pf) := by rw [eg_15]; exact (va_up_n (by decide)).trans hf10
  have hf18 : g_15 n = .inr (5, [.ref (ad c), .ref (ad r), .int (nI sz)]) := by rw [eg_15]; exact (va_up_n (by omega)).trans hf11
  have hf19 : g_15 c = .inl (cy 0, 200, .inl fc) := by rw [eg_15]; exact (va_up_n (by omega)).trans hf12
  have hf20 : g_15 r = .inl (cy 0, 200, .inl fr) := by rw [eg_15]; exact (va_up_n (by omega)).trans hf13
  have hf21 : g_15 1 = .inr (2, [.ref (ad 2), .ref (ad 3)]) := by rw [eg_15]; exact (va_up_n (by decide)).trans hf14
  refine lv_iconst (v := 0) jx jb dX4_play_20 (by decide) ?_
  refine lv_istore_n (lv' := [(3, .int 0), (2, .int 0), (0, .ref (ad 60)), (1, .ref (ad n))]) jx jb dX4_play_21 rfl hl (by decide) rfl (fun ls hl => ?_)
  have loop22 : ∀ (fuel22 : Nat) (k : Nat) (f1 : Nat → Int32) (gL22 : Nat → va_E) (H : Heap) (locs : List Loc) (ls : Array Slot), (k ≤ sz) → (∀ i, i < k → f1 i = rsq M cl 0 i) → gL22 60 = .inr (4, [.ref (ad 1), .ref (ad 61), .int (nI sz), .int (mtq M cl k), .int (ltq M cl k)]) → gL22 61 = .inl (cy 0, 200, .inl f1) → gL22 n = .inr (5, [.ref (ad c), .ref (ad r), .int (nI sz)]) → gL22 c = .inl (cy 0, 200, .inl fc) → gL22 r = .inl (cy 0, 200, .inl fr) → gL22 1 = .inr (2, [.ref (ad 2), .ref (ad 3)]) → Fr g gL22 [60, 61] → sz - k < fuel22 → Wd G A js.heap (N, ad, gL22) H locs → lv_has ls 5 [(0, .ref (ad 60)), (1, .ref (ad n)), (2, .int (nI (stq M cl 0 k))), (3, .int (nI k))] → W jp l je (rmN 3) js jm [.ref (ad 60), .ref (ad n)].toArray below meth jc H locs 0 0 Q (F0 jm 22 ls []) := by
    intro fuel22
    induction fuel22 with
    | zero => intro k f1 gL22 H locs ls hk hres fL22_0 fL22_1 fL22_2 fL22_3 fL22_4 fL22_5 hfr22 hm22; exact absurd hm22 (Nat.not_lt_zero _)
    | succ fuel22 ih22 =>
      intro k f1 gL22 H locs ls hk hres fL22_0 fL22_1 fL22_2 fL22_3 fL22_4 fL22_5 hfr22 hm22 hW hl
      refine lv_iload_n jx jb dX4_play_22 rfl (lv_at hl 3 rfl) ?_
      refine lv_aload_n jx jb dX4_play_23 rfl (lv_at hl 0 rfl) ?_
      refine w_get X hW K4 (by omega) fL22_0 2 (by decide) fl_X4_15 rfl dX4_play_24 ?_
      refine lv_icmp_ge (tgt := 127) jx jb dX4_play_27 (by decide) (fun c27 => ?_) (fun c27 => ?_)
      · exact ret _ _ _ _ _ dX4_play_127 hW (by have := n_le (by omega) (by omega) c27; have e : k = sz := (by omega); rw [e] at hres fL22_0; exact ⟨f1, ⟨h83, hsz, fL22_0, fL22_1⟩, hres, (fun k hk => by show gL22 k = _; simp only [List.mem_cons, List.not_mem_nil, or_false, not_or] at hk; rw [hfr22 k (by simp only [List.mem_cons, List.not_mem_nil, or_false, not_or] <;> omega)])⟩)
      · refine lv_iload_n jx jb dX4_play_30 rfl (lv_at hl 3 rfl) ?_
        refine lv_sipush (v := 200) jx jb dX4_play_31 (by decide) ?_
        refine lv_icmp_ge (tgt := 127) jx jb dX4_play_34 (by decide) (fun c34 => ?_) (fun c34 => ?_)
        · exact absurd (n_le (a := 200) (by decide) (by omega) c34) (by have := n_nle (by omega) (by omega) c27; omega)
        · have hlt : k < sz := n_nle (by omega) (by omega) c27
          have h96 := (hC k hlt).2
          have hst : stq M cl 0 k < 65536 := stq_lt hok (by decide) (fun i hi => (hC i (by omega)).2)
          have hst1 : stq M cl 0 (k + 1) < 65536 := stq_lt hok (by decide) (fun i hi => (hC i (by omega)).2)
          refine lv_aload_n jx jb dX4_play_37 rfl (lv_at hl 1 rfl) ?_
          refine lv_iload_n jx jb dX4_play_38 rfl (lv_at hl 3 rfl) ?_
          refine w_rV (As := [.int (nI k)]) X hW (c_callAt ⟨hn, hc, hr, q1, q2, q3, hsz, fL22_2, fL22_3, fL22_4⟩ hlt) hn fL22_2 rfl rfl ml_X4_34 mf_X5_callAt ⟨Nat.le_of_ble_eq_true rfl, Nat.le_of_ble_eq_true rfl⟩ hl.1 rfl (Nat.le_of_ble_eq_true rfl) ⟨Nat.le_of_ble_eq_true rfl, Nat.le_of_ble_eq_true rfl⟩ dX4_play_39 (fun H locs hW => ?_)
          refine top_eq (y := nI (cl k)) ((hC k hlt).1) ?_
          refine lv_istore (lv' := [(4, .int (nI (cl k))), (0, .ref (ad 60)), (1, .ref (ad n)), (2, .int (nI (stq M cl 0 k))), (3, .int (nI k))]) jx jb dX4_play_42 hl (by decide) rfl (fun ls hl => ?_)
          refine lv_aload_n jx jb dX4_play_44 rfl (lv_at hl 1 rfl) ?_
          refine lv_aload_n jx jb dX4_play_45 rfl (lv_at hl 1 rfl) ?_
          refine w_get X hW K4 (by omega) fL22_0 0 (by decide) fl_X4_25 rfl dX4_play_46 ?_
          refine lv_iload jx jb dX4_play_49 (lv_at hl 0 rfl) ?_
          refine lv_iload_n jx jb dX4_play_51 rfl (lv_at hl 3 rfl) ?_
          refine w_rV (As := [.int (nI (cl k)), .int (nI (stq M cl 0 k))]) X hW (c_takenBy (hM.fr (fun k hk => by show gL22 k = _; rw [hfr22 k (by simp only [List.mem_cons, List.not_mem_nil, or_false, not_or] <;> omega)])) h96 hst) (by omega) fL22_5 rfl rfl ml_X4_38 mf_X2_takenBy ⟨Nat.le_of_ble_eq_true rfl, Nat.le_of_ble_eq_true rfl⟩ hl.1 rfl (Nat.le_of_ble_eq_true rfl) ⟨Nat.le_of_ble_eq_true rfl, Nat.le_of_ble_eq_true rfl⟩ dX4_play_52 (fun H locs hW => ?_)
          refine top_eq (y := tI (tkq M cl 0 k)) (rfl) ?_
          refine w_put X hW K4 (by omega) fL22_0 4 (by decide) fl_X4_22 rfl rfl rfl (Nat.le_of_ble_eq_true rfl) dX4_play_55 (fun H locs hW => ?_)
          obtain ⟨g_22, eg_22⟩ : ∃ zz, zz = va_up gL22 60 (.inr (4, [.ref (ad 1), .ref (ad 61), .int (nI sz), .int (mtq M cl k), .int (tI (tkq M cl 0 k))])) := ⟨_, rfl⟩
          have hW : Wd G A js.heap (N, ad, g_22) H locs := by rw [eg_22]; exact hW
          have hf23 : g_22 60 = .inr (4, [.ref (ad 1), .ref (ad 61), .int (nI sz), .int (mtq M cl k), .int (tI (tkq M cl 0 k))]) := by rw [eg_22]; exact va_up_s
          have hf24 : g_22 61 = .inl (cy 0, 200, .inl f1) := by rw [eg_22]; exact (va_up_n (by decide)).trans fL22_1
          have hf25 : g_22 n = .inr (5, [.ref (ad c), .ref (ad r), .int (nI sz)]) := by rw [eg_22]; exact (va_up_n (by omega)).trans fL22_2
          have hf26 : g_22 c = .inl (cy 0, 200, .inl fc) := by rw [eg_22]; exact (va_up_n (by omega)).trans fL22_3
          have hf27 : g_22 r = .inl (cy 0, 200, .inl fr) := by rw [eg_22]; exact (va_up_n (by omega)).trans fL22_4
          have hf28 : g_22 1 = .inr (2, [.ref (ad 2), .ref (ad 3)]) := by rw [eg_22]; exact (va_up_n (by decide)).trans fL22_5
          refine lv_aload_n jx jb dX4_play_58 rfl (lv_at hl 1 rfl) ?_
          refine w_get X hW K4 (by omega) hf23 0 (by decide) fl_X4_25 rfl dX4_play_59 ?_
          refine lv_aload_n jx jb dX4_play_62 rfl (lv_at hl 1 rfl) ?_
          refine w_get X hW K4 (by omega) hf23 4 (by decide) fl_X4_22 rfl dX4_play_63 ?_
          refine lv_iload_n jx jb dX4_play_66 rfl (lv_at hl 3 rfl) ?_
          refine lv_iload jx jb dX4_play_67 (lv_at hl 0 rfl) ?_
          refine w_rN (As := [.int (nI (cl k))]) X hW (c_numberOf (by omega)) mn_X4_44 mf_X8_numberOf ⟨Nat.le_of_ble_eq_true rfl, Nat.le_of_ble_eq_true rfl⟩ hl.1 rfl (Nat.le_of_ble_eq_true rfl) ⟨Nat.le_of_ble_eq_true rfl, Nat.le_of_ble_eq_true rfl⟩ dX4_play_69 (fun H locs hW => ?_)
          refine w_rV (As := [.int (tI (tkq M cl 0 k)), .int (nI (stq M cl 0 k)), .int (nI (cl k % 16))]) X hW (c_mStateBehind (k := cl k / 16) (st := stq M cl 0 k) (hM.fr (fun k hk => by show g_22 k = _; rw [eg_22, va_up_n (by omega), hfr22 k (by simp only [List.mem_cons, List.not_mem_nil, or_false, not_or] <;> omega)])) (by omega) hst (Nat.mod_lt _ (by decide))) (by omega) hf28 rfl rfl ml_X4_47 mf_X2_stateBehind ⟨Nat.le_of_ble_eq_true rfl, Nat.le_of_ble_eq_true rfl⟩ hl.1 rfl (Nat.le_of_ble_eq_true rfl) ⟨Nat.le_of_ble_eq_true rfl, Nat.le_of_ble_eq_true rfl⟩ dX4_play_72 (fun H locs hW => ?_)
          refine top_eq (y := nI (stq M cl 0 (k + 1))) (rfl) ?_
          refine lv_istore_n (lv' := [(2, .int (nI (stq M cl 0 (k + 1)))), (4, .int (nI (cl k))), (0, .ref (ad 60)), (1, .ref (ad n)), (3, .int (nI k))]) jx jb dX4_play_75 rfl hl (by decide) rfl (fun ls hl => ?_)
          refine lv_aload_n jx jb dX4_play_76 rfl (lv_at hl 2 rfl) ?_
          refine w_get X hW K4 (by omega) hf23 1 (by decide) fl_X4_9 rfl dX4_play_77 ?_
          refine lv_iload_n jx jb dX4_play_80 rfl (lv_at hl 4 rfl) ?_
          refine lv_aload_n jx jb dX4_play_81 rfl (lv_at hl 2 rfl) ?_
          refine w_get X hW K4 (by omega) hf23 0 (by decide) fl_X4_25 rfl dX4_play_82 ?_
          refine lv_aload_n jx jb dX4_play_85 rfl (lv_at hl 2 rfl) ?_
          refine w_get X hW K4 (by omega) hf23 4 (by decide) fl_X4_22 rfl dX4_play_86 ?_
          refine lv_iload_n jx jb dX4_play_89 rfl (lv_at hl 0 rfl) ?_
          refine w_rV (As := [.int (tI (tkq M cl 0 k)), .int (nI (stq M cl 0 (k + 1)))]) X hW (c_resultOf (k := cl k / 16) (st := stq M cl 0 k) (hM.fr (fun k hk => by show g_22 k = _; rw [eg_22, va_up_n (by omega), hfr22 k (by simp only [List.mem_cons, List.not_mem_nil, or_false, not_or] <;> omega)])) (by omega) hst1) (by omega) hf28 rfl rfl ml_X4_51 mf_X2_resultOf ⟨Nat.le_of_ble_eq_true rfl, Nat.le_of_ble_eq_true rfl⟩ hl.1 rfl (Nat.le_of_ble_eq_true rfl) ⟨Nat.le_of_ble_eq_true rfl, Nat.le_of_ble_eq_true rfl⟩ dX4_play_90 (fun H locs hW => ?_)
          refine top_eq (y := rsq M cl 0 k) (rfl) ?_
          refine w_ist X hW (by omega) hf24 k rfl (by omega) (by decide) dX4_play_93 (fun H locs hW => ?_)
          obtain ⟨g_29, eg_29⟩ : ∃ zz, zz = va_up g_22 61 (.inl (cy 0, 200, .inl (upd f1 k (rsq M cl 0 k)))) := ⟨_, rfl⟩
          have hW : Wd G A js.heap (N, ad, g_29) H locs := by rw [eg_29]; exact hW
          have hf30 : g_29 60 = .inr (4, [.ref (ad 1), .ref (ad 61), .int (nI sz), .int (mtq M cl k), .int (tI (tkq M cl 0 k))]) := by rw [eg_29]; exact (va_up_n (by decide)).trans hf23
          have hf31 : g_29 61 = .inl (cy 0, 200, .inl (upd f1 k (rsq M cl 0 k))) := by rw [eg_29]; exact va_up_s
          have hf32 : g_29 n = .inr (5, [.ref (ad c), .ref (ad r), .int (nI sz)]) := by rw [eg_29]; exact (va_up_n (by omega)).trans hf25
          have hf33 : g_29 c = .inl (cy 0, 200, .inl fc) := by rw [eg_29]; exact (va_up_n (by omega)).trans hf26
          have hf34 : g_29 r = .inl (cy 0, 200, .inl fr) := by rw [eg_29]; exact (va_up_n (by omega)).trans hf27
          have hf35 : g_29 1 = .inr (2, [.ref (ad 2), .ref (ad 3)]) := by rw [eg_29]; exact (va_up_n (by decide)).trans hf28
          refine lv_aload_n jx jb dX4_play_94 rfl (lv_at hl 2 rfl) ?_
          refine lv_dup jx jb dX4_play_95 rfl ?_
          refine w_get X hW K4 (by omega) hf30 3 (by decide) fl_X4_19 rfl dX4_play_96 ?_
          refine lv_aload_n jx jb dX4_play_99 rfl (lv_at hl 2 rfl) ?_
          refine w_get X hW K4 (by omega) hf30 4 (by decide) fl_X4_22 rfl dX4_play_100 ?_
          refine lv_iconst (v := -1) jx jb dX4_play_103 (by decide) ?_
          refine lv_icmp_ne (tgt := 111) jx jb dX4_play_104 (by decide) (fun c104 => ?_) (fun c104 => ?_)
          · refine lv_iconst (v := 1) jx jb dX4_play_111 (by decide) ?_
            refine lv_aload_n jx jb dX4_play_112 rfl (lv_at hl 2 rfl) ?_
            refine w_get X hW K4 (by omega) hf30 4 (by decide) fl_X4_22 rfl dX4_play_113 ?_
            refine lv_ishl jx jb dX4_play_116 ?_
            refine lv_ior jx jb dX4_play_117 ?_
            refine top_eq (y := mtq M cl (k + 1)) (by rw [bt_b c104]; rfl) ?_
            refine w_put X hW K4 (by omega) hf30 3 (by decide) fl_X4_19 rfl rfl rfl (Nat.le_of_ble_eq_true rfl) dX4_play_118 (fun H locs hW => ?_)
            obtain ⟨g_36, eg_36⟩ : ∃ zz, zz = va_up g_29 60 (.inr (4, [.ref (ad 1), .ref (ad 61), .int (nI sz), .int (mtq M cl (k + 1)), .int (tI (tkq M cl 0 k))])) := ⟨_, rfl⟩
            have hW : Wd G A js.heap (N, ad, g_36) H locs := by rw [eg_36]; exact hW
            have hf37 : g_36 60 = .inr (4, [.ref (ad 1), .ref (ad 61), .int (nI sz), .int (mtq M cl (k + 1)), .int (tI (tkq M cl 0 k))]) := by rw [eg_36]; exact va_up_s
            have hf38 : g_36 61 = .inl (cy 0, 200, .inl (upd f1 k (rsq M cl 0 k))) := by rw [eg_36]; exact (va_up_n (by decide)).trans hf31
            have hf39 : g_36 n = .inr (5, [.ref (ad c), .ref (ad r), .int (nI sz)]) := by rw [eg_36]; exact (va_up_n (by omega)).trans hf32
            have hf40 : g_36 c = .inl (cy 0, 200, .inl fc) := by rw [eg_36]; exact (va_up_n (by omega)).trans hf33
            have hf41 : g_36 r = .inl (cy 0, 200, .inl fr) := by rw [eg_36]; exact (va_up_n (by omega)).trans hf34
            have hf42 : g_36 1 = .inr (2, [.ref (ad 2), .ref (ad 3)]) := by rw [eg_36]; exact (va_up_n (by decide)).trans hf35
            refine lv_iinc (v := nI (k + 1)) (lv' := [(3, .int (nI (k + 1))), (2, .int (nI (stq M cl 0 (k + 1)))), (4, .int (nI (cl k))), (0, .ref (ad 60)), (1, .ref (ad n))]) jx jb dX4_play_121 hl (k := 4) rfl (show nI k + 1 = nI (k + 1) from nI_1 _) (by decide) rfl (fun ls hl => ?_)
            refine lv_goto (tgt := 22) jx jb dX4_play_124 (by decide) ?_
            exact ih22 (k + 1) _ g_36 _ _ _ (by omega) (fun i hi => by by_cases e : i = k; (rw [e, pk_us]); (rw [pk_un e]; exact hres i (by omega))) hf37 hf38 hf39 hf40 hf41 hf42 (fun k hk => by show g_36 k = _; simp only [List.mem_cons, List.not_mem_nil, or_false, not_or] at hk; rw [eg_36, va_up_n (by omega), eg_29, va_up_n (by omega), eg_22, va_up_n (by omega), hfr22 k (by simp only [List.mem_cons, List.not_mem_nil, or_false, not_or] <;> omega)]) (by omega) hW (lv_sub hl [3, 4, 1, 0] rfl)
          · refine lv_iconst (v := 0) jx jb dX4_play_107 (by decide) ?_
            refine lv_goto (tgt := 117) jx jb dX4_play_108 (by decide) ?_
            refine lv_ior jx jb dX4_play_117 ?_
            refine top_eq (y := mtq M cl (k + 1)) (by rw [bt_a (tkq_b hok h96) c104]; rfl) ?_
            refine w_put X hW K4 (by omega) hf30 3 (by decide) fl_X4_19 rfl rfl rfl (Nat.le_of_ble_eq_true rfl) dX4_play_118 (fun H locs hW => ?_)
            obtain ⟨g_43, eg_43⟩ : ∃ zz, zz = va_up g_29 60 (.inr (4, [.ref (ad 1), .ref (ad 61), .int (nI sz), .int (mtq M cl (k + 1)), .int (tI (tkq M cl 0 k))])) := ⟨_, rfl⟩
            have hW : Wd G A js.heap (N, ad, g_43) H locs := by rw [eg_43]; exact hW
            have hf44 : g_43 60 = .inr (4, [.ref (ad 1), .ref (ad 61), .int (nI sz), .int (mtq M cl (k + 1)), .int (tI (tkq M cl 0 k))]) := by rw [eg_43]; exact va_up_s
            have hf45 : g_43 61 = .inl (cy 0, 200, .inl (upd f1 k (rsq M cl 0 k))) := by rw [eg_43]; exact (va_up_n (by decide)).trans hf31
            have hf46 : g_43 n = .inr (5, [.ref (ad c), .ref (ad r), .int (nI sz)]) := by rw [eg_43]; exact (va_up_n (by omega)).trans hf32
            have hf47 : g_43 c = .inl (cy 0, 200, .inl fc) := by rw [eg_43]; exact (va_up_n (by omega)).trans hf33
            have hf48 : g_43 r = .inl (cy 0, 200, .inl fr) := by rw [eg_43]; exact (va_up_n (by omega)).trans hf34
            have hf49 : g_43 1 = .inr (2, [.ref (ad 2), .ref (ad 3)]) := by rw [eg_43]; exact (va_up_n (by decide)).trans hf35
            refine lv_iinc (v := nI (k + 1)) (lv' := [(3, .int (nI (k + 1))), (2, .int (nI (stq M cl 0 (k + 1)))), (4, .int (nI (cl k))), (0, .ref (ad 60)), (1, .ref (ad n))]) jx jb dX4_play_121 hl (k := 4) rfl (show nI k + 1 = nI (k + 1) from nI_1 _) (by decide) rfl (fun ls hl => ?_)
            refine lv_goto (tgt := 22) jx jb dX4_play_124 (by decide) ?_
            exact ih22 (k + 1) _ g_43 _ _ _ (by omega) (fun i hi => by by_cases e : i = k; (rw [e, pk_us]); (rw [pk_un e]; exact hres i (by omega))) hf44 hf45 hf46 hf47 hf48 hf49 (fun k hk => by show g_43 k = _; simp only [List.mem_cons, List.not_mem_nil, or_false, not_or] at hk; rw [eg_43, va_up_n (by omega), eg_29, va_up_n (by omega), eg_22, va_up_n (by omega), hfr22 k (by simp only [List.mem_cons, List.not_mem_nil, or_false, not_or] <;> omega)]) (by omega) hW (lv_sub hl [3, 4, 1, 0] rfl)
  exact loop22 _ 0 _ g_15 _ _ _ (by omega) (fun i hi => absurd hi (by omega)) hf16 hf17 hf18 hf19 hf20 hf21 (fun k hk => by show g_15 k = _; simp only [List.mem_cons, List.not_mem_nil, or_false, not_or] at hk; rw [eg_15, va_up_n (by omega), eg_8, va_up_n (by omega), eg_1, va_up_n (by omega)]) (Nat.lt_succ_self _) hW (lv_sub hl [2, 3, 1, 0] rfl)

set_option maxHeartbeats 4000000 in
set_option maxRecDepth 100000 in
theorem c_meets {l : Launch} {G : va_G} {cy : Nat → ClassId} {N : Nat} {ad : Nat → Nat} {g : Nat → va_E} {n c r sz : Nat} {fc fr : Nat → Int32} {psz : Nat} {pf : Nat → Int32} {mt lt : Int32} {M : M4} {cl : Nat → Nat} (hM : MachAt cy N ad g M) (hP : RepAt cy N ad g psz pf mt lt) (hR : RowAt cy N ad g n c r sz fc fr) (hC : ∀ k, k < sz → fc k = nI (cl k) ∧ cl k < 96) (hd : n ≠ 60 ∧ n ≠ 61 ∧ c ≠ 60 ∧ c ≠ 61 ∧ r ≠ 60 ∧ r ≠ 61) : MI l G cy (N, ad, g) yX4_meets cX4_meets 2 (some .int) (rmN 4) [.ref (ad 60), .ref (ad n)] (nA N ad (fun v g1 => v = mtq M cl sz ∧ ∃ f1, RepAt cy N ad g1 sz f1 (mtq M cl sz) (ltq M cl sz) ∧ (∀ i, i < sz → f1 i = rsq M cl 0 i) ∧ Fr g g1 [60, 61])) := by
  refine NI.mk (by decide) (by intros; first | rfl | (simp_all; done)) (Nat.le_of_ble_eq_true rfl) ?_
  intro jp je js jm below meth jc A Q X hW ret ls hl
  have jx := X.hx
  have jb := X.hb
  have hl : lv_has ls 2 [(0, .ref (ad 60)), (1, .ref (ad n))] := hl
  have X : Cx G cy jp js jm _ jc cX4_meets 2 RX4 A js.heap := X
  obtain ⟨h83, hpsz, f60, f61⟩ := id hP
  refine lv_aload_n jx jb dX4_meets_0 rfl (lv_at hl 0 rfl) ?_
  refine lv_aload_n jx jb dX4_meets_1 rfl (lv_at hl 1 rfl) ?_
  refine w_nVv (As := [.ref (ad n)]) X hW (c_play hM hP hR hC hd) (by omega) f60 rfl rfl ml_X4_54 mf_X4_play ⟨Nat.le_of_ble_eq_true rfl, Nat.le_of_ble_eq_true rfl⟩ hl.1 rfl (Nat.le_of_ble_eq_true rfl) ⟨Nat.le_of_ble_eq_true rfl, Nat.le_of_ble_eq_true rfl⟩ dX4_meets_2 (fun g1 H locs hp hW => ?_)
  obtain ⟨f1, hP1, hres, pfr⟩ := hp
  obtain ⟨-, -, p60, p61⟩ := id hP1
  refine lv_aload_n jx jb dX4_meets_5 rfl (lv_at hl 0 rfl) ?_
  refine w_get X hW K4 (by omega) p60 3 (by decide) fl_X4_19 rfl dX4_meets_6 ?_
  exact ret _ _ _ _ _ _ dX4_meets_9 hW ⟨rfl, f1, hP1, hres, pfr⟩

set_option maxHeartbeats 4000000 in
set_option maxRecDepth 100000 in
theorem c_takeResults {l : Launch} {G : va_G} {cy : Nat → ClassId} {N : Nat} {ad : Nat → Nat} {g : Nat → va_E} {n c r sz : Nat} {fc fr : Nat → Int32} {pf : Nat → Int32} {mt lt : Int32} (hP : RepAt cy N ad g sz pf mt lt) (hR : RowAt cy N ad g n c r sz fc fr) (hd : n ≠ 60 ∧ n ≠ 61 ∧ c ≠ 60 ∧ c ≠ 61 ∧ r ≠ 60 ∧ r ≠ 61) : MV l G cy (N, ad, g) yX5_takeResults cX5_takeResults 3 none (rmN 2) [.ref (ad n), .ref (ad 60)] (nV N ad (fun g1 => ∃ f1, RowAt cy N ad g1 n c r sz fc f1 ∧ (∀ i, i < sz → f1 i = pf i) ∧ Fr g g1 [n, c, r])) := by
  refine NV.mk (by decide) (Nat.le_of_ble_eq_true rfl) ?_
  intro jp je js jm below meth jc A Q X hW ret ls hl
  have jx := X.hx
  have jb := X.hb
  have hl : lv_has ls 3 [(0, .ref (ad n)), (1, .ref (ad 60))] := hl
  have X : Cx G cy jp js jm _ jc cX5_takeResults 3 RX5 A js.heap := X
  obtain ⟨h83, hpsz, f60, f61⟩ := id hP
  obtain ⟨hn, hc, hr, q1, q2, q3, hsz, fn, fc_, fr_⟩ := id hR
  refine lv_iconst (v := 0) jx jb dX5_takeResults_0 (by decide) ?_
  refine lv_istore_n (lv' := [(2, .int 0), (0, .ref (ad n)), (1, .ref (ad 60))]) jx jb dX5_takeResults_1 rfl hl (by decide) rfl (fun ls hl => ?_)
  have loop2 : ∀ (fuel2 : Nat) (k : Nat) (f1 : Nat → Int32) (gL2 : Nat → va_E) (H : Heap) (locs : List Loc) (ls : Array Slot), (k ≤ sz) → (∀ i, i < k → f1 i = pf i) → gL2 n = .inr (5, [.ref (ad c), .ref (ad r), .int (nI sz)]) → gL2 c = .inl (cy 0, 200, .inl fc) → gL2 r = .inl (cy 0, 200, .inl f1) → gL2 60 = .inr (4, [.ref (ad 1), .ref (ad 61), .int (nI sz), .int mt, .int lt]) → gL2 61 = .inl (cy 0, 200, .inl pf) → Fr g gL2 [n, c, r] → sz - k < fuel2 → Wd G A js.heap (N, ad, gL2) H locs → lv_has ls 3 [(0, .ref (ad n)), (1, .ref (ad 60)), (2, .int (nI k))] → W jp l je (rmN 2) js jm [.ref (ad n), .ref (ad 60)].toArray below meth jc H locs 0 0 Q (F0 jm 2 ls []) := by
    intro fuel2
    induction fuel2 with
    | zero => intro k f1 gL2 H locs ls hk hres fL2_0 fL2_1 fL2_2 fL2_3 fL2_4 hfr2 hm2; exact absurd hm2 (Nat.not_lt_zero _)
    | succ fuel2 ih2 =>
      intro k f1 gL2 H locs ls hk hres fL2_0 fL2_1 fL2_2 fL2_3 fL2_4 hfr2 hm2 hW hl
      refine lv_iload_n jx jb dX5_takeResults_2 rfl (lv_at hl 2 rfl) ?_
      refine lv_aload_n jx jb dX5_takeResults_3 rfl (lv_at hl 0 rfl) ?_
      refine w_get X hW K5 hn fL2_0 2 (by decide) fl_X5_18 rfl dX5_takeResults_4 ?_
      refine lv_icmp_ge (tgt := 27) jx jb dX5_takeResults_7 (by decide) (fun c7 => ?_) (fun c7 => ?_)
      · exact ret _ _ _ _ _ dX5_takeResults_27 hW ⟨f1, ⟨hn, hc, hr, q1, q2, q3, hsz, fL2_0, fL2_1, fL2_2⟩, (by have := n_le (by omega) (by omega) c7; have e : k = sz := (by omega); rw [← e]; exact hres), (fun k hk => by show gL2 k = _; simp only [List.mem_cons, List.not_mem_nil, or_false, not_or] at hk; rw [hfr2 k (by simp only [List.mem_cons, List.not_mem_nil, or_false, not_or] <;> omega)])⟩
      · have hlt : k < sz := n_nle (by omega) (by omega) c7
        refine lv_aload_n jx jb dX5_takeResults_10 rfl (lv_at hl 0 rfl) ?_
        refine w_get X hW K5 hn fL2_0 1 (by decide) fl_X5_15 rfl dX5_takeResults_11 ?_
        refine lv_iload_n jx jb dX5_takeResults_14 rfl (lv_at hl 2 rfl) ?_
        refine lv_aload_n jx jb dX5_takeResults_15 rfl (lv_at hl 1 rfl) ?_
        refine lv_iload_n jx jb dX5_takeResults_16 rfl (lv_at hl 2 rfl) ?_
        refine w_rV (As := [.int (nI k)]) X hW (c_pResultAt ⟨h83, hpsz, fL2_3, fL2_4⟩ hlt) (by omega) fL2_3 rfl rfl ml_X5_30 mf_X4_resultAt ⟨Nat.le_of_ble_eq_true rfl, Nat.le_of_ble_eq_true rfl⟩ hl.1 rfl (Nat.le_of_ble_eq_true rfl) ⟨Nat.le_of_ble_eq_true rfl, Nat.le_of_ble_eq_true rfl⟩ dX5_takeResults_17 (fun H locs hW => ?_)
        refine w_ist X hW hr fL2_2 k rfl (by omega) (by decide) dX5_takeResults_20 (fun H locs hW => ?_)
        obtain ⟨g_1, eg_1⟩ : ∃ zz, zz = va_up gL2 r (.inl (cy 0, 200, .inl (upd f1 k (pf k)))) := ⟨_, rfl⟩
        have hW : Wd G A js.heap (N, ad, g_1) H locs := by rw [eg_1]; exact hW
        have hf2 : g_1 n = .inr (5, [.ref (ad c), .ref (ad r), .int (nI sz)]) := by rw [eg_1]; exact (va_up_n (by omega)).trans fL2_0
        have hf3 : g_1 c = .inl (cy 0, 200, .inl fc) := by rw [eg_1]; exact (va_up_n (by omega)).trans fL2_1
        have hf4 : g_1 r = .inl (cy 0, 200, .inl (upd f1 k (pf k))) := by rw [eg_1]; exact va_up_s
        have hf5 : g_1 60 = .inr (4, [.ref (ad 1), .ref (ad 61), .int (nI sz), .int mt, .int lt]) := by rw [eg_1]; exact (va_up_n (by omega)).trans fL2_3
        have hf6 : g_1 61 = .inl (cy 0, 200, .inl pf) := by rw [eg_1]; exact (va_up_n (by omega)).trans fL2_4
        refine lv_iinc (v := nI (k + 1)) (lv' := [(2, .int (nI (k + 1))), (0, .ref (ad n)), (1, .ref (ad 60))]) jx jb dX5_takeResults_21 hl (k := 2) rfl (show nI k + 1 = nI (k + 1) from nI_1 _) (by decide) rfl (fun ls hl => ?_)
        refine lv_goto (tgt := 2) jx jb dX5_takeResults_24 (by decide) ?_
        exact ih2 (k + 1) _ g_1 _ _ _ (by omega) (fun i hi => by by_cases e : i = k; (rw [e, pk_us]); (rw [pk_un e]; exact hres i (by omega))) hf2 hf3 hf4 hf5 hf6 (fun k hk => by show g_1 k = _; simp only [List.mem_cons, List.not_mem_nil, or_false, not_or] at hk; rw [eg_1, va_up_n (by omega), hfr2 k (by simp only [List.mem_cons, List.not_mem_nil, or_false, not_or] <;> omega)]) (by omega) hW (lv_sub hl [1, 2, 0] rfl)
  exact loop2 _ 0 _ g _ _ _ (by omega) (fun i hi => absurd hi (by omega)) fn fc_ fr_ f60 f61 (fun k hk => rfl) (Nat.lt_succ_self _) hW (lv_sub hl [1, 2, 0] rfl)
end
section
/-- the log's cells: the object 4, its row 5 6 7, the branches taken 8 -/
def LogAt (cy : Nat → ClassId) (N : Nat) (ad : Nat → Nat) (g : Nat → va_E) (sz : Nat) (fc fr ft : Nat → Int32) (st : Nat) : Prop := 83 ≤ N ∧ RowAt cy N ad g 5 6 7 sz fc fr ∧ st < 65536 ∧ g 4 = .inr (1, [.ref (ad 5), .ref (ad 8), .int (nI st)]) ∧ g 8 = .inl (cy 0, 200, .inl ft)
theorem LogAt.fr {cy : Nat → ClassId} {N : Nat} {ad : Nat → Nat} {g g' : Nat → va_E} {sz : Nat} {fc fr ft : Nat → Int32} {st : Nat} (h : LogAt cy N ad g sz fc fr ft st) (h1 : ∀ k, 4 ≤ k → k ≤ 8 → g' k = g k) : LogAt cy N ad g' sz fc fr ft st := by
  obtain ⟨a, b, b2, c, d⟩ := h
  exact ⟨a, b.fr (h1 5 (by omega) (by omega)) (h1 6 (by omega) (by omega)) (h1 7 (by omega) (by omega)), b2, (h1 4 (by omega) (by omega)).trans c, (h1 8 (by omega) (by omega)).trans d⟩
def tellV (sz : Nat) (cl : Nat → Nat) (fr ft : Nat → Int32) (i what : Int32) : Int32 := if 0 ≤ i ∧ i < nI sz then (if what = 0 then nI (cl i.toNatClampNeg / 16) else if what = 1 then nI (cl i.toNatClampNeg % 16) else if what = 2 then fr i.toNatClampNeg else if what = 3 then ft i.toNatClampNeg else -1) else -1
theorem tell_no {sz : Nat} {cl : Nat → Nat} {fr ft : Nat → Int32} {i what : Int32} (h : bI (0 ≤ i ∧ i < nI sz) = 0) : (-1 : Int32) = tellV sz cl fr ft i what := by
  unfold tellV
  rw [if_neg (bI_0.mp h)]
theorem sw_out {x : Int32} {n : Nat} (hn : n < 2 ^ 31) (h : x.toInt < 0 ∨ ((n : Int) - 1) < x.toInt) {k : Nat} (hk : k < n) : ¬ x = nI k := fun e => by
  rw [e, nI_toInt (by omega)] at h
  omega

set_option maxHeartbeats 4000000 in
set_option maxRecDepth 100000 in
theorem c_lSize {l : Launch} {G : va_G} {cy : Nat → ClassId} {N : Nat} {ad : Nat → Nat} {g : Nat → va_E} {sz : Nat} {fc fr ft : Nat → Int32} {st : Nat} (hL : LogAt cy N ad g sz fc fr ft st) : RI l G cy (N, ad, g) yX1_size cX1_size 1 (some .int) (rmN 1) [.ref (ad 4)] (nI sz) := by
  refine RI.mk (by decide) (by first | rfl | exact bI_nar) (Nat.le_of_ble_eq_true rfl) ?_
  intro jp je js jm below meth jc A Q X hW ret ls hl
  have jx := X.hx
  have jb := X.hb
  have hl : lv_has ls 1 [(0, .ref (ad 4))] := hl
  have X : Cx G cy jp js jm _ jc cX1_size 1 RX1 A js.heap := X
  obtain ⟨h83, hR, hst, f4, f8⟩ := id hL
  obtain ⟨hn, hc, hr, q1, q2, q3, hsz, fn, fc_, fr_⟩ := id hR
  refine lv_aload_n jx jb dX1_size_0 rfl (lv_at hl 0 rfl) ?_
  refine w_get X hW K1 (by omega) f4 0 (by decide) fl_X1_12 rfl dX1_size_1 ?_
  refine w_rV (As := []) X hW (c_rSize hR) (by omega) fn rfl rfl ml_X1_26 mf_X5_size ⟨Nat.le_of_ble_eq_true rfl, Nat.le_of_ble_eq_true rfl⟩ hl.1 rfl (Nat.le_of_ble_eq_true rfl) ⟨Nat.le_of_ble_eq_true rfl, Nat.le_of_ble_eq_true rfl⟩ dX1_size_4 (fun H locs hW => ?_)
  exact ret _ _ _ _ _ dX1_size_7 hW rfl

set_option maxHeartbeats 4000000 in
set_option maxRecDepth 100000 in
theorem c_logFull {l : Launch} {G : va_G} {cy : Nat → ClassId} {N : Nat} {ad : Nat → Nat} {g : Nat → va_E} {sz : Nat} {fc fr ft : Nat → Int32} {st : Nat} {c0 : Nat} (hL : LogAt cy N ad g sz fc fr ft st) (h200 : sz = 200) : RI l G cy (N, ad, g) yX1_add cX1_add 4 (some .int) (rmN 3) [.ref (ad 4), .int (nI c0), .ref (ad 1)] (-1) := by
  refine RI.mk (by decide) (by first | rfl | exact bI_nar) (Nat.le_of_ble_eq_true rfl) ?_
  intro jp je js jm below meth jc A Q X hW ret ls hl
  have jx := X.hx
  have jb := X.hb
  have hl : lv_has ls 4 [(0, .ref (ad 4)), (1, .int (nI c0)), (2, .ref (ad 1))] := hl
  have X : Cx G cy jp js jm _ jc cX1_add 4 RX1 A js.heap := X
  obtain ⟨h83, hR, hst, f4, f8⟩ := id hL
  obtain ⟨hn, hc, hr, q1, q2, q3, hsz, fn, fc_, fr_⟩ := id hR
  refine lv_aload_n jx jb dX1_add_0 rfl (lv_at hl 0 rfl) ?_
  refine w_get X hW K1 (by omega) f4 0 (by decide) fl_X1_12 rfl dX1_add_1 ?_
  refine w_rV (As := []) X hW (c_rSize hR) (by omega) fn rfl rfl ml_X1_26 mf_X5_size ⟨Nat.le_of_ble_eq_true rfl, Nat.le_of_ble_eq_true rfl⟩ hl.1 rfl (Nat.le_of_ble_eq_true rfl) ⟨Nat.le_of_ble_eq_true rfl, Nat.le_of_ble_eq_true rfl⟩ dX1_add_4 (fun H locs hW => ?_)
  refine lv_istore_n (lv' := [(3, .int (nI sz)), (0, .ref (ad 4)), (1, .int (nI c0)), (2, .ref (ad 1))]) jx jb dX1_add_7 rfl hl (by decide) rfl (fun ls hl => ?_)
  refine lv_iload_n jx jb dX1_add_8 rfl (lv_at hl 0 rfl) ?_
  refine lv_sipush (v := 200) jx jb dX1_add_9 (by decide) ?_
  refine lv_icmp_lt (tgt := 17) jx jb dX1_add_12 (by decide) (fun c12 => ?_) (fun c12 => ?_)
  · exact absurd (n_lt (b := 200) (by omega) (by decide) c12) (by omega)
  · refine lv_iconst (v := -1) jx jb dX1_add_15 (by decide) ?_
    exact ret _ _ _ _ _ dX1_add_16 hW rfl

set_option maxHeartbeats 4000000 in
set_option maxRecDepth 100000 in
theorem c_logAdd {l : Launch} {G : va_G} {cy : Nat → ClassId} {N : Nat} {ad : Nat → Nat} {g : Nat → va_E} {sz : Nat} {fc fr ft : Nat → Int32} {st : Nat} {M : M4} {c0 : Nat} (hM : MachAt cy N ad g M) (hL : LogAt cy N ad g sz fc fr ft st) (hc96 : c0 < 96) (hs : sz < 200) : MI l G cy (N, ad, g) yX1_add cX1_add 4 (some .int) (rmN 3) [.ref (ad 4), .int (nI c0), .ref (ad 1)] (nA N ad (fun v g1 => v = rs M (tk M (c0 / 16) st) (stp M c0 st) ∧ LogAt cy N ad g1 (sz + 1) (upd fc sz (nI c0)) (upd fr sz (rs M (tk M (c0 / 16) st) (stp M c0 st))) (upd ft sz (tI (tk M (c0 / 16) st))) (stp M c0 st) ∧ Fr g g1 [4, 5, 6, 7, 8])) := by
  refine NI.mk (by decide) (by intros; first | rfl | (simp_all; done)) (Nat.le_of_ble_eq_true rfl) ?_
  intro jp je js jm below meth jc A Q X hW ret ls hl
  have jx := X.hx
  have jb := X.hb
  have hl : lv_has ls 4 [(0, .ref (ad 4)), (1, .int (nI c0)), (2, .ref (ad 1))] := hl
  have X : Cx G cy jp js jm _ jc cX1_add 4 RX1 A js.heap := X
  have hok := hM.1
  obtain ⟨-, -, bc_, fs_, f1, -⟩ := id hM
  obtain ⟨h83, hR, hst, f4, f8⟩ := id hL
  obtain ⟨hn, hc, hr, q1, q2, q3, hsz, fn, fc_, fr_⟩ := id hR
  have hst1 : stp M c0 st < 65536 := nx_lt hok (by omega) hst
  refine lv_aload_n jx jb dX1_add_0 rfl (lv_at hl 0 rfl) ?_
  refine w_get X hW K1 (by omega) f4 0 (by decide) fl_X1_12 rfl dX1_add_1 ?_
  refine w_rV (As := []) X hW (c_rSize hR) (by omega) fn rfl rfl ml_X1_26 mf_X5_size ⟨Nat.le_of_ble_eq_true rfl, Nat.le_of_ble_eq_true rfl⟩ hl.1 rfl (Nat.le_of_ble_eq_true rfl) ⟨Nat.le_of_ble_eq_true rfl, Nat.le_of_ble_eq_true rfl⟩ dX1_add_4 (fun H locs hW => ?_)
  refine lv_istore_n (lv' := [(3, .int (nI sz)), (0, .ref (ad 4)), (1, .int (nI c0)), (2, .ref (ad 1))]) jx jb dX1_add_7 rfl hl (by decide) rfl (fun ls hl => ?_)
  refine lv_iload_n jx jb dX1_add_8 rfl (lv_at hl 0 rfl) ?_
  refine lv_sipush (v := 200) jx jb dX1_add_9 (by decide) ?_
  refine lv_icmp_lt (tgt := 17) jx jb dX1_add_12 (by decide) (fun c12 => ?_) (fun c12 => ?_)
  · refine lv_aload_n jx jb dX1_add_17 rfl (lv_at hl 1 rfl) ?_
    refine w_get X hW K1 (by omega) f4 1 (by decide) fl_X1_18 rfl dX1_add_18 ?_
    refine lv_iload_n jx jb dX1_add_21 rfl (lv_at hl 0 rfl) ?_
    refine lv_aload_n jx jb dX1_add_22 rfl (lv_at hl 3 rfl) ?_
    refine lv_iload_n jx jb dX1_add_23 rfl (lv_at hl 2 rfl) ?_
    refine lv_aload_n jx jb dX1_add_24 rfl (lv_at hl 1 rfl) ?_
    refine w_get X hW K1 (by omega) f4 2 (by decide) fl_X1_22 rfl dX1_add_25 ?_
    refine w_rV (As := [.int (nI c0), .int (nI st)]) X hW (c_takenBy (hM.fr (fun k hk => by show g k = _; rfl)) hc96 hst) (by omega) f1 rfl rfl ml_X1_30 mf_X2_takenBy ⟨Nat.le_of_ble_eq_true rfl, Nat.le_of_ble_eq_true rfl⟩ hl.1 rfl (Nat.le_of_ble_eq_true rfl) ⟨Nat.le_of_ble_eq_true rfl, Nat.le_of_ble_eq_true rfl⟩ dX1_add_28 (fun H locs hW => ?_)
    refine w_ist X hW (by omega) f8 sz rfl hs (by decide) dX1_add_31 (fun H locs hW => ?_)
    obtain ⟨g_1, eg_1⟩ : ∃ zz, zz = va_up g 8 (.inl (cy 0, 200, .inl (upd ft sz (tI (tk M (c0 / 16) st))))) := ⟨_, rfl⟩
    have hW : Wd G A js.heap (N, ad, g_1) H locs := by rw [eg_1]; exact hW
    have hf2 : g_1 4 = .inr (1, [.ref (ad 5), .ref (ad 8), .int (nI st)]) := by rw [eg_1]; exact (va_up_n (by decide)).trans f4
    have hf3 : g_1 5 = .inr (5, [.ref (ad 6), .ref (ad 7), .int (nI sz)]) := by rw [eg_1]; exact (va_up_n (by decide)).trans fn
    have hf4 : g_1 6 = .inl (cy 0, 200, .inl fc) := by rw [eg_1]; exact (va_up_n (by decide)).trans fc_
    have hf5 : g_1 7 = .inl (cy 0, 200, .inl fr) := by rw [eg_1]; exact (va_up_n (by decide)).trans fr_
    have hf6 : g_1 8 = .inl (cy 0, 200, .inl (upd ft sz (tI (tk M (c0 / 16) st)))) := by rw [eg_1]; exact va_up_s
    have hf7 : g_1 1 = .inr (2, [.ref (ad 2), .ref (ad 3)]) := by rw [eg_1]; exact (va_up_n (by decide)).trans f1
    refine lv_aload_n jx jb dX1_add_32 rfl (lv_at hl 1 rfl) ?_
    refine lv_aload_n jx jb dX1_add_33 rfl (lv_at hl 3 rfl) ?_
    refine lv_aload_n jx jb dX1_add_34 rfl (lv_at hl 1 rfl) ?_
    refine w_get X hW K1 (by omega) hf2 1 (by decide) fl_X1_18 rfl dX1_add_35 ?_
    refine lv_iload_n jx jb dX1_add_38 rfl (lv_at hl 0 rfl) ?_
    refine w_ild X hW (by omega) hf6 sz rfl hs (by decide) dX1_add_39 ?_
    refine top_eq (y := tI (tk M (c0 / 16) st)) (pk_us) ?_
    refine lv_aload_n jx jb dX1_add_40 rfl (lv_at hl 1 rfl) ?_
    refine w_get X hW K1 (by omega) hf2 2 (by decide) fl_X1_22 rfl dX1_add_41 ?_
    refine lv_iload_n jx jb dX1_add_44 rfl (lv_at hl 2 rfl) ?_
    refine w_rN (As := [.int (nI c0)]) X hW (c_numberOf (by omega)) mn_X1_36 mf_X8_numberOf ⟨Nat.le_of_ble_eq_true rfl, Nat.le_of_ble_eq_true rfl⟩ hl.1 rfl (Nat.le_of_ble_eq_true rfl) ⟨Nat.le_of_ble_eq_true rfl, Nat.le_of_ble_eq_true rfl⟩ dX1_add_45 (fun H locs hW => ?_)
    refine w_rV (As := [.int (tI (tk M (c0 / 16) st)), .int (nI st), .int (nI (c0 % 16))]) X hW (c_mStateBehind (hM.fr (fun k hk => by show g_1 k = _; rw [eg_1, va_up_n (by omega)])) (by omega) hst (Nat.mod_lt _ (by decide))) (by omega) hf7 rfl rfl ml_X1_40 mf_X2_stateBehind ⟨Nat.le_of_ble_eq_true rfl, Nat.le_of_ble_eq_true rfl⟩ hl.1 rfl (Nat.le_of_ble_eq_true rfl) ⟨Nat.le_of_ble_eq_true rfl, Nat.le_of_ble_eq_true rfl⟩ dX1_add_48 (fun H locs hW => ?_)
    refine top_eq (y := nI (stp M c0 st)) (rfl) ?_
    refine w_put X hW K1 (by omega) hf2 2 (by decide) fl_X1_22 rfl rfl rfl (Nat.le_of_ble_eq_true rfl) dX1_add_51 (fun H locs hW => ?_)
    obtain ⟨g_8, eg_8⟩ : ∃ zz, zz = va_up g_1 4 (.inr (1, [.ref (ad 5), .ref (ad 8), .int (nI (stp M c0 st))])) := ⟨_, rfl⟩
    have hW : Wd G A js.heap (N, ad, g_8) H locs := by rw [eg_8]; exact hW
    have hf9 : g_8 4 = .inr (1, [.ref (ad 5), .ref (ad 8), .int (nI (stp M c0 st))]) := by rw [eg_8]; exact va_up_s
    have hf10 : g_8 5 = .inr (5, [.ref (ad 6), .ref (ad 7), .int (nI sz)]) := by rw [eg_8]; exact (va_up_n (by decide)).trans hf3
    have hf11 : g_8 6 = .inl (cy 0, 200, .inl fc) := by rw [eg_8]; exact (va_up_n (by decide)).trans hf4
    have hf12 : g_8 7 = .inl (cy 0, 200, .inl fr) := by rw [eg_8]; exact (va_up_n (by decide)).trans hf5
    have hf13 : g_8 8 = .inl (cy 0, 200, .inl (upd ft sz (tI (tk M (c0 / 16) st)))) := by rw [eg_8]; exact (va_up_n (by decide)).trans hf6
    have hf14 : g_8 1 = .inr (2, [.ref (ad 2), .ref (ad 3)]) := by rw [eg_8]; exact (va_up_n (by decide)).trans hf7
    refine lv_aload_n jx jb dX1_add_54 rfl (lv_at hl 1 rfl) ?_
    refine w_get X hW K1 (by omega) hf9 0 (by decide) fl_X1_12 rfl dX1_add_55 ?_
    refine lv_iload_n jx jb dX1_add_58 rfl (lv_at hl 2 rfl) ?_
    refine lv_aload_n jx jb dX1_add_59 rfl (lv_at hl 3 rfl) ?_
    refine lv_aload_n jx jb dX1_add_60 rfl (lv_at hl 1 rfl) ?_
    refine w_get X hW K1 (by omega) hf9 1 (by decide) fl_X1_18 rfl dX1_add_61 ?_
    refine lv_iload_n jx jb dX1_add_64 rfl (lv_at hl 0 rfl) ?_
    refine w_ild X hW (by omega) hf13 sz rfl hs (by decide) dX1_add_65 ?_
    refine top_eq (y := tI (tk M (c0 / 16) st)) (pk_us) ?_
    refine lv_aload_n jx jb dX1_add_66 rfl (lv_at hl 1 rfl) ?_
    refine w_get X hW K1 (by omega) hf9 2 (by decide) fl_X1_22 rfl dX1_add_67 ?_
    refine w_rV (As := [.int (tI (tk M (c0 / 16) st)), .int (nI (stp M c0 st))]) X hW (c_resultOf (hM.fr (fun k hk => by show g_8 k = _; rw [eg_8, va_up_n (by omega), eg_1, va_up_n (by omega)])) (by omega) hst1) (by omega) hf14 rfl rfl ml_X1_44 mf_X2_resultOf ⟨Nat.le_of_ble_eq_true rfl, Nat.le_of_ble_eq_true rfl⟩ hl.1 rfl (Nat.le_of_ble_eq_true rfl) ⟨Nat.le_of_ble_eq_true rfl, Nat.le_of_ble_eq_true rfl⟩ dX1_add_70 (fun H locs hW => ?_)
    refine w_nVv (As := [.int (nI c0), .int (rs M (tk M (c0 / 16) st) (stp M c0 st))]) X hW (c_rAdd ⟨hn, hc, hr, q1, q2, q3, hsz, hf10, hf11, hf12⟩ hs) (by omega) hf10 rfl rfl ml_X1_47 mf_X5_add ⟨Nat.le_of_ble_eq_true rfl, Nat.le_of_ble_eq_true rfl⟩ hl.1 rfl (Nat.le_of_ble_eq_true rfl) ⟨Nat.le_of_ble_eq_true rfl, Nat.le_of_ble_eq_true rfl⟩ dX1_add_73 (fun g1 H locs hp hW => ?_)
    obtain ⟨hR1, pfr⟩ := hp
    obtain ⟨-, -, -, -, -, -, -, p8, p9, p10⟩ := id hR1
    have hf15 : g1 4 = .inr (1, [.ref (ad 5), .ref (ad 8), .int (nI (stp M c0 st))]) := (pfr 4 (by simp only [List.mem_cons, List.not_mem_nil, or_false, not_or] <;> omega)).trans hf9
    have hf16 : g1 8 = .inl (cy 0, 200, .inl (upd ft sz (tI (tk M (c0 / 16) st)))) := (pfr 8 (by simp only [List.mem_cons, List.not_mem_nil, or_false, not_or] <;> omega)).trans hf13
    have hf17 : g1 1 = .inr (2, [.ref (ad 2), .ref (ad 3)]) := (pfr 1 (by simp only [List.mem_cons, List.not_mem_nil, or_false, not_or] <;> omega)).trans hf14
    refine lv_aload_n jx jb dX1_add_76 rfl (lv_at hl 1 rfl) ?_
    refine w_get X hW K1 (by omega) hf15 0 (by decide) fl_X1_12 rfl dX1_add_77 ?_
    refine lv_iload_n jx jb dX1_add_80 rfl (lv_at hl 0 rfl) ?_
    refine w_rV (As := [.int (nI sz)]) X hW (c_resultAt hR1 (Nat.lt_succ_self _)) (by omega) p8 rfl rfl ml_X1_51 mf_X5_resultAt ⟨Nat.le_of_ble_eq_true rfl, Nat.le_of_ble_eq_true rfl⟩ hl.1 rfl (Nat.le_of_ble_eq_true rfl) ⟨Nat.le_of_ble_eq_true rfl, Nat.le_of_ble_eq_true rfl⟩ dX1_add_81 (fun H locs hW => ?_)
    refine top_eq (y := rs M (tk M (c0 / 16) st) (stp M c0 st)) (pk_us) ?_
    exact ret _ _ _ _ _ _ dX1_add_84 hW ⟨rfl, ⟨h83, hR1, hst1, hf15, hf16⟩, (fun k hk => by show g1 k = _; simp only [List.mem_cons, List.not_mem_nil, or_false, not_or] at hk; rw [pfr k (by simp only [List.mem_cons, List.not_mem_nil, or_false, not_or] <;> omega), eg_8, va_up_n (by omega), eg_1, va_up_n (by omega)])⟩
  · exact absurd (nI_lt (b := 200) hs (by decide)) c12

set_option maxHeartbeats 4000000 in
set_option maxRecDepth 100000 in
theorem c_clear {l : Launch} {G : va_G} {cy : Nat → ClassId} {N : Nat} {ad : Nat → Nat} {g : Nat → va_E} {sz : Nat} {fc fr ft : Nat → Int32} {st : Nat} (hL : LogAt cy N ad g sz fc fr ft st) : MI l G cy (N, ad, g) yX1_clear cX1_clear 2 (some .int) (rmN 2) [.ref (ad 4)] (nA N ad (fun v g1 => v = nI sz ∧ LogAt cy N ad g1 0 fc fr ft 0 ∧ Fr g g1 [4, 5, 6, 7, 8])) := by
  refine NI.mk (by decide) (by intros; first | rfl | (simp_all; done)) (Nat.le_of_ble_eq_true rfl) ?_
  intro jp je js jm below meth jc A Q X hW ret ls hl
  have jx := X.hx
  have jb := X.hb
  have hl : lv_has ls 2 [(0, .ref (ad 4))] := hl
  have X : Cx G cy jp js jm _ jc cX1_clear 2 RX1 A js.heap := X
  obtain ⟨h83, hR, hst, f4, f8⟩ := id hL
  obtain ⟨hn, hc, hr, q1, q2, q3, hsz, fn, fc_, fr_⟩ := id hR
  refine lv_aload_n jx jb dX1_clear_0 rfl (lv_at hl 0 rfl) ?_
  refine w_get X hW K1 (by omega) f4 0 (by decide) fl_X1_12 rfl dX1_clear_1 ?_
  refine w_rV (As := []) X hW (c_rSize hR) (by omega) fn rfl rfl ml_X1_26 mf_X5_size ⟨Nat.le_of_ble_eq_true rfl, Nat.le_of_ble_eq_true rfl⟩ hl.1 rfl (Nat.le_of_ble_eq_true rfl) ⟨Nat.le_of_ble_eq_true rfl, Nat.le_of_ble_eq_true rfl⟩ dX1_clear_4 (fun H locs hW => ?_)
  refine lv_istore_n (lv' := [(1, .int (nI sz)), (0, .ref (ad 4))]) jx jb dX1_clear_7 rfl hl (by decide) rfl (fun ls hl => ?_)
  refine lv_aload_n jx jb dX1_clear_8 rfl (lv_at hl 1 rfl) ?_
  refine w_get X hW K1 (by omega) f4 0 (by decide) fl_X1_12 rfl dX1_clear_9 ?_
  refine lv_iconst (v := 0) jx jb dX1_clear_12 (by decide) ?_
  refine w_nVv (As := [.int 0]) X hW (c_cutTo (j := 0) ⟨hn, hc, hr, q1, q2, q3, hsz, fn, fc_, fr_⟩ (Nat.zero_le _)) (by omega) fn rfl rfl ml_X1_54 mf_X5_cutTo ⟨Nat.le_of_ble_eq_true rfl, Nat.le_of_ble_eq_true rfl⟩ hl.1 rfl (Nat.le_of_ble_eq_true rfl) ⟨Nat.le_of_ble_eq_true rfl, Nat.le_of_ble_eq_true rfl⟩ dX1_clear_13 (fun g1 H locs hp hW => ?_)
  obtain ⟨hR1, pfr⟩ := hp
  obtain ⟨-, -, -, -, -, -, -, p8, p9, p10⟩ := id hR1
  have hf1 : g1 4 = .inr (1, [.ref (ad 5), .ref (ad 8), .int (nI st)]) := (pfr 4 (by simp only [List.mem_cons, List.not_mem_nil, or_false, not_or] <;> omega)).trans f4
  have hf2 : g1 8 = .inl (cy 0, 200, .inl ft) := (pfr 8 (by simp only [List.mem_cons, List.not_mem_nil, or_false, not_or] <;> omega)).trans f8
  refine lv_aload_n jx jb dX1_clear_16 rfl (lv_at hl 1 rfl) ?_
  refine lv_iconst (v := 0) jx jb dX1_clear_17 (by decide) ?_
  refine w_put X hW K1 (by omega) hf1 2 (by decide) fl_X1_22 rfl rfl rfl (Nat.le_of_ble_eq_true rfl) dX1_clear_18 (fun H locs hW => ?_)
  obtain ⟨g_3, eg_3⟩ : ∃ zz, zz = va_up g1 4 (.inr (1, [.ref (ad 5), .ref (ad 8), .int 0])) := ⟨_, rfl⟩
  have hW : Wd G A js.heap (N, ad, g_3) H locs := by rw [eg_3]; exact hW
  have hf4 : g_3 4 = .inr (1, [.ref (ad 5), .ref (ad 8), .int 0]) := by rw [eg_3]; exact va_up_s
  have hf5 : g_3 5 = .inr (5, [.ref (ad 6), .ref (ad 7), .int (nI 0)]) := by rw [eg_3]; exact (va_up_n (by decide)).trans p8
  have hf6 : g_3 6 = .inl (cy 0, 200, .inl fc) := by rw [eg_3]; exact (va_up_n (by decide)).trans p9
  have hf7 : g_3 7 = .inl (cy 0, 200, .inl fr) := by rw [eg_3]; exact (va_up_n (by decide)).trans p10
  have hf8 : g_3 8 = .inl (cy 0, 200, .inl ft) := by rw [eg_3]; exact (va_up_n (by decide)).trans hf2
  refine lv_iload_n jx jb dX1_clear_21 rfl (lv_at hl 0 rfl) ?_
  exact ret _ _ _ _ _ _ dX1_clear_22 hW ⟨rfl, ⟨h83, ⟨hn, hc, hr, q1, q2, q3, Nat.zero_le _, hf5, hf6, hf7⟩, by decide, hf4, hf8⟩, (fun k hk => by show g_3 k = _; simp only [List.mem_cons, List.not_mem_nil, or_false, not_or] at hk; rw [eg_3, va_up_n (by omega), pfr k (by simp only [List.mem_cons, List.not_mem_nil, or_false, not_or] <;> omega)])⟩

set_option maxHeartbeats 4000000 in
set_option maxRecDepth 100000 in
theorem c_tell {l : Launch} {G : va_G} {cy : Nat → ClassId} {N : Nat} {ad : Nat → Nat} {g : Nat → va_E} {sz : Nat} {fc fr ft : Nat → Int32} {st : Nat} {cl : Nat → Nat} {i what : Int32} (hL : LogAt cy N ad g sz fc fr ft st) (hC : ∀ k, k < sz → fc k = nI (cl k) ∧ cl k < 96) : RI l G cy (N, ad, g) yX1_tell cX1_tell 3 (some .int) (rmN 2) [.ref (ad 4), .int i, .int what] (tellV sz cl fr ft i what) := by
  refine RI.mk (by decide) (by first | rfl | exact bI_nar) (Nat.le_of_ble_eq_true rfl) ?_
  intro jp je js jm below meth jc A Q X hW ret ls hl
  have jx := X.hx
  have jb := X.hb
  have hl : lv_has ls 3 [(0, .ref (ad 4)), (1, .int i), (2, .int what)] := hl
  have X : Cx G cy jp js jm _ jc cX1_tell 3 RX1 A js.heap := X
  obtain ⟨h83, hR, hst, f4, f8⟩ := id hL
  obtain ⟨hn, hc, hr, q1, q2, q3, hsz, fn, fc_, fr_⟩ := id hR
  refine lv_iload_n jx jb dX1_tell_0 rfl (lv_at hl 1 rfl) ?_
  refine lv_aload_n jx jb dX1_tell_1 rfl (lv_at hl 0 rfl) ?_
  refine w_get X hW K1 (by omega) f4 0 (by decide) fl_X1_12 rfl dX1_tell_2 ?_
  refine w_rV (As := []) X hW (c_rSize hR) (by omega) fn rfl rfl ml_X1_26 mf_X5_size ⟨Nat.le_of_ble_eq_true rfl, Nat.le_of_ble_eq_true rfl⟩ hl.1 rfl (Nat.le_of_ble_eq_true rfl) ⟨Nat.le_of_ble_eq_true rfl, Nat.le_of_ble_eq_true rfl⟩ dX1_tell_5 (fun H locs hW => ?_)
  refine w_rN (As := [.int i, .int (nI sz)]) X hW (c_isBelow) mn_X1_58 mf_X8_isBelow ⟨Nat.le_of_ble_eq_true rfl, Nat.le_of_ble_eq_true rfl⟩ hl.1 rfl (Nat.le_of_ble_eq_true rfl) ⟨Nat.le_of_ble_eq_true rfl, Nat.le_of_ble_eq_true rfl⟩ dX1_tell_8 (fun H locs hW => ?_)
  refine lv_if_ne (tgt := 16) jx jb dX1_tell_11 (by decide) (fun c11 => ?_) (fun c11 => ?_)
  · obtain ⟨j, hj, ej⟩ := i_below (by omega) (bI_n0.mp c11)
    have hC0 := hC j hj
    have hte := bI_n0.mp c11
    refine lv_iload_n jx jb dX1_tell_16 rfl (lv_at hl 2 rfl) ?_
    rcases sw_cases what 4 (by decide) with ⟨kS, hkS, eS⟩ | eS
    · rcases (show kS = 0 ∨ kS = 1 ∨ kS = 2 ∨ kS = 3 by omega) with rfl | rfl | rfl | rfl
      · refine lv_tableIn (tgt := 48) (off := 31) jx jb dX1_tell_17 (by rw [eS]; decide) (by rw [eS]; decide) (by rw [eS]; rfl) (by decide) ?_
        refine lv_aload_n jx jb dX1_tell_48 rfl (lv_at hl 0 rfl) ?_
        refine w_get X hW K1 (by omega) f4 0 (by decide) fl_X1_12 rfl dX1_tell_49 ?_
        refine lv_iload_n jx jb dX1_tell_52 rfl (lv_at hl 1 rfl) ?_
        refine top_eq (y := nI j) ej ?_
        refine w_rV (As := [.int (nI j)]) X hW (c_callAt hR hj) (by omega) fn rfl rfl ml_X1_62 mf_X5_callAt ⟨Nat.le_of_ble_eq_true rfl, Nat.le_of_ble_eq_true rfl⟩ hl.1 rfl (Nat.le_of_ble_eq_true rfl) ⟨Nat.le_of_ble_eq_true rfl, Nat.le_of_ble_eq_true rfl⟩ dX1_tell_53 (fun H locs hW => ?_)
        refine top_eq (y := nI (cl j)) (hC0.1) ?_
        refine w_rN (As := [.int (nI (cl j))]) X hW (c_kindOf (by omega)) mn_X1_65 mf_X8_kindOf ⟨Nat.le_of_ble_eq_true rfl, Nat.le_of_ble_eq_true rfl⟩ hl.1 rfl (Nat.le_of_ble_eq_true rfl) ⟨Nat.le_of_ble_eq_true rfl, Nat.le_of_ble_eq_true rfl⟩ dX1_tell_56 (fun H locs hW => ?_)
        exact ret _ _ _ _ _ dX1_tell_59 hW (by unfold tellV; rw [if_pos hte, ej, i_cl (by omega), eS]; rfl)
      · refine lv_tableIn (tgt := 60) (off := 43) jx jb dX1_tell_17 (by rw [eS]; decide) (by rw [eS]; decide) (by rw [eS]; rfl) (by decide) ?_
        refine lv_aload_n jx jb dX1_tell_60 rfl (lv_at hl 0 rfl) ?_
        refine w_get X hW K1 (by omega) f4 0 (by decide) fl_X1_12 rfl dX1_tell_61 ?_
        refine lv_iload_n jx jb dX1_tell_64 rfl (lv_at hl 1 rfl) ?_
        refine top_eq (y := nI j) ej ?_
        refine w_rV (As := [.int (nI j)]) X hW (c_callAt hR hj) (by omega) fn rfl rfl ml_X1_62 mf_X5_callAt ⟨Nat.le_of_ble_eq_true rfl, Nat.le_of_ble_eq_true rfl⟩ hl.1 rfl (Nat.le_of_ble_eq_true rfl) ⟨Nat.le_of_ble_eq_true rfl, Nat.le_of_ble_eq_true rfl⟩ dX1_tell_65 (fun H locs hW => ?_)
        refine top_eq (y := nI (cl j)) (hC0.1) ?_
        refine w_rN (As := [.int (nI (cl j))]) X hW (c_numberOf (by omega)) mn_X1_36 mf_X8_numberOf ⟨Nat.le_of_ble_eq_true rfl, Nat.le_of_ble_eq_true rfl⟩ hl.1 rfl (Nat.le_of_ble_eq_true rfl) ⟨Nat.le_of_ble_eq_true rfl, Nat.le_of_ble_eq_true rfl⟩ dX1_tell_68 (fun H locs hW => ?_)
        exact ret _ _ _ _ _ dX1_tell_71 hW (by unfold tellV; rw [if_pos hte, ej, i_cl (by omega), eS]; rfl)
      · refine lv_tableIn (tgt := 72) (off := 55) jx jb dX1_tell_17 (by rw [eS]; decide) (by rw [eS]; decide) (by rw [eS]; rfl) (by decide) ?_
        refine lv_aload_n jx jb dX1_tell_72 rfl (lv_at hl 0 rfl) ?_
        refine w_get X hW K1 (by omega) f4 0 (by decide) fl_X1_12 rfl dX1_tell_73 ?_
        refine lv_iload_n jx jb dX1_tell_76 rfl (lv_at hl 1 rfl) ?_
        refine top_eq (y := nI j) ej ?_
        refine w_rV (As := [.int (nI j)]) X hW (c_resultAt hR hj) (by omega) fn rfl rfl ml_X1_51 mf_X5_resultAt ⟨Nat.le_of_ble_eq_true rfl, Nat.le_of_ble_eq_true rfl⟩ hl.1 rfl (Nat.le_of_ble_eq_true rfl) ⟨Nat.le_of_ble_eq_true rfl, Nat.le_of_ble_eq_true rfl⟩ dX1_tell_77 (fun H locs hW => ?_)
        exact ret _ _ _ _ _ dX1_tell_80 hW (by unfold tellV; rw [if_pos hte, ej, i_cl (by omega), eS]; rfl)
      · refine lv_tableIn (tgt := 81) (off := 64) jx jb dX1_tell_17 (by rw [eS]; decide) (by rw [eS]; decide) (by rw [eS]; rfl) (by decide) ?_
        refine lv_aload_n jx jb dX1_tell_81 rfl (lv_at hl 0 rfl) ?_
        refine w_get X hW K1 (by omega) f4 1 (by decide) fl_X1_18 rfl dX1_tell_82 ?_
        refine lv_iload_n jx jb dX1_tell_85 rfl (lv_at hl 1 rfl) ?_
        refine w_ild X hW (by omega) f8 j ej (by omega) (by decide) dX1_tell_86 ?_
        exact ret _ _ _ _ _ dX1_tell_87 hW (by unfold tellV; rw [if_pos hte, ej, i_cl (by omega), eS]; rfl)
    · refine lv_tableOut (tgt := 88) jx jb dX1_tell_17 eS (by decide) ?_
      refine lv_iconst (v := -1) jx jb dX1_tell_88 (by decide) ?_
      exact ret _ _ _ _ _ dX1_tell_89 hW (by unfold tellV; rw [if_pos hte, if_neg (show ¬ what = 0 from sw_out (k := 0) (by decide) eS (by decide)), if_neg (show ¬ what = 1 from sw_out (k := 1) (by decide) eS (by decide)), if_neg (show ¬ what = 2 from sw_out (k := 2) (by decide) eS (by decide)), if_neg (show ¬ what = 3 from sw_out (k := 3) (by decide) eS (by decide))])
  · refine lv_iconst (v := -1) jx jb dX1_tell_14 (by decide) ?_
    exact ret _ _ _ _ _ dX1_tell_15 hW (tell_no c11)

set_option maxHeartbeats 4000000 in
set_option maxRecDepth 100000 in
theorem c_settle {l : Launch} {G : va_G} {cy : Nat → ClassId} {N : Nat} {ad : Nat → Nat} {g : Nat → va_E} {n c r sz : Nat} {fc fr : Nat → Int32} {t : Nat} {m0 t0 b0 : Int32} {pf : Nat → Int32} {mt lt : Int32} (hP : RepAt cy N ad g sz pf mt lt) (hR : RowAt cy N ad g n c r sz fc fr) (hd : n ≠ 60 ∧ n ≠ 61 ∧ c ≠ 60 ∧ c ≠ 61 ∧ r ≠ 60 ∧ r ≠ 61) (ht : t < N) (ft_ : g t = .inr (3, [.ref (ad n), .int m0, .int t0, .int b0])) (hd2 : t ≠ n ∧ t ≠ c ∧ t ≠ r ∧ t ≠ 60 ∧ t ≠ 61) : MV l G cy (N, ad, g) yX3_settle cX3_settle 2 none (rmN 3) [.ref (ad t), .ref (ad 60)] (nV N ad (fun g1 => ∃ f1, g1 t = .inr (3, [.ref (ad n), .int mt, .int 0, .int 0]) ∧ RowAt cy N ad g1 n c r sz fc f1 ∧ (∀ i, i < sz → f1 i = pf i) ∧ Fr g g1 [t, n, c, r])) := by
  refine NV.mk (by decide) (Nat.le_of_ble_eq_true rfl) ?_
  intro jp je js jm below meth jc A Q X hW ret ls hl
  have jx := X.hx
  have jb := X.hb
  have hl : lv_has ls 2 [(0, .ref (ad t)), (1, .ref (ad 60))] := hl
  have X : Cx G cy jp js jm _ jc cX3_settle 2 RX3 A js.heap := X
  obtain ⟨h83, hpsz, f60, f61⟩ := id hP
  obtain ⟨hn, hc, hr, q1, q2, q3, hsz, fn, fc_, fr_⟩ := id hR
  refine lv_aload_n jx jb dX3_settle_0 rfl (lv_at hl 0 rfl) ?_
  refine w_get X hW K3 ht ft_ 0 (by decide) fl_X3_10 rfl dX3_settle_1 ?_
  refine lv_aload_n jx jb dX3_settle_4 rfl (lv_at hl 1 rfl) ?_
  refine w_nVv (As := [.ref (ad 60)]) X hW (c_takeResults hP hR hd) hn fn rfl rfl ml_X3_27 mf_X5_takeResults ⟨Nat.le_of_ble_eq_true rfl, Nat.le_of_ble_eq_true rfl⟩ hl.1 rfl (Nat.le_of_ble_eq_true rfl) ⟨Nat.le_of_ble_eq_true rfl, Nat.le_of_ble_eq_true rfl⟩ dX3_settle_5 (fun g1 H locs hp hW => ?_)
  obtain ⟨f1, hR1, hres, pfr⟩ := hp
  obtain ⟨-, -, -, -, -, -, -, p8, p9, p10⟩ := id hR1
  have hf1 : g1 t = .inr (3, [.ref (ad n), .int m0, .int t0, .int b0]) := (pfr t (by simp only [List.mem_cons, List.not_mem_nil, or_false, not_or] <;> omega)).trans ft_
  have hf2 : g1 60 = .inr (4, [.ref (ad 1), .ref (ad 61), .int (nI sz), .int mt, .int lt]) := (pfr 60 (by simp only [List.mem_cons, List.not_mem_nil, or_false, not_or] <;> omega)).trans f60
  have hf3 : g1 61 = .inl (cy 0, 200, .inl pf) := (pfr 61 (by simp only [List.mem_cons, List.not_mem_nil, or_false, not_or] <;> omega)).trans f61
  refine lv_aload_n jx jb dX3_settle_8 rfl (lv_at hl 0 rfl) ?_
  refine lv_aload_n jx jb dX3_settle_9 rfl (lv_at hl 1 rfl) ?_
  refine w_rV (As := []) X hW (c_met ⟨h83, hpsz, hf2, hf3⟩) (by omega) hf2 rfl rfl ml_X3_31 mf_X4_met ⟨Nat.le_of_ble_eq_true rfl, Nat.le_of_ble_eq_true rfl⟩ hl.1 rfl (Nat.le_of_ble_eq_true rfl) ⟨Nat.le_of_ble_eq_true rfl, Nat.le_of_ble_eq_true rfl⟩ dX3_settle_10 (fun H locs hW => ?_)
  refine w_put X hW K3 ht hf1 1 (by decide) fl_X3_16 rfl rfl rfl (Nat.le_of_ble_eq_true rfl) dX3_settle_13 (fun H locs hW => ?_)
  obtain ⟨g_4, eg_4⟩ : ∃ zz, zz = va_up g1 t (.inr (3, [.ref (ad n), .int mt, .int t0, .int b0])) := ⟨_, rfl⟩
  have hW : Wd G A js.heap (N, ad, g_4) H locs := by rw [eg_4]; exact hW
  have hf5 : g_4 t = .inr (3, [.ref (ad n), .int mt, .int t0, .int b0]) := by rw [eg_4]; exact va_up_s
  have hf6 : g_4 60 = .inr (4, [.ref (ad 1), .ref (ad 61), .int (nI sz), .int mt, .int lt]) := by rw [eg_4]; exact (va_up_n (by omega)).trans hf2
  have hf7 : g_4 61 = .inl (cy 0, 200, .inl pf) := by rw [eg_4]; exact (va_up_n (by omega)).trans hf3
  have hf8 : g_4 n = .inr (5, [.ref (ad c), .ref (ad r), .int (nI sz)]) := by rw [eg_4]; exact (va_up_n (by omega)).trans p8
  have hf9 : g_4 c = .inl (cy 0, 200, .inl fc) := by rw [eg_4]; exact (va_up_n (by omega)).trans p9
  have hf10 : g_4 r = .inl (cy 0, 200, .inl f1) := by rw [eg_4]; exact (va_up_n (by omega)).trans p10
  refine lv_aload_n jx jb dX3_settle_16 rfl (lv_at hl 0 rfl) ?_
  refine lv_iconst (v := 0) jx jb dX3_settle_17 (by decide) ?_
  refine w_put X hW K3 ht hf5 2 (by decide) fl_X3_20 rfl rfl rfl (Nat.le_of_ble_eq_true rfl) dX3_settle_18 (fun H locs hW => ?_)
  obtain ⟨g_11, eg_11⟩ : ∃ zz, zz = va_up g_4 t (.inr (3, [.ref (ad n), .int mt, .int 0, .int b0])) := ⟨_, rfl⟩
  have hW : Wd G A js.heap (N, ad, g_11) H locs := by rw [eg_11]; exact hW
  have hf12 : g_11 t = .inr (3, [.ref (ad n), .int mt, .int 0, .int b0]) := by rw [eg_11]; exact va_up_s
  have hf13 : g_11 60 = .inr (4, [.ref (ad 1), .ref (ad 61), .int (nI sz), .int mt, .int lt]) := by rw [eg_11]; exact (va_up_n (by omega)).trans hf6
  have hf14 : g_11 61 = .inl (cy 0, 200, .inl pf) := by rw [eg_11]; exact (va_up_n (by omega)).trans hf7
  have hf15 : g_11 n = .inr (5, [.ref (ad c), .ref (ad r), .int (nI sz)]) := by rw [eg_11]; exact (va_up_n (by omega)).trans hf8
  have hf16 : g_11 c = .inl (cy 0, 200, .inl fc) := by rw [eg_11]; exact (va_up_n (by omega)).trans hf9
  have hf17 : g_11 r = .inl (cy 0, 200, .inl f1) := by rw [eg_11]; exact (va_up_n (by omega)).trans hf10
  refine lv_aload_n jx jb dX3_settle_21 rfl (lv_at hl 0 rfl) ?_
  refine lv_iconst (v := 0) jx jb dX3_settle_22 (by decide) ?_
  refine w_put X hW K3 ht hf12 3 (by decide) fl_X3_24 rfl rfl rfl (Nat.le_of_ble_eq_true rfl) dX3_settle_23 (fun H locs hW => ?_)
  obtain ⟨g_18, eg_18⟩ : ∃ zz, zz = va_up g_11 t (.inr (3, [.ref (ad n), .int mt, .int 0, .int 0])) := ⟨_, rfl⟩
  have hW : Wd G A js.heap (N, ad, g_18) H locs := by rw [eg_18]; exact hW
  have hf19 : g_18 t = .inr (3, [.ref (ad n), .int mt, .int 0, .int 0]) := by rw [eg_18]; exact va_up_s
  have hf20 : g_18 60 = .inr (4, [.ref (ad 1), .ref (ad 61), .int (nI sz), .int mt, .int lt]) := by rw [eg_18]; exact (va_up_n (by omega)).trans hf13
  have hf21 : g_18 61 = .inl (cy 0, 200, .inl pf) := by rw [eg_18]; exact (va_up_n (by omega)).trans hf14
  have hf22 : g_18 n = .inr (5, [.ref (ad c), .ref (ad r), .int (nI sz)]) := by rw [eg_18]; exact (va_up_n (by omega)).trans hf15
  have hf23 : g_18 c = .inl (cy 0, 200, .inl fc) := by rw [eg_18]; exact (va_up_n (by omega)).trans hf16
  have hf24 : g_18 r = .inl (cy 0, 200, .inl f1) := by rw [eg_18]; exact (va_up_n (by omega)).trans hf17
  exact ret _ _ _ _ _ dX3_settle_26 hW ⟨f1, hf19, ⟨hn, hc, hr, q1, q2, q3, hsz, hf22, hf23, hf24⟩, hres, (fun k hk => by show g_18 k = _; simp only [List.mem_cons, List.not_mem_nil, or_false, not_or] at hk; rw [eg_18, va_up_n (by omega), eg_11, va_up_n (by omega), eg_4, va_up_n (by omega), pfr k (by simp only [List.mem_cons, List.not_mem_nil, or_false, not_or] <;> omega)])⟩
end
section
def gl (row : List Nat) : Nat → Nat := fun k => row.getD k 0
theorem gl_drop (row : List Nat) (n : Nat) : gl (row.drop n) = fun i => gl row (n + i) := by
  funext i
  simp [gl, List.getD, List.getElem?_drop]
theorem gl_app_l {a b : List Nat} {i : Nat} (h : i < a.length) : gl (a ++ b) i = gl a i := by
  simp [gl, List.getD, List.getElem?_append_left h]
theorem gl_app_r {a b : List Nat} {i : Nat} : gl (a ++ b) (a.length + i) = gl b i := by
  unfold gl
  rw [List.getD_eq_getElem?_getD, List.getD_eq_getElem?_getD, List.getElem?_append_right (by omega), Nat.add_sub_cancel_left]
theorem gl_mem {row : List Nat} {i : Nat} (h : i < row.length) : gl row i ∈ row := by
  simp [gl, List.getD, h]
theorem drop_gl {row : List Nat} {k : Nat} (h : k < row.length) : row.drop k = gl row k :: row.drop (k + 1) := by
  rw [List.drop_eq_getElem_cons h]
  simp [gl, List.getD, h]
/-- whether a rest of calls, run from a state, ends as is wanted -/
def alk (M : M4) (wT wR : Int32) (s0 : Nat) (rest : List Nat) : Bool := decide (tI (tkq M (gl rest) s0 (rest.length - 1)) = wT ∧ rsq M (gl rest) s0 (rest.length - 1) = wR)
/-- one pass: from a state, each call but the last is left out if the rest ends as is wanted -/
def pasL (M : M4) (wT wR : Int32) : Nat → List Nat → List Nat
  | _, [] => []
  | s, x :: r => if r = [] then [x] else if alk M wT wR s r = true then pasL M wT wR s r else x :: pasL M wT wR (stp M x s) r
def shrL (M : M4) (wT wR : Int32) : Nat → List Nat → List Nat
  | 0, row => row
  | f + 1, row => if (pasL M wT wR 0 row).length < row.length then shrL M wT wR f (pasL M wT wR 0 row) else pasL M wT wR 0 row
theorem pasL_len {M : M4} {wT wR : Int32} : ∀ {l : List Nat} {s : Nat}, (pasL M wT wR s l).length ≤ l.length
  | [], s => Nat.le_refl _
  | x :: r, s => by
    unfold pasL
    split
    · simp
    · split
      · have := pasL_len (M := M) (wT := wT) (wR := wR) (l := r) (s := s)
        simp; omega
      · have := pasL_len (M := M) (wT := wT) (wR := wR) (l := r) (s := stp M x s)
        simp; omega
theorem pasL_pos {M : M4} {wT wR : Int32} : ∀ {l : List Nat} {s : Nat}, 1 ≤ l.length → 1 ≤ (pasL M wT wR s l).length
  | [], s, h => h
  | x :: r, s, h => by
    unfold pasL
    split
    · simp
    · rename_i hr
      split
      · exact pasL_pos (by cases r with | nil => exact absurd rfl hr | cons _ _ => simp)
      · simp
theorem pasL_mem {M : M4} {wT wR : Int32} : ∀ {l : List Nat} {s y : Nat}, y ∈ pasL M wT wR s l → y ∈ l
  | [], s, y, h => h
  | x :: r, s, y, h => by
    unfold pasL at h
    split at h
    · simp at h; simp [h]
    · split at h
      · exact List.mem_cons_of_mem _ (pasL_mem h)
      · rcases List.mem_cons.mp h with h | h
        · simp [h]
        · exact List.mem_cons_of_mem _ (pasL_mem h)
theorem shrL_pos {M : M4} {wT wR : Int32} : ∀ {f : Nat} {l : List Nat}, 1 ≤ l.length → 1 ≤ (shrL M wT wR f l).length
  | 0, l, h => h
  | f + 1, l, h => by
    unfold shrL
    split
    · exact shrL_pos (pasL_pos h)
    · exact pasL_pos h
theorem shrL_mem {M : M4} {wT wR : Int32} : ∀ {f : Nat} {l : List Nat} {y : Nat}, y ∈ shrL M wT wR f l → y ∈ l
  | 0, l, y, h => h
  | f + 1, l, y, h => by
    unfold shrL at h
    split at h
    · exact pasL_mem (shrL_mem h)
    · exact pasL_mem h
def lts (M : M4) (c : Nat → Nat) (s0 : Nat) : Nat → Int32
  | 0 => -1
  | k + 1 => tI (tkq M c s0 k)

set_option maxHeartbeats 4000000 in
set_option maxRecDepth 100000 in
theorem c_endsAlike {l : Launch} {G : va_G} {cy : Nat → ClassId} {N : Nat} {ad : Nat → Nat} {g : Nat → va_E} {n c r sz : Nat} {fc fr : Nat → Int32} {M : M4} {cl : Nat → Nat} {wT wR : Int32} {fm s0 : Nat} (hM : MachAt cy N ad g M) (f62 : g 62 = .inr (6, [.ref (ad 1), .int wT, .int wR])) (hR : RowAt cy N ad g n c r sz fc fr) (hC : ∀ k, fm ≤ k → k < sz → fc k = nI (cl k) ∧ cl k < 96) (hfm : fm < sz) (hs0 : s0 < 65536) : RI l G cy (N, ad, g) yX6_endsAlike cX6_endsAlike 8 (some .boolean) (rmN 3) [.ref (ad 62), .ref (ad n), .int (nI fm), .int (nI s0)] (bI (tI (tkq M (fun i => cl (fm + i)) s0 (sz - fm - 1)) = wT ∧ rsq M (fun i => cl (fm + i)) s0 (sz - fm - 1) = wR)) := by
  refine RI.mk (by decide) (by first | rfl | exact bI_nar) (Nat.le_of_ble_eq_true rfl) ?_
  intro jp je js jm below meth jc A Q X hW ret ls hl
  have jx := X.hx
  have jb := X.hb
  have hl : lv_has ls 8 [(0, .ref (ad 62)), (1, .ref (ad n)), (2, .int (nI fm)), (3, .int (nI s0))] := hl
  have X : Cx G cy jp js jm _ jc cX6_endsAlike 8 RX6 A js.heap := X
  have hok := hM.1
  obtain ⟨-, h83, bc_, fs_, f1, -⟩ := id hM
  obtain ⟨hn, hc, hr, q1, q2, q3, hsz, fn, fc_, fr_⟩ := id hR
  refine lv_iload_n jx jb dX6_endsAlike_0 rfl (lv_at hl 3 rfl) ?_
  refine lv_istore (lv' := [(4, .int (nI s0)), (0, .ref (ad 62)), (1, .ref (ad n)), (2, .int (nI fm)), (3, .int (nI s0))]) jx jb dX6_endsAlike_1 hl (by decide) rfl (fun ls hl => ?_)
  refine lv_iconst (v := -1) jx jb dX6_endsAlike_3 (by decide) ?_
  refine lv_istore (lv' := [(5, .int (-1)), (4, .int (nI s0)), (0, .ref (ad 62)), (1, .ref (ad n)), (2, .int (nI fm)), (3, .int (nI s0))]) jx jb dX6_endsAlike_4 hl (by decide) rfl (fun ls hl => ?_)
  refine lv_iload_n jx jb dX6_endsAlike_6 rfl (lv_at hl 4 rfl) ?_
  refine lv_istore (lv' := [(6, .int (nI fm)), (5, .int (-1)), (4, .int (nI s0)), (0, .ref (ad 62)), (1, .ref (ad n)), (2, .int (nI fm)), (3, .int (nI s0))]) jx jb dX6_endsAlike_7 hl (by decide) rfl (fun ls hl => ?_)
  have loop9 : ∀ (fuel9 : Nat) (j : Nat) (H : Heap) (locs : List Loc) (ls : Array Slot), (j ≤ sz - fm) → sz - fm - j < fuel9 → Wd G A js.heap (N, ad, g) H locs → lv_has ls 8 [(0, .ref (ad 62)), (1, .ref (ad n)), (4, .int (nI (stq M (fun i => cl (fm + i)) s0 j))), (5, .int (lts M (fun i => cl (fm + i)) s0 j)), (6, .int (nI (fm + j)))] → W jp l je (rmN 3) js jm [.ref (ad 62), .ref (ad n), .int (nI fm), .int (nI s0)].toArray below meth jc H locs 0 0 Q (F0 jm 9 ls []) := by
    intro fuel9
    induction fuel9 with
    | zero => intro j H locs ls hj  hm9; exact absurd hm9 (Nat.not_lt_zero _)
    | succ fuel9 ih9 =>
      intro j H locs ls hj  hm9 hW hl
      refine lv_iload jx jb dX6_endsAlike_9 (lv_at hl 4 rfl) ?_
      refine lv_aload_n jx jb dX6_endsAlike_11 rfl (lv_at hl 1 rfl) ?_
      refine w_rV (As := []) X hW (c_rSize hR) hn fn rfl rfl ml_X6_26 mf_X5_size ⟨Nat.le_of_ble_eq_true rfl, Nat.le_of_ble_eq_true rfl⟩ hl.1 rfl (Nat.le_of_ble_eq_true rfl) ⟨Nat.le_of_ble_eq_true rfl, Nat.le_of_ble_eq_true rfl⟩ dX6_endsAlike_12 (fun H locs hW => ?_)
      refine lv_icmp_ge (tgt := 63) jx jb dX6_endsAlike_15 (by decide) (fun c15 => ?_) (fun c15 => ?_)
      · have hge := n_le (by omega) (by omega) c15
        obtain ⟨j1, rfl⟩ : ∃ j1, j = j1 + 1 := ⟨j - 1, by omega⟩
        have hj1 : sz - fm - 1 = j1 := by omega
        have h96 := (hC (fm + j1) (by omega) (by omega)).2
        have hst1 : stq M (fun i => cl (fm + i)) s0 (j1 + 1) < 65536 := stq_lt hok hs0 (fun i hi => (hC (fm + i) (by omega) (by omega)).2)
        rw [hj1] at ret
        refine lv_iload jx jb dX6_endsAlike_63 (lv_at hl 3 rfl) ?_
        refine lv_aload_n jx jb dX6_endsAlike_65 rfl (lv_at hl 0 rfl) ?_
        refine w_get X hW K6 (by omega) f62 1 (by decide) fl_X6_9 rfl dX6_endsAlike_66 ?_
        refine lv_icmp_ne (tgt := 94) jx jb dX6_endsAlike_69 (by decide) (fun c69 => ?_) (fun c69 => ?_)
        · refine lv_iconst (v := 0) jx jb dX6_endsAlike_94 (by decide) ?_
          exact ret _ _ _ _ _ dX6_endsAlike_95 hW (bI_f (fun q => c69 q.1)).symm
        · refine lv_aload_n jx jb dX6_endsAlike_72 rfl (lv_at hl 0 rfl) ?_
          refine w_get X hW K6 (by omega) f62 0 (by decide) fl_X6_18 rfl dX6_endsAlike_73 ?_
          refine lv_iload jx jb dX6_endsAlike_76 (lv_at hl 3 rfl) ?_
          refine lv_iload jx jb dX6_endsAlike_78 (lv_at hl 2 rfl) ?_
          refine w_rV (As := [.int (lts M (fun i => cl (fm + i)) s0 (j1 + 1)), .int (nI (stq M (fun i => cl (fm + i)) s0 (j1 + 1)))]) X hW (c_resultOf (k := cl (fm + j1) / 16) (st := stq M (fun i => cl (fm + i)) s0 j1) hM (by omega) hst1) (by omega) f1 rfl rfl ml_X6_61 mf_X2_resultOf ⟨Nat.le_of_ble_eq_true rfl, Nat.le_of_ble_eq_true rfl⟩ hl.1 rfl (Nat.le_of_ble_eq_true rfl) ⟨Nat.le_of_ble_eq_true rfl, Nat.le_of_ble_eq_true rfl⟩ dX6_endsAlike_80 (fun H locs hW => ?_)
          refine top_eq (y := rsq M (fun i => cl (fm + i)) s0 j1) (rfl) ?_
          refine lv_aload_n jx jb dX6_endsAlike_83 rfl (lv_at hl 0 rfl) ?_
          refine w_get X hW K6 (by omega) f62 2 (by decide) fl_X6_15 rfl dX6_endsAlike_84 ?_
          refine lv_icmp_ne (tgt := 94) jx jb dX6_endsAlike_87 (by decide) (fun c87 => ?_) (fun c87 => ?_)
          · refine lv_iconst (v := 0) jx jb dX6_endsAlike_94 (by decide) ?_
            exact ret _ _ _ _ _ dX6_endsAlike_95 hW (bI_f (fun q => c87 q.2)).symm
          · refine lv_iconst (v := 1) jx jb dX6_endsAlike_90 (by decide) ?_
            refine lv_goto (tgt := 95) jx jb dX6_endsAlike_91 (by decide) ?_
            exact ret _ _ _ _ _ dX6_endsAlike_95 hW (bI_t ⟨c69, c87⟩).symm
      · have hlt : fm + j < sz := n_nle (by omega) (by omega) c15
        have h96 := (hC (fm + j) (by omega) hlt).2
        have hstj : stq M (fun i => cl (fm + i)) s0 j < 65536 := stq_lt hok hs0 (fun i hi => (hC (fm + i) (by omega) (by omega)).2)
        refine lv_aload_n jx jb dX6_endsAlike_18 rfl (lv_at hl 1 rfl) ?_
        refine lv_iload jx jb dX6_endsAlike_19 (lv_at hl 4 rfl) ?_
        refine w_rV (As := [.int (nI (fm + j))]) X hW (c_callAt hR hlt) hn fn rfl rfl ml_X6_36 mf_X5_callAt ⟨Nat.le_of_ble_eq_true rfl, Nat.le_of_ble_eq_true rfl⟩ hl.1 rfl (Nat.le_of_ble_eq_true rfl) ⟨Nat.le_of_ble_eq_true rfl, Nat.le_of_ble_eq_true rfl⟩ dX6_endsAlike_21 (fun H locs hW => ?_)
        refine top_eq (y := nI (cl (fm + j))) ((hC (fm + j) (by omega) hlt).1) ?_
        refine lv_istore (lv' := [(7, .int (nI (cl (fm + j)))), (0, .ref (ad 62)), (1, .ref (ad n)), (4, .int (nI (stq M (fun i => cl (fm + i)) s0 j))), (5, .int (lts M (fun i => cl (fm + i)) s0 j)), (6, .int (nI (fm + j)))]) jx jb dX6_endsAlike_24 hl (by decide) rfl (fun ls hl => ?_)
        refine lv_aload_n jx jb dX6_endsAlike_26 rfl (lv_at hl 1 rfl) ?_
        refine w_get X hW K6 (by omega) f62 0 (by decide) fl_X6_18 rfl dX6_endsAlike_27 ?_
        refine lv_iload jx jb dX6_endsAlike_30 (lv_at hl 0 rfl) ?_
        refine lv_iload jx jb dX6_endsAlike_32 (lv_at hl 3 rfl) ?_
        refine w_rV (As := [.int (nI (cl (fm + j))), .int (nI (stq M (fun i => cl (fm + i)) s0 j))]) X hW (c_takenBy hM h96 hstj) (by omega) f1 rfl rfl ml_X6_40 mf_X2_takenBy ⟨Nat.le_of_ble_eq_true rfl, Nat.le_of_ble_eq_true rfl⟩ hl.1 rfl (Nat.le_of_ble_eq_true rfl) ⟨Nat.le_of_ble_eq_true rfl, Nat.le_of_ble_eq_true rfl⟩ dX6_endsAlike_34 (fun H locs hW => ?_)
        refine top_eq (y := lts M (fun i => cl (fm + i)) s0 (j + 1)) (rfl) ?_
        refine lv_istore (lv' := [(5, .int (lts M (fun i => cl (fm + i)) s0 (j + 1))), (7, .int (nI (cl (fm + j)))), (0, .ref (ad 62)), (1, .ref (ad n)), (4, .int (nI (stq M (fun i => cl (fm + i)) s0 j))), (6, .int (nI (fm + j)))]) jx jb dX6_endsAlike_37 hl (by decide) rfl (fun ls hl => ?_)
        refine lv_aload_n jx jb dX6_endsAlike_39 rfl (lv_at hl 2 rfl) ?_
        refine w_get X hW K6 (by omega) f62 0 (by decide) fl_X6_18 rfl dX6_endsAlike_40 ?_
        refine lv_iload jx jb dX6_endsAlike_43 (lv_at hl 0 rfl) ?_
        refine lv_iload jx jb dX6_endsAlike_45 (lv_at hl 4 rfl) ?_
        refine lv_iload jx jb dX6_endsAlike_47 (lv_at hl 1 rfl) ?_
        refine w_rN (As := [.int (nI (cl (fm + j)))]) X hW (c_numberOf (by omega)) mn_X6_46 mf_X8_numberOf ⟨Nat.le_of_ble_eq_true rfl, Nat.le_of_ble_eq_true rfl⟩ hl.1 rfl (Nat.le_of_ble_eq_true rfl) ⟨Nat.le_of_ble_eq_true rfl, Nat.le_of_ble_eq_true rfl⟩ dX6_endsAlike_49 (fun H locs hW => ?_)
        refine w_rV (As := [.int (lts M (fun i => cl (fm + i)) s0 (j + 1)), .int (nI (stq M (fun i => cl (fm + i)) s0 j)), .int (nI (cl (fm + j) % 16))]) X hW (c_mStateBehind (k := cl (fm + j) / 16) (st := stq M (fun i => cl (fm + i)) s0 j) hM (by omega) hstj (Nat.mod_lt _ (by decide))) (by omega) f1 rfl rfl ml_X6_49 mf_X2_stateBehind ⟨Nat.le_of_ble_eq_true rfl, Nat.le_of_ble_eq_true rfl⟩ hl.1 rfl (Nat.le_of_ble_eq_true rfl) ⟨Nat.le_of_ble_eq_true rfl, Nat.le_of_ble_eq_true rfl⟩ dX6_endsAlike_52 (fun H locs hW => ?_)
        refine top_eq (y := nI (stq M (fun i => cl (fm + i)) s0 (j + 1))) (rfl) ?_
        refine lv_istore (lv' := [(4, .int (nI (stq M (fun i => cl (fm + i)) s0 (j + 1)))), (5, .int (lts M (fun i => cl (fm + i)) s0 (j + 1))), (7, .int (nI (cl (fm + j)))), (0, .ref (ad 62)), (1, .ref (ad n)), (6, .int (nI (fm + j)))]) jx jb dX6_endsAlike_55 hl (by decide) rfl (fun ls hl => ?_)
        refine lv_iinc (v := nI ((fm + j) + 1)) (lv' := [(6, .int (nI ((fm + j) + 1))), (4, .int (nI (stq M (fun i => cl (fm + i)) s0 (j + 1)))), (5, .int (lts M (fun i => cl (fm + i)) s0 (j + 1))), (7, .int (nI (cl (fm + j)))), (0, .ref (ad 62)), (1, .ref (ad n))]) jx jb dX6_endsAlike_57 hl (k := 5) rfl (show nI (fm + j) + 1 = nI ((fm + j) + 1) from nI_1 _) (by decide) rfl (fun ls hl => ?_)
        refine lv_goto (tgt := 9) jx jb dX6_endsAlike_60 (by decide) ?_
        exact ih9 (j + 1)  _ _ _ (by omega)  (by omega) hW (lv_sub hl [4, 5, 1, 2, 0] rfl)
  exact loop9 _ 0  _ _ _ (by omega)  (Nat.lt_succ_self _) hW (lv_sub hl [3, 4, 2, 1, 0] rfl)

set_option maxHeartbeats 4000000 in
set_option maxRecDepth 100000 in
theorem c_leaveOut {l : Launch} {G : va_G} {cy : Nat → ClassId} {N : Nat} {ad : Nat → Nat} {g : Nat → va_E} {n c r : Nat} {fc fr : Nat → Int32} {M : M4} {row : List Nat} {wT wR : Int32} (hM : MachAt cy N ad g M) (f62 : g 62 = .inr (6, [.ref (ad 1), .int wT, .int wR])) (hR : RowAt cy N ad g n c r row.length fc fr) (h1 : 1 ≤ row.length) (hC : ∀ i, i < row.length → fc i = nI (gl row i) ∧ gl row i < 96) (hd : n ≠ 62 ∧ c ≠ 62 ∧ r ≠ 62 ∧ n ≠ 1 ∧ c ≠ 1 ∧ r ≠ 1 ∧ n ≠ 2 ∧ c ≠ 2 ∧ r ≠ 2 ∧ n ≠ 3 ∧ c ≠ 3 ∧ r ≠ 3 ∧ n < 83 ∧ c < 83 ∧ r < 83) : MI l G cy (N, ad, g) yX6_leaveOut cX6_leaveOut 7 (some .boolean) (rmN 4) [.ref (ad 62), .ref (ad n)] (nA N ad (fun v g1 => ∃ fk, v = bI ((pasL M wT wR 0 row).length < row.length) ∧ RowAt cy N ad g1 n c r (pasL M wT wR 0 row).length fk fr ∧ (∀ i, i < (pasL M wT wR 0 row).length → fk i = nI (gl (pasL M wT wR 0 row) i)) ∧ Fr g g1 [n, c, r])) := by
  refine NI.mk (by decide) (by intro v g1 h; obtain ⟨_, h, -⟩ := h; rw [h]; exact bI_nar) (Nat.le_of_ble_eq_true rfl) ?_
  intro jp je js jm below meth jc A Q X hW ret ls hl
  have jx := X.hx
  have jb := X.hb
  have hl : lv_has ls 7 [(0, .ref (ad 62)), (1, .ref (ad n))] := hl
  have X : Cx G cy jp js jm _ jc cX6_leaveOut 7 RX6 A js.heap := X
  have hok := hM.1
  obtain ⟨-, h83, bc_, fs_, f1, -⟩ := id hM
  obtain ⟨hn, hc, hr, q1, q2, q3, hsz, fn, fc_, fr_⟩ := id hR
  refine lv_aload_n jx jb dX6_leaveOut_0 rfl (lv_at hl 1 rfl) ?_
  refine w_rV (As := []) X hW (c_rSize hR) hn fn rfl rfl ml_X6_26 mf_X5_size ⟨Nat.le_of_ble_eq_true rfl, Nat.le_of_ble_eq_true rfl⟩ hl.1 rfl (Nat.le_of_ble_eq_true rfl) ⟨Nat.le_of_ble_eq_true rfl, Nat.le_of_ble_eq_true rfl⟩ dX6_leaveOut_1 (fun H locs hW => ?_)
  refine lv_iconst (v := 1) jx jb dX6_leaveOut_4 (by decide) ?_
  refine lv_isub jx jb dX6_leaveOut_5 ?_
  refine top_eq (y := nI (row.length - 1)) (pk_sub (b := 1) h1) ?_
  refine lv_istore_n (lv' := [(2, .int (nI (row.length - 1))), (0, .ref (ad 62)), (1, .ref (ad n))]) jx jb dX6_leaveOut_6 rfl hl (by decide) rfl (fun ls hl => ?_)
  refine lv_iconst (v := 0) jx jb dX6_leaveOut_7 (by decide) ?_
  refine lv_istore_n (lv' := [(3, .int 0), (2, .int (nI (row.length - 1))), (0, .ref (ad 62)), (1, .ref (ad n))]) jx jb dX6_leaveOut_8 rfl hl (by decide) rfl (fun ls hl => ?_)
  refine lv_iconst (v := 0) jx jb dX6_leaveOut_9 (by decide) ?_
  refine lv_istore (lv' := [(4, .int 0), (3, .int 0), (2, .int (nI (row.length - 1))), (0, .ref (ad 62)), (1, .ref (ad n))]) jx jb dX6_leaveOut_10 hl (by decide) rfl (fun ls hl => ?_)
  refine lv_iconst (v := 0) jx jb dX6_leaveOut_12 (by decide) ?_
  refine lv_istore (lv' := [(5, .int 0), (4, .int 0), (3, .int 0), (2, .int (nI (row.length - 1))), (0, .ref (ad 62)), (1, .ref (ad n))]) jx jb dX6_leaveOut_13 hl (by decide) rfl (fun ls hl => ?_)
  have loop15 : ∀ (fuel15 : Nat) (k : Nat) (st : Nat) (fk : Nat → Int32) (pre : List Nat) (gL15 : Nat → va_E) (H : Heap) (locs : List Loc) (ls : Array Slot), (k ≤ row.length - 1) → (pre.length ≤ k) → (∀ i, i < pre.length → fk i = nI (gl pre i)) → (∀ i, k ≤ i → i < row.length → fk i = nI (gl row i)) → (st < 65536) → (pre ++ pasL M wT wR st (row.drop k) = pasL M wT wR 0 row) → gL15 n = .inr (5, [.ref (ad c), .ref (ad r), .int (nI row.length)]) → gL15 c = .inl (cy 0, 200, .inl fk) → gL15 r = .inl (cy 0, 200, .inl fr) → gL15 62 = .inr (6, [.ref (ad 1), .int wT, .int wR]) → gL15 1 = .inr (2, [.ref (ad 2), .ref (ad 3)]) → Fr g gL15 [n, c, r] → row.length - k < fuel15 → Wd G A js.heap (N, ad, gL15) H locs → lv_has ls 7 [(0, .ref (ad 62)), (1, .ref (ad n)), (2, .int (nI (row.length - 1))), (3, .int (nI pre.length)), (4, .int (nI st)), (5, .int (nI k))] → W jp l je (rmN 4) js jm [.ref (ad 62), .ref (ad n)].toArray below meth jc H locs 0 0 Q (F0 jm 15 ls []) := by
    intro fuel15
    induction fuel15 with
    | zero => intro k st fk pre gL15 H locs ls hk hq hpre hrest hst hpas fL15_0 fL15_1 fL15_2 fL15_3 fL15_4 hfr15 hm15; exact absurd hm15 (Nat.not_lt_zero _)
    | succ fuel15 ih15 =>
      intro k st fk pre gL15 H locs ls hk hq hpre hrest hst hpas fL15_0 fL15_1 fL15_2 fL15_3 fL15_4 hfr15 hm15 hW hl
      refine lv_iload jx jb dX6_leaveOut_15 (lv_at hl 5 rfl) ?_
      refine lv_iload_n jx jb dX6_leaveOut_17 rfl (lv_at hl 2 rfl) ?_
      refine lv_icmp_ge (tgt := 86) jx jb dX6_leaveOut_18 (by decide) (fun c18 => ?_) (fun c18 => ?_)
      · have hge := n_le (by omega) (by omega) c18
        have hke : k = row.length - 1 := by omega
        have hkl : k < row.length := by omega
        have hdk : row.drop k = [gl row k] := by rw [drop_gl hkl, List.drop_eq_nil_of_le (by omega)]
        have hfin : pasL M wT wR 0 row = pre ++ [gl row k] := by rw [← hpas, hdk]; rfl
        refine lv_aload_n jx jb dX6_leaveOut_86 rfl (lv_at hl 1 rfl) ?_
        refine lv_iload_n jx jb dX6_leaveOut_87 rfl (lv_at hl 2 rfl) ?_
        refine lv_iload_n jx jb dX6_leaveOut_88 rfl (lv_at hl 3 rfl) ?_
        refine w_nVv (As := [.int (nI (row.length - 1)), .int (nI pre.length)]) X hW (c_move ⟨hn, hc, hr, q1, q2, q3, hsz, fL15_0, fL15_1, fL15_2⟩ (by omega) (by omega)) hn fL15_0 rfl rfl ml_X6_53 mf_X5_move ⟨Nat.le_of_ble_eq_true rfl, Nat.le_of_ble_eq_true rfl⟩ hl.1 rfl (Nat.le_of_ble_eq_true rfl) ⟨Nat.le_of_ble_eq_true rfl, Nat.le_of_ble_eq_true rfl⟩ dX6_leaveOut_89 (fun g1 H locs hp hW => ?_)
        obtain ⟨hRhv1, hv1⟩ := hp
        obtain ⟨-, -, -, -, -, -, -, p8, p9, p10⟩ := id hRhv1
        have hf3 : g1 62 = .inr (6, [.ref (ad 1), .int wT, .int wR]) := (hv1 62 (by simp only [List.mem_cons, List.not_mem_nil, or_false, not_or] <;> omega)).trans fL15_3
        have hf4 : g1 1 = .inr (2, [.ref (ad 2), .ref (ad 3)]) := (hv1 1 (by simp only [List.mem_cons, List.not_mem_nil, or_false, not_or] <;> omega)).trans fL15_4
        refine lv_aload_n jx jb dX6_leaveOut_92 rfl (lv_at hl 1 rfl) ?_
        refine lv_iload_n jx jb dX6_leaveOut_93 rfl (lv_at hl 3 rfl) ?_
        refine lv_iconst (v := 1) jx jb dX6_leaveOut_94 (by decide) ?_
        refine lv_iadd jx jb dX6_leaveOut_95 ?_
        refine top_eq (y := nI (pre.length + 1)) (nI_1 _) ?_
        refine w_nVv (As := [.int (nI (pre.length + 1))]) X hW (c_cutTo ⟨hn, hc, hr, q1, q2, q3, hsz, p8, p9, p10⟩ (by omega)) hn p8 rfl rfl ml_X6_57 mf_X5_cutTo ⟨Nat.le_of_ble_eq_true rfl, Nat.le_of_ble_eq_true rfl⟩ hl.1 rfl (Nat.le_of_ble_eq_true rfl) ⟨Nat.le_of_ble_eq_true rfl, Nat.le_of_ble_eq_true rfl⟩ dX6_leaveOut_96 (fun g2 H locs hp hW => ?_)
        obtain ⟨hR2, hv2⟩ := hp
        obtain ⟨-, -, -, -, -, -, -, p8, p9, p10⟩ := id hR2
        have hf5 : g2 62 = .inr (6, [.ref (ad 1), .int wT, .int wR]) := (hv2 62 (by simp only [List.mem_cons, List.not_mem_nil, or_false, not_or] <;> omega)).trans hf3
        have hf6 : g2 1 = .inr (2, [.ref (ad 2), .ref (ad 3)]) := (hv2 1 (by simp only [List.mem_cons, List.not_mem_nil, or_false, not_or] <;> omega)).trans hf4
        refine lv_iload_n jx jb dX6_leaveOut_99 rfl (lv_at hl 3 rfl) ?_
        refine lv_iload_n jx jb dX6_leaveOut_100 rfl (lv_at hl 2 rfl) ?_
        refine lv_icmp_ge (tgt := 108) jx jb dX6_leaveOut_101 (by decide) (fun c101 => ?_) (fun c101 => ?_)
        · refine lv_iconst (v := 0) jx jb dX6_leaveOut_108 (by decide) ?_
          exact ret _ _ _ _ _ _ dX6_leaveOut_109 hW ⟨_, (bI_f (by rw [hfin]; simp; have := n_le (by omega) (by omega) c101; omega)).symm, (by rw [hfin, show (pre ++ [gl row k]).length = pre.length + 1 by simp]; exact hR2), (fun i hi => by rw [hfin] at hi ⊢; simp at hi; by_cases e : i = pre.length; (rw [e, pk_us, hrest (row.length - 1) (by omega) (by omega), ← hke, show gl (pre ++ [gl row k]) pre.length = gl row k from gl_app_r (i := 0)]); (rw [pk_un e, gl_app_l (by omega)]; exact hpre i (by omega))), (fun k hk => by show g2 k = _; simp only [List.mem_cons, List.not_mem_nil, or_false, not_or] at hk; rw [hv2 k (by simp only [List.mem_cons, List.not_mem_nil, or_false, not_or] <;> omega), hv1 k (by simp only [List.mem_cons, List.not_mem_nil, or_false, not_or] <;> omega), hfr15 k (by simp only [List.mem_cons, List.not_mem_nil, or_false, not_or] <;> omega)])⟩
        · refine lv_iconst (v := 1) jx jb dX6_leaveOut_104 (by decide) ?_
          refine lv_goto (tgt := 109) jx jb dX6_leaveOut_105 (by decide) ?_
          exact ret _ _ _ _ _ _ dX6_leaveOut_109 hW ⟨_, (bI_t (by rw [hfin]; simp; have := n_nle (by omega) (by omega) c101; omega)).symm, (by rw [hfin, show (pre ++ [gl row k]).length = pre.length + 1 by simp]; exact hR2), (fun i hi => by rw [hfin] at hi ⊢; simp at hi; by_cases e : i = pre.length; (rw [e, pk_us, hrest (row.length - 1) (by omega) (by omega), ← hke, show gl (pre ++ [gl row k]) pre.length = gl row k from gl_app_r (i := 0)]); (rw [pk_un e, gl_app_l (by omega)]; exact hpre i (by omega))), (fun k hk => by show g2 k = _; simp only [List.mem_cons, List.not_mem_nil, or_false, not_or] at hk; rw [hv2 k (by simp only [List.mem_cons, List.not_mem_nil, or_false, not_or] <;> omega), hv1 k (by simp only [List.mem_cons, List.not_mem_nil, or_false, not_or] <;> omega), hfr15 k (by simp only [List.mem_cons, List.not_mem_nil, or_false, not_or] <;> omega)])⟩
      · have hlt : k < row.length - 1 := n_nle (by omega) (by omega) c18
        have hkl : k < row.length := by omega
        have hk96 := (hC k hkl).2
        have hdk := drop_gl hkl
        have hne : ¬ row.drop (k + 1) = [] := fun z => by have := congrArg List.length z; simp at this; omega
        refine lv_aload_n jx jb dX6_leaveOut_21 rfl (lv_at hl 0 rfl) ?_
        refine lv_aload_n jx jb dX6_leaveOut_22 rfl (lv_at hl 1 rfl) ?_
        refine lv_iload jx jb dX6_leaveOut_23 (lv_at hl 5 rfl) ?_
        refine lv_iconst (v := 1) jx jb dX6_leaveOut_25 (by decide) ?_
        refine lv_iadd jx jb dX6_leaveOut_26 ?_
        refine top_eq (y := nI (k + 1)) (nI_1 _) ?_
        refine lv_iload jx jb dX6_leaveOut_27 (lv_at hl 4 rfl) ?_
        refine w_rV (As := [.ref (ad n), .int (nI (k + 1)), .int (nI st)]) X hW (c_endsAlike (cl := gl row) (hM.fr (fun k hk => by show gL15 k = _; rw [hfr15 k (by simp only [List.mem_cons, List.not_mem_nil, or_false, not_or] <;> omega)])) fL15_3 ⟨hn, hc, hr, q1, q2, q3, hsz, fL15_0, fL15_1, fL15_2⟩ (fun i h1 h2 => ⟨hrest i (by omega) h2, (hC i h2).2⟩) (by omega) hst) (by omega) fL15_3 rfl rfl ml_X6_32 mf_X6_endsAlike ⟨Nat.le_of_ble_eq_true rfl, Nat.le_of_ble_eq_true rfl⟩ hl.1 rfl (Nat.le_of_ble_eq_true rfl) ⟨Nat.le_of_ble_eq_true rfl, Nat.le_of_ble_eq_true rfl⟩ dX6_leaveOut_29 (fun H locs hW => ?_)
        refine top_eq (y := bI (alk M wT wR st (row.drop (k + 1)) = true)) (bI_iff (by unfold alk; rw [gl_drop, List.length_drop, decide_eq_true_iff])) ?_
        refine lv_if_ne (tgt := 80) jx jb dX6_leaveOut_32 (by decide) (fun c32 => ?_) (fun c32 => ?_)
        · have hal := bI_n0.mp c32
          refine lv_iinc (v := nI (k + 1)) (lv' := [(5, .int (nI (k + 1))), (0, .ref (ad 62)), (1, .ref (ad n)), (2, .int (nI (row.length - 1))), (3, .int (nI pre.length)), (4, .int (nI st))]) jx jb dX6_leaveOut_80 hl (k := 5) rfl (show nI k + 1 = nI (k + 1) from nI_1 _) (by decide) rfl (fun ls hl => ?_)
          refine lv_goto (tgt := 15) jx jb dX6_leaveOut_83 (by decide) ?_
          exact ih15 (k + 1) st fk pre gL15 _ _ _ (by omega) (by omega) hpre (fun i h1 h2 => hrest i (by omega) h2) hst (by rw [← hpas, hdk, pasL, if_neg hne, if_pos hal]) fL15_0 fL15_1 fL15_2 fL15_3 fL15_4 (fun k hk => by show gL15 k = _; simp only [List.mem_cons, List.not_mem_nil, or_false, not_or] at hk; rw [hfr15 k (by simp only [List.mem_cons, List.not_mem_nil, or_false, not_or] <;> omega)]) (by omega) hW (lv_sub hl [1, 2, 3, 4, 5, 0] rfl)
        · have hal := bI_0.mp c32
          refine lv_aload_n jx jb dX6_leaveOut_35 rfl (lv_at hl 1 rfl) ?_
          refine lv_iload jx jb dX6_leaveOut_36 (lv_at hl 5 rfl) ?_
          refine w_rV (As := [.int (nI k)]) X hW (c_callAt ⟨hn, hc, hr, q1, q2, q3, hsz, fL15_0, fL15_1, fL15_2⟩ hkl) hn fL15_0 rfl rfl ml_X6_36 mf_X5_callAt ⟨Nat.le_of_ble_eq_true rfl, Nat.le_of_ble_eq_true rfl⟩ hl.1 rfl (Nat.le_of_ble_eq_true rfl) ⟨Nat.le_of_ble_eq_true rfl, Nat.le_of_ble_eq_true rfl⟩ dX6_leaveOut_38 (fun H locs hW => ?_)
          refine top_eq (y := nI (gl row k)) (hrest k (Nat.le_refl _) hkl) ?_
          refine lv_istore (lv' := [(6, .int (nI (gl row k))), (0, .ref (ad 62)), (1, .ref (ad n)), (2, .int (nI (row.length - 1))), (3, .int (nI pre.length)), (4, .int (nI st)), (5, .int (nI k))]) jx jb dX6_leaveOut_41 hl (by decide) rfl (fun ls hl => ?_)
          refine lv_aload_n jx jb dX6_leaveOut_43 rfl (lv_at hl 1 rfl) ?_
          refine w_get X hW K6 (by omega) fL15_3 0 (by decide) fl_X6_18 rfl dX6_leaveOut_44 ?_
          refine lv_aload_n jx jb dX6_leaveOut_47 rfl (lv_at hl 1 rfl) ?_
          refine w_get X hW K6 (by omega) fL15_3 0 (by decide) fl_X6_18 rfl dX6_leaveOut_48 ?_
          refine lv_iload jx jb dX6_leaveOut_51 (lv_at hl 0 rfl) ?_
          refine lv_iload jx jb dX6_leaveOut_53 (lv_at hl 5 rfl) ?_
          refine w_rV (As := [.int (nI (gl row k)), .int (nI st)]) X hW (c_takenBy (hM.fr (fun k hk => by show gL15 k = _; rw [hfr15 k (by simp only [List.mem_cons, List.not_mem_nil, or_false, not_or] <;> omega)])) hk96 hst) (by omega) fL15_4 rfl rfl ml_X6_40 mf_X2_takenBy ⟨Nat.le_of_ble_eq_true rfl, Nat.le_of_ble_eq_true rfl⟩ hl.1 rfl (Nat.le_of_ble_eq_true rfl) ⟨Nat.le_of_ble_eq_true rfl, Nat.le_of_ble_eq_true rfl⟩ dX6_leaveOut_55 (fun H locs hW => ?_)
          refine lv_iload jx jb dX6_leaveOut_58 (lv_at hl 5 rfl) ?_
          refine lv_iload jx jb dX6_leaveOut_60 (lv_at hl 0 rfl) ?_
          refine w_rN (As := [.int (nI (gl row k))]) X hW (c_numberOf (by omega)) mn_X6_46 mf_X8_numberOf ⟨Nat.le_of_ble_eq_true rfl, Nat.le_of_ble_eq_true rfl⟩ hl.1 rfl (Nat.le_of_ble_eq_true rfl) ⟨Nat.le_of_ble_eq_true rfl, Nat.le_of_ble_eq_true rfl⟩ dX6_leaveOut_62 (fun H locs hW => ?_)
          refine w_rV (As := [.int (tI (tk M (gl row k / 16) st)), .int (nI st), .int (nI (gl row k % 16))]) X hW (c_mStateBehind (hM.fr (fun k hk => by show gL15 k = _; rw [hfr15 k (by simp only [List.mem_cons, List.not_mem_nil, or_false, not_or] <;> omega)])) (by omega) hst (Nat.mod_lt _ (by decide))) (by omega) fL15_4 rfl rfl ml_X6_49 mf_X2_stateBehind ⟨Nat.le_of_ble_eq_true rfl, Nat.le_of_ble_eq_true rfl⟩ hl.1 rfl (Nat.le_of_ble_eq_true rfl) ⟨Nat.le_of_ble_eq_true rfl, Nat.le_of_ble_eq_true rfl⟩ dX6_leaveOut_65 (fun H locs hW => ?_)
          refine top_eq (y := nI (stp M (gl row k) st)) (rfl) ?_
          refine lv_istore (lv' := [(4, .int (nI (stp M (gl row k) st))), (6, .int (nI (gl row k))), (0, .ref (ad 62)), (1, .ref (ad n)), (2, .int (nI (row.length - 1))), (3, .int (nI pre.length)), (5, .int (nI k))]) jx jb dX6_leaveOut_68 hl (by decide) rfl (fun ls hl => ?_)
          refine lv_aload_n jx jb dX6_leaveOut_70 rfl (lv_at hl 3 rfl) ?_
          refine lv_iload jx jb dX6_leaveOut_71 (lv_at hl 6 rfl) ?_
          refine lv_iload_n jx jb dX6_leaveOut_73 rfl (lv_at hl 5 rfl) ?_
          refine w_nVv (As := [.int (nI k), .int (nI pre.length)]) X hW (c_move ⟨hn, hc, hr, q1, q2, q3, hsz, fL15_0, fL15_1, fL15_2⟩ hkl (by omega)) hn fL15_0 rfl rfl ml_X6_53 mf_X5_move ⟨Nat.le_of_ble_eq_true rfl, Nat.le_of_ble_eq_true rfl⟩ hl.1 rfl (Nat.le_of_ble_eq_true rfl) ⟨Nat.le_of_ble_eq_true rfl, Nat.le_of_ble_eq_true rfl⟩ dX6_leaveOut_74 (fun g1 H locs hp hW => ?_)
          obtain ⟨hRhv7, hv7⟩ := hp
          obtain ⟨-, -, -, -, -, -, -, p8, p9, p10⟩ := id hRhv7
          have hf9 : g1 62 = .inr (6, [.ref (ad 1), .int wT, .int wR]) := (hv7 62 (by simp only [List.mem_cons, List.not_mem_nil, or_false, not_or] <;> omega)).trans fL15_3
          have hf10 : g1 1 = .inr (2, [.ref (ad 2), .ref (ad 3)]) := (hv7 1 (by simp only [List.mem_cons, List.not_mem_nil, or_false, not_or] <;> omega)).trans fL15_4
          refine lv_iinc (v := nI (pre.length + 1)) (lv' := [(3, .int (nI (pre.length + 1))), (4, .int (nI (stp M (gl row k) st))), (6, .int (nI (gl row k))), (0, .ref (ad 62)), (1, .ref (ad n)), (2, .int (nI (row.length - 1))), (5, .int (nI k))]) jx jb dX6_leaveOut_77 hl (k := 5) rfl (show nI pre.length + 1 = nI (pre.length + 1) from nI_1 _) (by decide) rfl (fun ls hl => ?_)
          have hl : lv_has ls 7 [(3, .int (nI (pre ++ [gl row k]).length)), (4, .int (nI (stp M (gl row k) st))), (6, .int (nI (gl row k))), (0, .ref (ad 62)), (1, .ref (ad n)), (2, .int (nI (row.length - 1))), (5, .int (nI k))] := by rw [show nI (pre ++ [gl row k]).length = nI (pre.length + 1) from by simp]; exact hl
          refine lv_iinc (v := nI (k + 1)) (lv' := [(5, .int (nI (k + 1))), (3, .int (nI (pre ++ [gl row k]).length)), (4, .int (nI (stp M (gl row k) st))), (6, .int (nI (gl row k))), (0, .ref (ad 62)), (1, .ref (ad n)), (2, .int (nI (row.length - 1)))]) jx jb dX6_leaveOut_80 hl (k := 6) rfl (show nI k + 1 = nI (k + 1) from nI_1 _) (by decide) rfl (fun ls hl => ?_)
          refine lv_goto (tgt := 15) jx jb dX6_leaveOut_83 (by decide) ?_
          exact ih15 (k + 1) (stp M (gl row k) st) _ (pre ++ [gl row k]) g1 _ _ _ (by omega) (by simp; omega) (fun i hi => by simp at hi; by_cases e : i = pre.length; (rw [e, pk_us, hrest k (Nat.le_refl _) hkl, show gl (pre ++ [gl row k]) pre.length = gl row k from gl_app_r (i := 0)]); (rw [pk_un e, gl_app_l (by omega)]; exact hpre i (by omega))) (fun i h1 h2 => by rw [pk_un (by omega)]; exact hrest i (by omega) h2) (nx_lt hok (by omega) hst) (by rw [← hpas, hdk, pasL, if_neg hne, if_neg hal, List.append_assoc]; rfl) p8 p9 p10 hf9 hf10 (fun k hk => by show g1 k = _; simp only [List.mem_cons, List.not_mem_nil, or_false, not_or] at hk; rw [hv7 k (by simp only [List.mem_cons, List.not_mem_nil, or_false, not_or] <;> omega), hfr15 k (by simp only [List.mem_cons, List.not_mem_nil, or_false, not_or] <;> omega)]) (by omega) hW (lv_sub hl [4, 5, 6, 1, 2, 0] rfl)
  exact loop15 _ 0 0 _ [] g _ _ _ (by omega) (Nat.le_refl _) (fun i hi => absurd hi (by simp)) (fun i _ h2 => (hC i h2).1) (by decide) rfl fn fc_ fr_ f62 f1 (fun k hk => rfl) (Nat.lt_succ_self _) hW (lv_sub hl [4, 5, 3, 2, 1, 0] rfl)

set_option maxHeartbeats 4000000 in
set_option maxRecDepth 100000 in
theorem c_shorten {l : Launch} {G : va_G} {cy : Nat → ClassId} {N : Nat} {ad : Nat → Nat} {g : Nat → va_E} {n c r : Nat} {fc fr : Nat → Int32} {M : M4} {row : List Nat} {wT wR w0 w1 : Int32} (hM : MachAt cy N ad g M) (f62 : g 62 = .inr (6, [.ref (ad 1), .int w0, .int w1])) (hR : RowAt cy N ad g n c r row.length fc fr) (h1 : 1 ≤ row.length) (h96r : ∀ x, x ∈ row → x < 96) (hC : ∀ i, i < row.length → fc i = nI (gl row i)) (hd : n ≠ 62 ∧ c ≠ 62 ∧ r ≠ 62 ∧ n ≠ 1 ∧ c ≠ 1 ∧ r ≠ 1 ∧ n ≠ 2 ∧ c ≠ 2 ∧ r ≠ 2 ∧ n ≠ 3 ∧ c ≠ 3 ∧ r ≠ 3 ∧ n < 83 ∧ c < 83 ∧ r < 83) : MV l G cy (N, ad, g) yX6_shorten cX6_shorten 6 none (rmN 5) [.ref (ad 62), .ref (ad n), .int wT, .int wR] (nV N ad (fun g1 => ∃ fk, RowAt cy N ad g1 n c r (shrL M wT wR 201 row).length fk fr ∧ (∀ i, i < (shrL M wT wR 201 row).length → fk i = nI (gl (shrL M wT wR 201 row) i)) ∧ g1 62 = .inr (6, [.ref (ad 1), .int wT, .int wR]) ∧ Fr g g1 [n, c, r, 62])) := by
  refine NV.mk (by decide) (Nat.le_of_ble_eq_true rfl) ?_
  intro jp je js jm below meth jc A Q X hW ret ls hl
  have jx := X.hx
  have jb := X.hb
  have hl : lv_has ls 6 [(0, .ref (ad 62)), (1, .ref (ad n)), (2, .int wT), (3, .int wR)] := hl
  have X : Cx G cy jp js jm _ jc cX6_shorten 6 RX6 A js.heap := X
  have hok := hM.1
  obtain ⟨-, h83, bc_, fs_, f1, -⟩ := id hM
  obtain ⟨hn, hc, hr, q1, q2, q3, hsz, fn, fc_, fr_⟩ := id hR
  refine lv_aload_n jx jb dX6_shorten_0 rfl (lv_at hl 0 rfl) ?_
  refine lv_iload_n jx jb dX6_shorten_1 rfl (lv_at hl 2 rfl) ?_
  refine w_put X hW K6 (by omega) f62 1 (by decide) fl_X6_9 rfl rfl rfl (Nat.le_of_ble_eq_true rfl) dX6_shorten_2 (fun H locs hW => ?_)
  obtain ⟨g_1, eg_1⟩ : ∃ zz, zz = va_up g 62 (.inr (6, [.ref (ad 1), .int wT, .int w1])) := ⟨_, rfl⟩
  have hW : Wd G A js.heap (N, ad, g_1) H locs := by rw [eg_1]; exact hW
  have hf2 : g_1 62 = .inr (6, [.ref (ad 1), .int wT, .int w1]) := by rw [eg_1]; exact va_up_s
  have hf3 : g_1 1 = .inr (2, [.ref (ad 2), .ref (ad 3)]) := by rw [eg_1]; exact (va_up_n (by decide)).trans f1
  have hf4 : g_1 n = .inr (5, [.ref (ad c), .ref (ad r), .int (nI row.length)]) := by rw [eg_1]; exact (va_up_n (by omega)).trans fn
  have hf5 : g_1 c = .inl (cy 0, 200, .inl fc) := by rw [eg_1]; exact (va_up_n (by omega)).trans fc_
  have hf6 : g_1 r = .inl (cy 0, 200, .inl fr) := by rw [eg_1]; exact (va_up_n (by omega)).trans fr_
  refine lv_aload_n jx jb dX6_shorten_5 rfl (lv_at hl 0 rfl) ?_
  refine lv_iload_n jx jb dX6_shorten_6 rfl (lv_at hl 3 rfl) ?_
  refine w_put X hW K6 (by omega) hf2 2 (by decide) fl_X6_15 rfl rfl rfl (Nat.le_of_ble_eq_true rfl) dX6_shorten_7 (fun H locs hW => ?_)
  obtain ⟨g_7, eg_7⟩ : ∃ zz, zz = va_up g_1 62 (.inr (6, [.ref (ad 1), .int wT, .int wR])) := ⟨_, rfl⟩
  have hW : Wd G A js.heap (N, ad, g_7) H locs := by rw [eg_7]; exact hW
  have hf8 : g_7 62 = .inr (6, [.ref (ad 1), .int wT, .int wR]) := by rw [eg_7]; exact va_up_s
  have hf9 : g_7 1 = .inr (2, [.ref (ad 2), .ref (ad 3)]) := by rw [eg_7]; exact (va_up_n (by decide)).trans hf3
  have hf10 : g_7 n = .inr (5, [.ref (ad c), .ref (ad r), .int (nI row.length)]) := by rw [eg_7]; exact (va_up_n (by omega)).trans hf4
  have hf11 : g_7 c = .inl (cy 0, 200, .inl fc) := by rw [eg_7]; exact (va_up_n (by omega)).trans hf5
  have hf12 : g_7 r = .inl (cy 0, 200, .inl fr) := by rw [eg_7]; exact (va_up_n (by omega)).trans hf6
  refine lv_iconst (v := 1) jx jb dX6_shorten_10 (by decide) ?_
  refine lv_istore (lv' := [(4, .int 1), (0, .ref (ad 62)), (1, .ref (ad n)), (2, .int wT), (3, .int wR)]) jx jb dX6_shorten_11 hl (by decide) rfl (fun ls hl => ?_)
  refine lv_iconst (v := 0) jx jb dX6_shorten_13 (by decide) ?_
  refine lv_istore (lv' := [(5, .int 0), (4, .int 1), (0, .ref (ad 62)), (1, .ref (ad n)), (2, .int wT), (3, .int wR)]) jx jb dX6_shorten_14 hl (by decide) rfl (fun ls hl => ?_)
  have loop16 : ∀ (fuel16 : Nat) (p : Nat) (ag : Bool) (rw_ : List Nat) (fk : Nat → Int32) (gL16 : Nat → va_E) (H : Heap) (locs : List Loc) (ls : Array Slot), (p ≤ 201) → (1 ≤ rw_.length) → (rw_.length ≤ 200) → (∀ x, x ∈ rw_ → x < 96) → (∀ i, i < rw_.length → fk i = nI (gl rw_ i)) → ((if ag = true then shrL M wT wR (201 - p) rw_ else rw_) = shrL M wT wR 201 row) → gL16 n = .inr (5, [.ref (ad c), .ref (ad r), .int (nI rw_.length)]) → gL16 c = .inl (cy 0, 200, .inl fk) → gL16 r = .inl (cy 0, 200, .inl fr) → gL16 62 = .inr (6, [.ref (ad 1), .int wT, .int wR]) → gL16 1 = .inr (2, [.ref (ad 2), .ref (ad 3)]) → Fr g gL16 [n, c, r, 62] → 201 - p < fuel16 → Wd G A js.heap (N, ad, gL16) H locs → lv_has ls 6 [(0, .ref (ad 62)), (1, .ref (ad n)), (4, .int (bI (ag = true))), (5, .int (nI p))] → W jp l je (rmN 5) js jm [.ref (ad 62), .ref (ad n), .int wT, .int wR].toArray below meth jc H locs 0 0 Q (F0 jm 16 ls []) := by
    intro fuel16
    induction fuel16 with
    | zero => intro p ag rw_ fk gL16 H locs ls hp h1r h2r h96 hcr hsh fL16_0 fL16_1 fL16_2 fL16_3 fL16_4 hfr16 hm16; exact absurd hm16 (Nat.not_lt_zero _)
    | succ fuel16 ih16 =>
      intro p ag rw_ fk gL16 H locs ls hp h1r h2r h96 hcr hsh fL16_0 fL16_1 fL16_2 fL16_3 fL16_4 hfr16 hm16 hW hl
      refine lv_iload jx jb dX6_shorten_16 (lv_at hl 2 rfl) ?_
      refine lv_if_eq (tgt := 42) jx jb dX6_shorten_18 (by decide) (fun c18 => ?_) (fun c18 => ?_)
      · exact ret _ _ _ _ _ dX6_shorten_42 hW (by have e : shrL M wT wR 201 row = rw_ := (by rw [← hsh, if_neg (bI_0.mp c18)]); rw [e]; exact ⟨fk, ⟨hn, hc, hr, q1, q2, q3, h2r, fL16_0, fL16_1, fL16_2⟩, hcr, fL16_3, (fun k hk => by show gL16 k = _; simp only [List.mem_cons, List.not_mem_nil, or_false, not_or] at hk; rw [hfr16 k (by simp only [List.mem_cons, List.not_mem_nil, or_false, not_or] <;> omega)])⟩)
      · refine lv_iload jx jb dX6_shorten_21 (lv_at hl 3 rfl) ?_
        refine lv_sipush (v := 200) jx jb dX6_shorten_23 (by decide) ?_
        refine lv_icmp_gt (tgt := 42) jx jb dX6_shorten_26 (by decide) (fun c26 => ?_) (fun c26 => ?_)
        · exact ret _ _ _ _ _ dX6_shorten_42 hW (by have e : shrL M wT wR 201 row = rw_ := (by have hq := n_lt (a := 200) (by decide) (by omega) c26; rw [← hsh, if_pos (bI_n0.mp c18), show 201 - p = 0 by omega]; rfl); rw [e]; exact ⟨fk, ⟨hn, hc, hr, q1, q2, q3, h2r, fL16_0, fL16_1, fL16_2⟩, hcr, fL16_3, (fun k hk => by show gL16 k = _; simp only [List.mem_cons, List.not_mem_nil, or_false, not_or] at hk; rw [hfr16 k (by simp only [List.mem_cons, List.not_mem_nil, or_false, not_or] <;> omega)])⟩)
        · refine lv_aload_n jx jb dX6_shorten_29 rfl (lv_at hl 0 rfl) ?_
          refine lv_aload_n jx jb dX6_shorten_30 rfl (lv_at hl 1 rfl) ?_
          have hag := bI_n0.mp c18
          have hp200 := n_nlt (a := 200) (by decide) (by omega) c26
          refine w_nV (As := [.ref (ad n)]) X hW (c_leaveOut (row := rw_) (hM.fr (fun k hk => by show gL16 k = _; rw [hfr16 k (by simp only [List.mem_cons, List.not_mem_nil, or_false, not_or] <;> omega)])) fL16_3 ⟨hn, hc, hr, q1, q2, q3, h2r, fL16_0, fL16_1, fL16_2⟩ h1r (fun i hi => ⟨hcr i hi, h96 _ (gl_mem hi)⟩) hd) (by omega) fL16_3 rfl rfl ml_X6_22 mf_X6_leaveOut ⟨Nat.le_of_ble_eq_true rfl, Nat.le_of_ble_eq_true rfl⟩ hl.1 rfl (Nat.le_of_ble_eq_true rfl) ⟨Nat.le_of_ble_eq_true rfl, Nat.le_of_ble_eq_true rfl⟩ dX6_shorten_31 (fun r1 g1 H locs hp hW => ?_)
          obtain ⟨fk1, er1, hR1, hcr1, pfr⟩ := hp
          obtain ⟨-, -, -, -, -, -, -, p8, p9, p10⟩ := id hR1
          have hf13 : g1 62 = .inr (6, [.ref (ad 1), .int wT, .int wR]) := (pfr 62 (by simp only [List.mem_cons, List.not_mem_nil, or_false, not_or] <;> omega)).trans fL16_3
          have hf14 : g1 1 = .inr (2, [.ref (ad 2), .ref (ad 3)]) := (pfr 1 (by simp only [List.mem_cons, List.not_mem_nil, or_false, not_or] <;> omega)).trans fL16_4
          refine top_eq (y := bI (decide ((pasL M wT wR 0 rw_).length < rw_.length) = true)) (by rw [er1]; exact bI_iff (by simp)) ?_
          refine lv_istore (lv' := [(4, .int (bI (decide ((pasL M wT wR 0 rw_).length < rw_.length) = true))), (0, .ref (ad 62)), (1, .ref (ad n)), (5, .int (nI p))]) jx jb dX6_shorten_34 hl (by decide) rfl (fun ls hl => ?_)
          refine lv_iinc (v := nI (p + 1)) (lv' := [(5, .int (nI (p + 1))), (4, .int (bI (decide ((pasL M wT wR 0 rw_).length < rw_.length) = true))), (0, .ref (ad 62)), (1, .ref (ad n))]) jx jb dX6_shorten_36 hl (k := 3) rfl (show nI p + 1 = nI (p + 1) from nI_1 _) (by decide) rfl (fun ls hl => ?_)
          refine lv_goto (tgt := 16) jx jb dX6_shorten_39 (by decide) ?_
          exact ih16 (p + 1) (decide ((pasL M wT wR 0 rw_).length < rw_.length)) (pasL M wT wR 0 rw_) _ g1 _ _ _ (by omega) (pasL_pos h1r) (by have := pasL_len (M := M) (wT := wT) (wR := wR) (l := rw_) (s := 0); omega) (fun x hx => h96 x (pasL_mem hx)) hcr1 (by rw [← hsh, if_pos hag, show 201 - p = (201 - (p + 1)) + 1 by omega, shrL]; simp only [decide_eq_true_eq]) p8 p9 p10 hf13 hf14 (fun k hk => by show g1 k = _; simp only [List.mem_cons, List.not_mem_nil, or_false, not_or] at hk; rw [pfr k (by simp only [List.mem_cons, List.not_mem_nil, or_false, not_or] <;> omega), hfr16 k (by simp only [List.mem_cons, List.not_mem_nil, or_false, not_or] <;> omega)]) (by omega) hW (lv_sub hl [2, 3, 1, 0] rfl)
  exact loop16 _ 0 true row _ g_7 _ _ _ (by omega) h1 (by omega) h96r (fun i hi => (hC i hi)) rfl hf10 hf11 hf12 hf8 hf9 (fun k hk => by show g_7 k = _; simp only [List.mem_cons, List.not_mem_nil, or_false, not_or] at hk; rw [eg_7, va_up_n (by omega), eg_1, va_up_n (by omega)]) (Nat.lt_succ_self _) hW (lv_sub hl [2, 3, 1, 0] rfl)
end
section
/-- a test: its row, what it asks for, what it met, whether it is touched, whether it is broken -/
abbrev TT : Type := List Nat × (Nat → Int32) × Int32 × Bool × Bool
/-- the test in slot q lies in the cells 12 + 4 q .. 15 + 4 q -/
def TstAt (cy : Nat → ClassId) (N : Nat) (ad : Nat → Nat) (g : Nat → va_E) (q : Nat) (t : TT) : Prop := ∃ fc fr, g (12 + 4 * q) = .inr (3, [.ref (ad (13 + 4 * q)), .int t.2.2.1, .int (bI (t.2.2.2.1 = true)), .int (bI (t.2.2.2.2 = true))]) ∧ RowAt cy N ad g (13 + 4 * q) (14 + 4 * q) (15 + 4 * q) t.1.length fc fr ∧ (∀ i, i < t.1.length → fc i = nI (gl t.1 i)) ∧ (∀ x, x ∈ t.1 → x < 96) ∧ ∀ i, i < t.1.length → fr i = t.2.1 i
theorem TstAt.fr {cy : Nat → ClassId} {N : Nat} {ad : Nat → Nat} {g g' : Nat → va_E} {q : Nat} {t : TT} (h : TstAt cy N ad g q t) (h1 : ∀ k, 12 + 4 * q ≤ k → k ≤ 15 + 4 * q → g' k = g k) : TstAt cy N ad g' q t := by
  obtain ⟨fc, fr, a, b, c, d, e⟩ := h
  exact ⟨fc, fr, (h1 _ (by omega) (by omega)).trans a, b.fr (h1 _ (by omega) (by omega)) (h1 _ (by omega) (by omega)) (h1 _ (by omega) (by omega)), c, d, e⟩
/-- the suite's cells: the object 9, its tests 10, its meets 11, the slots; T tests stand in the slots p 0 .. p (T - 1) -/
def SuAt (cy : Nat → ClassId) (N : Nat) (ad : Nat → Nat) (g : Nat → va_E) (T : Nat) (p : Nat → Nat) (x : Nat → TT) : Prop := 83 ≤ N ∧ T ≤ 12 ∧ (∀ i, i < 12 → p i < 12) ∧ (∀ i j, i < 12 → j < 12 → p i = p j → i = j) ∧ (∃ ft fm, g 9 = .inr (7, [.ref (ad 10), .ref (ad 11), .int (nI T)]) ∧ g 10 = .inl (cy 3, 12, .inr (.inr (.inr (.inr ft)))) ∧ g 11 = .inl (cy 0, 12, .inl fm) ∧ ∀ i, i < 12 → ft i = some (ad (12 + 4 * p i))) ∧ ∀ q, q < 12 → TstAt cy N ad g q (x q)
theorem SuAt.fr {cy : Nat → ClassId} {N : Nat} {ad : Nat → Nat} {g g' : Nat → va_E} {T : Nat} {p : Nat → Nat} {x : Nat → TT} (h : SuAt cy N ad g T p x) (h1 : ∀ k, 9 ≤ k → k < 60 → g' k = g k) : SuAt cy N ad g' T p x := by
  obtain ⟨a, b, c, d, ⟨ft, fm, e1, e2, e3, e4⟩, f⟩ := h
  exact ⟨a, b, c, d, ⟨ft, fm, (h1 _ (by omega) (by omega)).trans e1, (h1 _ (by omega) (by omega)).trans e2, (h1 _ (by omega) (by omega)).trans e3, e4⟩, fun q hq => (f q hq).fr (fun k _ _ => h1 k (by omega) (by omega))⟩
theorem SuAt.put {cy : Nat → ClassId} {N : Nat} {ad : Nat → Nat} {g g' : Nat → va_E} {T : Nat} {p : Nat → Nat} {x : Nat → TT} {q : Nat} {t : TT} (h : SuAt cy N ad g T p x) (h1 : ∀ k, k ≠ 12 + 4 * q → k ≠ 13 + 4 * q → k ≠ 14 + 4 * q → k ≠ 15 + 4 * q → 9 ≤ k → k < 60 → g' k = g k) (ht : TstAt cy N ad g' q t) : SuAt cy N ad g' T p (va_up x q t) := by
  obtain ⟨a, b, c, d, ⟨ft, fm, e1, e2, e3, e4⟩, f⟩ := h
  refine ⟨a, b, c, d, ⟨ft, fm, (h1 _ (by omega) (by omega) (by omega) (by omega) (by omega) (by omega)).trans e1, (h1 _ (by omega) (by omega) (by omega) (by omega) (by omega) (by omega)).trans e2, (h1 _ (by omega) (by omega) (by omega) (by omega) (by omega) (by omega)).trans e3, e4⟩, fun q' hq => ?_⟩
  by_cases e : q' = q
  · subst e
    rw [va_up_s]
    exact ht
  · rw [va_up_n e]
    exact (f q' hq).fr (fun k _ _ => h1 k (by omega) (by omega) (by omega) (by omega) (by omega) (by omega))
def mapT (p : Nat → Nat) (F : TT → TT) (x : Nat → TT) : Nat → Nat → TT
  | 0 => x
  | k + 1 => va_up (mapT p F x k) (p k) (F (mapT p F x k (p k)))
theorem mapT_out {p : Nat → Nat} {F : TT → TT} {x : Nat → TT} : ∀ {k q : Nat}, (∀ i, i < k → p i ≠ q) → mapT p F x k q = x q
  | 0, _, _ => rfl
  | k + 1, q, h => by
    show va_up _ _ _ q = x q
    rw [va_up_n (fun e => h k (by omega) e.symm)]
    exact mapT_out (fun i hi => h i (by omega))
theorem mapT_in {p : Nat → Nat} {F : TT → TT} {x : Nat → TT} (hinj : ∀ i j, i < 12 → j < 12 → p i = p j → i = j) : ∀ {k i : Nat}, k ≤ 12 → i < k → mapT p F x k (p i) = F (x (p i))
  | k + 1, i, hk, hi => by
    show va_up _ _ _ (p i) = _
    by_cases e : i = k
    · subst e
      rw [va_up_s, mapT_out (fun j hj q => by have := hinj j i (by omega) (by omega) q; omega)]
    · rw [va_up_n (fun q => e (hinj i k (by omega) (by omega) q))]
      exact mapT_in hinj (by omega) (by omega)
theorem bI_fit {b : Prop} [Decidable b] : fits .boolean (.int (bI b)) = true := by by_cases h : b <;> simp [bI, h] <;> decide
theorem bor {a c : Bool} : bI (a = true) ||| bI (c = true) = bI ((a || c) = true) := by cases a <;> cases c <;> decide
/-- touched by a change of branch b; by one branch more of kind k; run; -/
def tM (b : Nat) (t : TT) : TT := (t.1, t.2.1, t.2.2.1, t.2.2.2.1 || decide ((t.2.2.1 >>> (nI b &&& 31)) &&& 1 = 1), t.2.2.2.2)
def tK (k : Nat) (t : TT) : TT := (t.1, t.2.1, t.2.2.1, t.2.2.2.1 || anyK (gl t.1) k t.1.length, t.2.2.2.2)
def likeK (y : Nat → TT) (row : List Nat) : Nat → Bool
  | 0 => false
  | n + 1 => likeK y row n || decide ((y n).1 = row)
theorem likeK_mono {y : Nat → TT} {row : List Nat} {a : Nat} (h : likeK y row a = true) : ∀ {b : Nat}, a ≤ b → likeK y row b = true
  | 0, hb => by rw [show a = 0 by omega] at h; exact h
  | b + 1, hb => by
    by_cases e : a = b + 1
    · rw [← e]; exact h
    · unfold likeK
      rw [likeK_mono h (b := b) (by omega)]
      rfl
def cntB (f : Nat → Bool) : Nat → Nat
  | 0 => 0
  | n + 1 => cntB f n + (if f n = true then 1 else 0)
theorem gl_ext {a b : List Nat} (h : a.length = b.length) (h2 : ∀ i, i < a.length → gl a i = gl b i) : a = b := by
  apply List.ext_getElem h
  intro i h1 h3
  have := h2 i h1
  simpa [gl, List.getD, h1, h3] using this
theorem sameK_iff {f f' : Nat → Int32} : ∀ {n : Nat}, sameK f f' n = true ↔ ∀ i, i < n → f i = f' i
  | 0 => ⟨fun _ i hi => absurd hi (by omega), fun _ => rfl⟩
  | n + 1 => by
    unfold sameK
    rw [Bool.and_eq_true, sameK_iff (n := n), decide_eq_true_eq]
    constructor
    · intro h i hi
      by_cases e : i = n
      · rw [e]; exact h.2
      · exact h.1 i (by omega)
    · exact fun h => ⟨fun i hi => h i (by omega), h n (by omega)⟩
theorem same_row {a b : List Nat} {f f' : Nat → Int32} (ha : ∀ i, i < a.length → f i = nI (gl a i)) (hb : ∀ i, i < b.length → f' i = nI (gl b i)) (ha96 : ∀ x, x ∈ a → x < 96) (hb96 : ∀ x, x ∈ b → x < 96) : (a.length = b.length ∧ sameK f f' a.length = true) ↔ a = b := by
  constructor
  · intro h
    apply gl_ext h.1
    intro i hi
    have h1 := sameK_iff.mp h.2 i hi
    rw [ha i hi, hb i (by omega)] at h1
    have h2 := ha96 _ (gl_mem hi)
    have h3 := hb96 _ (gl_mem (row := b) (i := i) (by omega))
    exact n_eq (by omega) (by omega) h1
  · rintro rfl
    exact ⟨rfl, sameK_iff.mpr (fun i hi => by rw [ha i hi, hb i hi])⟩
def mbh (fm : Nat → Int32) (h : Int32) : Nat → Int32
  | 0 => 0
  | i + 1 => mbh fm h i ||| (if (h >>> (nI i &&& 31)) &&& 1 = 1 then fm i else 0)
def bc1 (x : Int32) : Int32 := x - ((x.toUInt32 >>> ((1 : Int32).toUInt32 &&& Int32.toUInt32 31)).toInt32 &&& 1431655765)
def bc2 (x : Int32) : Int32 := (x &&& 858993459) + ((x.toUInt32 >>> ((2 : Int32).toUInt32 &&& Int32.toUInt32 31)).toInt32 &&& 858993459)
def bc3 (x : Int32) : Int32 := (x + (x.toUInt32 >>> ((4 : Int32).toUInt32 &&& Int32.toUInt32 31)).toInt32) &&& 252645135
def bc4 (x : Int32) : Int32 := x + (x.toUInt32 >>> ((8 : Int32).toUInt32 &&& Int32.toUInt32 31)).toInt32
def bc5 (x : Int32) : Int32 := x + (x.toUInt32 >>> ((16 : Int32).toUInt32 &&& Int32.toUInt32 31)).toInt32
def bcI (x : Int32) : Int32 := bc5 (bc4 (bc3 (bc2 (bc1 x)))) &&& 63
def pc2 (n : Nat) : Nat := n % 2 + n / 2 % 2 + n / 4 % 2 + n / 8 % 2 + n / 16 % 2 + n / 32 % 2 + n / 64 % 2 + n / 128 % 2 + n / 256 % 2 + n / 512 % 2 + n / 1024 % 2 + n / 2048 % 2
set_option maxRecDepth 100000 in
theorem bcI_pc : ∀ n, n < 4096 → bcI (nI n) = nI (pc2 n) := by decide +kernel

set_option maxHeartbeats 4000000 in
set_option maxRecDepth 100000 in
theorem c_bitCount {l : Launch} {G : va_G} {cy : Nat → ClassId} {w : WT} {x : Int32} : RI l G cy w yJ6_bitCount_0f7a4 cJ6_bitCount_0f7a4 1 (some .int) (rmN 0) [.int x] (bcI x) := by
  refine RI.mk (by decide) (by first | rfl | exact bI_nar) (Nat.le_of_ble_eq_true rfl) ?_
  intro jp je js jm below meth jc A Q X hW ret ls hl
  have jx := X.hx
  have jb := X.hb
  have hl : lv_has ls 1 [(0, .int x)] := hl
  have X : Cx G cy jp js jm _ jc cJ6_bitCount_0f7a4 1 RJ6 A js.heap := X
  refine lv_iload_n jx jb dJ6_bitCount_0f7a4_0 rfl (lv_at hl 0 rfl) ?_
  refine lv_iload_n jx jb dJ6_bitCount_0f7a4_1 rfl (lv_at hl 0 rfl) ?_
  refine lv_iconst (v := 1) jx jb dJ6_bitCount_0f7a4_2 (by decide) ?_
  refine lv_iushr jx jb dJ6_bitCount_0f7a4_3 rfl ?_
  refine lv_ldcw (v := 1431655765) jx jb X.1.2.2.2.1 (X.ht cs_J6_265) dJ6_bitCount_0f7a4_4 ?_
  refine lv_iand jx jb dJ6_bitCount_0f7a4_7 ?_
  refine lv_isub jx jb dJ6_bitCount_0f7a4_8 ?_
  refine top_eq (y := bc1 x) (rfl) ?_
  refine lv_istore_n (lv' := [(0, .int (bc1 x))]) jx jb dJ6_bitCount_0f7a4_9 rfl hl (by decide) rfl (fun ls hl => ?_)
  refine lv_iload_n jx jb dJ6_bitCount_0f7a4_10 rfl (lv_at hl 0 rfl) ?_
  refine lv_ldcw (v := 858993459) jx jb X.1.2.2.2.1 (X.ht cs_J6_266) dJ6_bitCount_0f7a4_11 ?_
  refine lv_iand jx jb dJ6_bitCount_0f7a4_14 ?_
  refine lv_iload_n jx jb dJ6_bitCount_0f7a4_15 rfl (lv_at hl 0 rfl) ?_
  refine lv_iconst (v := 2) jx jb dJ6_bitCount_0f7a4_16 (by decide) ?_
  refine lv_iushr jx jb dJ6_bitCount_0f7a4_17 rfl ?_
  refine lv_ldcw (v := 858993459) jx jb X.1.2.2.2.1 (X.ht cs_J6_266) dJ6_bitCount_0f7a4_18 ?_
  refine lv_iand jx jb dJ6_bitCount_0f7a4_21 ?_
  refine lv_iadd jx jb dJ6_bitCount_0f7a4_22 ?_
  refine top_eq (y := bc2 (bc1 x)) (rfl) ?_
  refine lv_istore_n (lv' := [(0, .int (bc2 (bc1 x)))]) jx jb dJ6_bitCount_0f7a4_23 rfl hl (by decide) rfl (fun ls hl => ?_)
  refine lv_iload_n jx jb dJ6_bitCount_0f7a4_24 rfl (lv_at hl 0 rfl) ?_
  refine lv_iload_n jx jb dJ6_bitCount_0f7a4_25 rfl (lv_at hl 0 rfl) ?_
  refine lv_iconst (v := 4) jx jb dJ6_bitCount_0f7a4_26 (by decide) ?_
  refine lv_iushr jx jb dJ6_bitCount_0f7a4_27 rfl ?_
  refine lv_iadd jx jb dJ6_bitCount_0f7a4_28 ?_
  refine lv_ldcw (v := 252645135) jx jb X.1.2.2.2.1 (X.ht cs_J6_267) dJ6_bitCount_0f7a4_29 ?_
  refine lv_iand jx jb dJ6_bitCount_0f7a4_32 ?_
  refine top_eq (y := bc3 (bc2 (bc1 x))) (rfl) ?_
  refine lv_istore_n (lv' := [(0, .int (bc3 (bc2 (bc1 x))))]) jx jb dJ6_bitCount_0f7a4_33 rfl hl (by decide) rfl (fun ls hl => ?_)
  refine lv_iload_n jx jb dJ6_bitCount_0f7a4_34 rfl (lv_at hl 0 rfl) ?_
  refine lv_iload_n jx jb dJ6_bitCount_0f7a4_35 rfl (lv_at hl 0 rfl) ?_
  refine lv_bipush (v := 8) jx jb dJ6_bitCount_0f7a4_36 (by decide) ?_
  refine lv_iushr jx jb dJ6_bitCount_0f7a4_38 rfl ?_
  refine lv_iadd jx jb dJ6_bitCount_0f7a4_39 ?_
  refine top_eq (y := bc4 (bc3 (bc2 (bc1 x)))) (rfl) ?_
  refine lv_istore_n (lv' := [(0, .int (bc4 (bc3 (bc2 (bc1 x)))))]) jx jb dJ6_bitCount_0f7a4_40 rfl hl (by decide) rfl (fun ls hl => ?_)
  refine lv_iload_n jx jb dJ6_bitCount_0f7a4_41 rfl (lv_at hl 0 rfl) ?_
  refine lv_iload_n jx jb dJ6_bitCount_0f7a4_42 rfl (lv_at hl 0 rfl) ?_
  refine lv_bipush (v := 16) jx jb dJ6_bitCount_0f7a4_43 (by decide) ?_
  refine lv_iushr jx jb dJ6_bitCount_0f7a4_45 rfl ?_
  refine lv_iadd jx jb dJ6_bitCount_0f7a4_46 ?_
  refine top_eq (y := bc5 (bc4 (bc3 (bc2 (bc1 x))))) (rfl) ?_
  refine lv_istore_n (lv' := [(0, .int (bc5 (bc4 (bc3 (bc2 (bc1 x))))))]) jx jb dJ6_bitCount_0f7a4_47 rfl hl (by decide) rfl (fun ls hl => ?_)
  refine lv_iload_n jx jb dJ6_bitCount_0f7a4_48 rfl (lv_at hl 0 rfl) ?_
  refine lv_bipush (v := 63) jx jb dJ6_bitCount_0f7a4_49 (by decide) ?_
  refine lv_iand jx jb dJ6_bitCount_0f7a4_51 ?_
  exact ret _ _ _ _ _ dJ6_bitCount_0f7a4_52 hW rfl

set_option maxHeartbeats 4000000 in
set_option maxRecDepth 100000 in
theorem c_sSize {l : Launch} {G : va_G} {cy : Nat → ClassId} {N : Nat} {ad : Nat → Nat} {g : Nat → va_E} {T : Nat} {p : Nat → Nat} {x : Nat → TT} (hS : SuAt cy N ad g T p x) : RI l G cy (N, ad, g) yX7_size cX7_size 1 (some .int) (rmN 0) [.ref (ad 9)] (nI T) := by
  refine RI.mk (by decide) (by first | rfl | exact bI_nar) (Nat.le_of_ble_eq_true rfl) ?_
  intro jp je js jm below meth jc A Q X hW ret ls hl
  have jx := X.hx
  have jb := X.hb
  have hl : lv_has ls 1 [(0, .ref (ad 9))] := hl
  have X : Cx G cy jp js jm _ jc cX7_size 1 RX7 A js.heap := X
  obtain ⟨h83, hT, hp12, hinj, ⟨ft, fm, f9, f10, f11, hft⟩, hx⟩ := id hS
  refine lv_aload_n jx jb dX7_size_0 rfl (lv_at hl 0 rfl) ?_
  refine w_get X hW K7 (by omega) f9 2 (by decide) fl_X7_21 rfl dX7_size_1 ?_
  exact ret _ _ _ _ _ dX7_size_4 hW rfl

set_option maxHeartbeats 4000000 in
set_option maxRecDepth 100000 in
theorem c_at {l : Launch} {G : va_G} {cy : Nat → ClassId} {N : Nat} {ad : Nat → Nat} {g : Nat → va_E} {T : Nat} {p : Nat → Nat} {x : Nat → TT} {i : Int32} (hS : SuAt cy N ad g T p x) : MR l G cy (N, ad, g) yX7_at cX7_at 2 (some (.object "TestsFromUse$MadeTest")) (rmN 1) [.ref (ad 9), .int i] (fun r u => r = (if 0 ≤ i ∧ i < nI T then some (ad (12 + 4 * p i.toNatClampNeg)) else none) ∧ u = (N, ad, g)) := by
  refine RR.mk (by decide) (Nat.le_of_ble_eq_true rfl) ?_
  intro jp je js jm below meth jc A Q X hW ret ls hl
  have jx := X.hx
  have jb := X.hb
  have hl : lv_has ls 2 [(0, .ref (ad 9)), (1, .int i)] := hl
  have X : Cx G cy jp js jm _ jc cX7_at 2 RX7 A js.heap := X
  obtain ⟨h83, hT, hp12, hinj, ⟨ft, fm, f9, f10, f11, hft⟩, hx⟩ := id hS
  refine lv_iload_n jx jb dX7_at_0 rfl (lv_at hl 1 rfl) ?_
  refine lv_aload_n jx jb dX7_at_1 rfl (lv_at hl 0 rfl) ?_
  refine w_get X hW K7 (by omega) f9 2 (by decide) fl_X7_21 rfl dX7_at_2 ?_
  refine w_rN (As := [.int i, .int (nI T)]) X hW (c_isBelow) mn_X7_26 mf_X8_isBelow ⟨Nat.le_of_ble_eq_true rfl, Nat.le_of_ble_eq_true rfl⟩ hl.1 rfl (Nat.le_of_ble_eq_true rfl) ⟨Nat.le_of_ble_eq_true rfl, Nat.le_of_ble_eq_true rfl⟩ dX7_at_5 (fun H locs hW => ?_)
  refine lv_if_eq (tgt := 20) jx jb dX7_at_8 (by decide) (fun c8 => ?_) (fun c8 => ?_)
  · refine lv_null jx jb dX7_at_20 ?_
    exact ret none _ _ _ _ dX7_at_21 hW (by rw [if_neg (bI_0.mp c8)])
  · obtain ⟨j, hj, ej⟩ := i_below (by omega) (bI_n0.mp c8)
    have hj12 : j < 12 := by omega
    refine lv_aload_n jx jb dX7_at_11 rfl (lv_at hl 0 rfl) ?_
    refine w_get X hW K7 (by omega) f9 0 (by decide) fl_X7_11 rfl dX7_at_12 ?_
    refine lv_iload_n jx jb dX7_at_15 rfl (lv_at hl 1 rfl) ?_
    refine w_ald X hW (by omega) (t := 3) rfl f10 j ej hj12 (by decide) dX7_at_16 ?_
    refine lv_goto (tgt := 21) jx jb dX7_at_17 (by decide) ?_
    exact ret (ft j) _ _ _ _ dX7_at_21 hW (by rw [if_pos (bI_n0.mp c8), ej, i_cl (by omega)]; exact hft j hj12)

set_option maxHeartbeats 4000000 in
set_option maxRecDepth 100000 in
theorem c_spare {l : Launch} {G : va_G} {cy : Nat → ClassId} {N : Nat} {ad : Nat → Nat} {g : Nat → va_E} {T : Nat} {p : Nat → Nat} {x : Nat → TT} (hS : SuAt cy N ad g T p x) : MR l G cy (N, ad, g) yX7_spare cX7_spare 1 (some (.object "TestsFromUse$MadeTest")) (rmN 0) [.ref (ad 9)] (fun r u => r = (if T < 12 then some (ad (12 + 4 * p T)) else none) ∧ u = (N, ad, g)) := by
  refine RR.mk (by decide) (Nat.le_of_ble_eq_true rfl) ?_
  intro jp je js jm below meth jc A Q X hW ret ls hl
  have jx := X.hx
  have jb := X.hb
  have hl : lv_has ls 1 [(0, .ref (ad 9))] := hl
  have X : Cx G cy jp js jm _ jc cX7_spare 1 RX7 A js.heap := X
  obtain ⟨h83, hT, hp12, hinj, ⟨ft, fm, f9, f10, f11, hft⟩, hx⟩ := id hS
  refine lv_aload_n jx jb dX7_spare_0 rfl (lv_at hl 0 rfl) ?_
  refine w_get X hW K7 (by omega) f9 2 (by decide) fl_X7_21 rfl dX7_spare_1 ?_
  refine lv_bipush (v := 12) jx jb dX7_spare_4 (by decide) ?_
  refine lv_icmp_ge (tgt := 21) jx jb dX7_spare_6 (by decide) (fun c6 => ?_) (fun c6 => ?_)
  · refine lv_null jx jb dX7_spare_21 ?_
    exact ret none _ _ _ _ dX7_spare_22 hW (by rw [if_neg (by have := n_le (a := 12) (by decide) (by omega) c6; omega)])
  · have hlt : T < 12 := n_nle (a := 12) (by decide) (by omega) c6
    refine lv_aload_n jx jb dX7_spare_9 rfl (lv_at hl 0 rfl) ?_
    refine w_get X hW K7 (by omega) f9 0 (by decide) fl_X7_11 rfl dX7_spare_10 ?_
    refine lv_aload_n jx jb dX7_spare_13 rfl (lv_at hl 0 rfl) ?_
    refine w_get X hW K7 (by omega) f9 2 (by decide) fl_X7_21 rfl dX7_spare_14 ?_
    refine w_ald X hW (by omega) (t := 3) rfl f10 T rfl hlt (by decide) dX7_spare_17 ?_
    refine lv_goto (tgt := 22) jx jb dX7_spare_18 (by decide) ?_
    exact ret (ft T) _ _ _ _ dX7_spare_22 hW (by rw [if_pos hlt]; exact hft T hlt)

set_option maxHeartbeats 4000000 in
set_option maxRecDepth 100000 in
theorem c_keepSpare {l : Launch} {G : va_G} {cy : Nat → ClassId} {N : Nat} {ad : Nat → Nat} {g : Nat → va_E} {T : Nat} {p : Nat → Nat} {x : Nat → TT} (hS : SuAt cy N ad g T p x) (hlt : T < 12) : MI l G cy (N, ad, g) yX7_keepSpare cX7_keepSpare 1 (some .int) (rmN 0) [.ref (ad 9)] (nA N ad (fun v g1 => v = nI T ∧ SuAt cy N ad g1 (T + 1) p x ∧ ∀ k, ¬ (9 ≤ k ∧ k < 60) → g1 k = g k)) := by
  refine NI.mk (by decide) (by intros; first | rfl | (simp_all; done)) (Nat.le_of_ble_eq_true rfl) ?_
  intro jp je js jm below meth jc A Q X hW ret ls hl
  have jx := X.hx
  have jb := X.hb
  have hl : lv_has ls 1 [(0, .ref (ad 9))] := hl
  have X : Cx G cy jp js jm _ jc cX7_keepSpare 1 RX7 A js.heap := X
  obtain ⟨h83, hT, hp12, hinj, ⟨ft, fm, f9, f10, f11, hft⟩, hx⟩ := id hS
  refine lv_aload_n jx jb dX7_keepSpare_0 rfl (lv_at hl 0 rfl) ?_
  refine w_get X hW K7 (by omega) f9 2 (by decide) fl_X7_21 rfl dX7_keepSpare_1 ?_
  refine lv_bipush (v := 12) jx jb dX7_keepSpare_4 (by decide) ?_
  refine lv_icmp_lt (tgt := 11) jx jb dX7_keepSpare_6 (by decide) (fun c6 => ?_) (fun c6 => ?_)
  · refine lv_aload_n jx jb dX7_keepSpare_11 rfl (lv_at hl 0 rfl) ?_
    refine lv_dup jx jb dX7_keepSpare_12 rfl ?_
    refine w_get X hW K7 (by omega) f9 2 (by decide) fl_X7_21 rfl dX7_keepSpare_13 ?_
    refine lv_iconst (v := 1) jx jb dX7_keepSpare_16 (by decide) ?_
    refine lv_iadd jx jb dX7_keepSpare_17 ?_
    refine top_eq (y := nI (T + 1)) (nI_1 _) ?_
    refine w_put X hW K7 (by omega) f9 2 (by decide) fl_X7_21 rfl rfl rfl (Nat.le_of_ble_eq_true rfl) dX7_keepSpare_18 (fun H locs hW => ?_)
    obtain ⟨g_1, eg_1⟩ : ∃ zz, zz = va_up g 9 (.inr (7, [.ref (ad 10), .ref (ad 11), .int (nI (T + 1))])) := ⟨_, rfl⟩
    have hW : Wd G A js.heap (N, ad, g_1) H locs := by rw [eg_1]; exact hW
    have hf2 : g_1 9 = .inr (7, [.ref (ad 10), .ref (ad 11), .int (nI (T + 1))]) := by rw [eg_1]; exact va_up_s
    have hf3 : g_1 10 = .inl (cy 3, 12, .inr (.inr (.inr (.inr ft)))) := by rw [eg_1]; exact (va_up_n (by decide)).trans f10
    have hf4 : g_1 11 = .inl (cy 0, 12, .inl fm) := by rw [eg_1]; exact (va_up_n (by decide)).trans f11
    refine lv_aload_n jx jb dX7_keepSpare_21 rfl (lv_at hl 0 rfl) ?_
    refine w_get X hW K7 (by omega) hf2 2 (by decide) fl_X7_21 rfl dX7_keepSpare_22 ?_
    refine lv_iconst (v := 1) jx jb dX7_keepSpare_25 (by decide) ?_
    refine lv_isub jx jb dX7_keepSpare_26 ?_
    exact ret _ _ _ _ _ _ dX7_keepSpare_27 hW ⟨by rw [show (1 : Int32) = nI 1 from rfl, pk_sub (by omega)]; rfl, ⟨h83, by omega, hp12, hinj, ⟨ft, fm, hf2, hf3, hf4, hft⟩, fun q hq => (hx q hq).fr (fun k hk1 hk2 => by show g_1 k = _; rw [eg_1, va_up_n (by omega)])⟩, (fun k hk => by show g_1 k = _; rw [eg_1, va_up_n (by omega)])⟩
  · exact absurd (nI_lt (b := 12) hlt (by decide)) c6

set_option maxHeartbeats 4000000 in
set_option maxRecDepth 100000 in
theorem c_hasLike {l : Launch} {G : va_G} {cy : Nat → ClassId} {N : Nat} {ad : Nat → Nat} {g : Nat → va_E} {T : Nat} {p : Nat → Nat} {x : Nat → TT} {q : Nat} (hS : SuAt cy N ad g T p x) (hq : q < 12) : RI l G cy (N, ad, g) yX7_hasLike cX7_hasLike 3 (some .boolean) (rmN 1) [.ref (ad 9), .ref (ad (12 + 4 * q))] (bI (likeK (fun i => x (p i)) (x q).1 T = true)) := by
  refine RI.mk (by decide) (by first | rfl | exact bI_nar) (Nat.le_of_ble_eq_true rfl) ?_
  intro jp je js jm below meth jc A Q X hW ret ls hl
  have jx := X.hx
  have jb := X.hb
  have hl : lv_has ls 3 [(0, .ref (ad 9)), (1, .ref (ad (12 + 4 * q)))] := hl
  have X : Cx G cy jp js jm _ jc cX7_hasLike 3 RX7 A js.heap := X
  obtain ⟨h83, hT, hp12, hinj, ⟨ft, fm, f9, f10, f11, hft⟩, hx⟩ := id hS
  obtain ⟨sf, sg, s1, sR, sc, s96, sa⟩ := hx q hq
  refine lv_iconst (v := 0) jx jb dX7_hasLike_0 (by decide) ?_
  refine lv_istore_n (lv' := [(2, .int 0), (0, .ref (ad 9)), (1, .ref (ad (12 + 4 * q)))]) jx jb dX7_hasLike_1 rfl hl (by decide) rfl (fun ls hl => ?_)
  have loop2 : ∀ (fuel2 : Nat) (k : Nat) (H : Heap) (locs : List Loc) (ls : Array Slot), (k ≤ T) → (likeK (fun i => x (p i)) (x q).1 k = false) → T - k < fuel2 → Wd G A js.heap (N, ad, g) H locs → lv_has ls 3 [(0, .ref (ad 9)), (1, .ref (ad (12 + 4 * q))), (2, .int (nI k))] → W jp l je (rmN 1) js jm [.ref (ad 9), .ref (ad (12 + 4 * q))].toArray below meth jc H locs 0 0 Q (F0 jm 2 ls []) := by
    intro fuel2
    induction fuel2 with
    | zero => intro k H locs ls hk hlk  hm2; exact absurd hm2 (Nat.not_lt_zero _)
    | succ fuel2 ih2 =>
      intro k H locs ls hk hlk  hm2 hW hl
      refine lv_iload_n jx jb dX7_hasLike_2 rfl (lv_at hl 2 rfl) ?_
      refine lv_aload_n jx jb dX7_hasLike_3 rfl (lv_at hl 0 rfl) ?_
      refine w_get X hW K7 (by omega) f9 2 (by decide) fl_X7_21 rfl dX7_hasLike_4 ?_
      refine lv_icmp_ge (tgt := 37) jx jb dX7_hasLike_7 (by decide) (fun c7 => ?_) (fun c7 => ?_)
      · refine lv_iconst (v := 0) jx jb dX7_hasLike_37 (by decide) ?_
        exact ret _ _ _ _ _ dX7_hasLike_38 hW (by have := n_le (by omega) (by omega) c7; have e : k = T := (by omega); rw [← e, hlk]; rfl)
      · have hlt : k < T := n_nle (by omega) (by omega) c7
        have hk12 : k < 12 := by omega
        have hpk := hp12 k hk12
        obtain ⟨fc, fr, t1, tR, tc, t96, ta⟩ := hx (p k) hpk
        refine lv_aload_n jx jb dX7_hasLike_10 rfl (lv_at hl 0 rfl) ?_
        refine w_get X hW K7 (by omega) f9 0 (by decide) fl_X7_11 rfl dX7_hasLike_11 ?_
        refine lv_iload_n jx jb dX7_hasLike_14 rfl (lv_at hl 2 rfl) ?_
        refine w_ald X hW (by omega) (t := 3) rfl f10 k rfl (by omega) (by decide) dX7_hasLike_15 ?_
        refine top_q (y := some (ad (12 + 4 * p k))) (hft k hk12) ?_
        refine w_getN X hW K3 (by omega) t1 0 (by decide) fn_X7_30 rfl dX7_hasLike_16 ?_
        refine lv_aload_n jx jb dX7_hasLike_19 rfl (lv_at hl 1 rfl) ?_
        refine w_getN X hW K3 (by omega) s1 0 (by decide) fn_X7_30 rfl dX7_hasLike_20 ?_
        refine w_rV (As := [.ref (ad (13 + 4 * q))]) X hW (c_hasSameCalls tR sR) tR.1 tR.2.2.2.2.2.2.2.1 rfl rfl ml_X7_34 mf_X5_hasSameCalls ⟨Nat.le_of_ble_eq_true rfl, Nat.le_of_ble_eq_true rfl⟩ hl.1 rfl (Nat.le_of_ble_eq_true rfl) ⟨Nat.le_of_ble_eq_true rfl, Nat.le_of_ble_eq_true rfl⟩ dX7_hasLike_23 (fun H locs hW => ?_)
        refine lv_if_eq (tgt := 31) jx jb dX7_hasLike_26 (by decide) (fun c26 => ?_) (fun c26 => ?_)
        · refine lv_iinc (v := nI (k + 1)) (lv' := [(2, .int (nI (k + 1))), (0, .ref (ad 9)), (1, .ref (ad (12 + 4 * q)))]) jx jb dX7_hasLike_31 hl (k := 2) rfl (show nI k + 1 = nI (k + 1) from nI_1 _) (by decide) rfl (fun ls hl => ?_)
          refine lv_goto (tgt := 2) jx jb dX7_hasLike_34 (by decide) ?_
          exact ih2 (k + 1)  _ _ _ (by omega) (by unfold likeK; rw [hlk]; simp; exact fun z => bI_0.mp c26 ((same_row tc sc t96 s96).mpr z))  (by omega) hW (lv_sub hl [1, 2, 0] rfl)
        · refine lv_iconst (v := 1) jx jb dX7_hasLike_29 (by decide) ?_
          exact ret _ _ _ _ _ dX7_hasLike_30 hW (bI_t (likeK_mono (a := k + 1) (by unfold likeK; rw [(same_row tc sc t96 s96).mp (bI_n0.mp c26)]; simp) (by omega))).symm
  exact loop2 _ 0  _ _ _ (by omega) rfl  (Nat.lt_succ_self _) hW (lv_sub hl [1, 2, 0] rfl)

set_option maxHeartbeats 4000000 in
set_option maxRecDepth 100000 in
theorem c_touchThoseThatMet {l : Launch} {G : va_G} {cy : Nat → ClassId} {N : Nat} {ad : Nat → Nat} {g : Nat → va_E} {T : Nat} {p : Nat → Nat} {x : Nat → TT} {b : Nat} (hS : SuAt cy N ad g T p x) : MV l G cy (N, ad, g) yX7_touchThoseThatMet cX7_touchThoseThatMet 3 none (rmN 0) [.ref (ad 9), .int (nI b)] (nV N ad (fun g1 => SuAt cy N ad g1 T p (mapT p (tM b) x T) ∧ ∀ k, ¬ (9 ≤ k ∧ k < 60) → g1 k = g k)) := by
  refine NV.mk (by decide) (Nat.le_of_ble_eq_true rfl) ?_
  intro jp je js jm below meth jc A Q X hW ret ls hl
  have jx := X.hx
  have jb := X.hb
  have hl : lv_has ls 3 [(0, .ref (ad 9)), (1, .int (nI b))] := hl
  have X : Cx G cy jp js jm _ jc cX7_touchThoseThatMet 3 RX7 A js.heap := X
  obtain ⟨h83, hT, hp12, hinj, -, -⟩ := id hS
  refine lv_iconst (v := 0) jx jb dX7_touchThoseThatMet_0 (by decide) ?_
  refine lv_istore_n (lv' := [(2, .int 0), (0, .ref (ad 9)), (1, .int (nI b))]) jx jb dX7_touchThoseThatMet_1 rfl hl (by decide) rfl (fun ls hl => ?_)
  have loop2 : ∀ (fuel2 : Nat) (k : Nat) (gL2 : Nat → va_E) (H : Heap) (locs : List Loc) (ls : Array Slot), (k ≤ T) → (SuAt cy N ad gL2 T p (mapT p (tM b) x k)) → (∀ k, ¬ (9 ≤ k ∧ k < 60) → gL2 k = g k) → T - k < fuel2 → Wd G A js.heap (N, ad, gL2) H locs → lv_has ls 3 [(0, .ref (ad 9)), (1, .int (nI b)), (2, .int (nI k))] → W jp l je (rmN 0) js jm [.ref (ad 9), .int (nI b)].toArray below meth jc H locs 0 0 Q (F0 jm 2 ls []) := by
    intro fuel2
    induction fuel2 with
    | zero => intro k gL2 H locs ls hk hS hfr  hm2; exact absurd hm2 (Nat.not_lt_zero _)
    | succ fuel2 ih2 =>
      intro k gL2 H locs ls hk hS hfr  hm2 hW hl
      obtain ⟨-, -, -, -, ⟨ft, fm, f9, f10, f11, hft⟩, hx⟩ := id hS
      refine lv_iload_n jx jb dX7_touchThoseThatMet_2 rfl (lv_at hl 2 rfl) ?_
      refine lv_aload_n jx jb dX7_touchThoseThatMet_3 rfl (lv_at hl 0 rfl) ?_
      refine w_get X hW K7 (by omega) f9 2 (by decide) fl_X7_21 rfl dX7_touchThoseThatMet_4 ?_
      refine lv_icmp_ge (tgt := 52) jx jb dX7_touchThoseThatMet_7 (by decide) (fun c7 => ?_) (fun c7 => ?_)
      · exact ret _ _ _ _ _ dX7_touchThoseThatMet_52 hW (by have := n_le (by omega) (by omega) c7; have e : k = T := (by omega); rw [e] at hS; exact ⟨hS, hfr⟩)
      · have hlt : k < T := n_nle (by omega) (by omega) c7
        have hk12 : k < 12 := by omega
        have hpk := hp12 k hk12
        obtain ⟨fc, fr, t1, tR, tc, t96, ta⟩ := hx (p k) hpk
        refine lv_aload_n jx jb dX7_touchThoseThatMet_10 rfl (lv_at hl 0 rfl) ?_
        refine w_get X hW K7 (by omega) f9 0 (by decide) fl_X7_11 rfl dX7_touchThoseThatMet_11 ?_
        refine lv_iload_n jx jb dX7_touchThoseThatMet_14 rfl (lv_at hl 2 rfl) ?_
        refine w_ald X hW (by omega) (t := 3) rfl f10 k rfl (by omega) (by decide) dX7_touchThoseThatMet_15 ?_
        refine top_q (y := some (ad (12 + 4 * p k))) (hft k hk12) ?_
        refine lv_dup jx jb dX7_touchThoseThatMet_16 rfl ?_
        refine w_getN X hW K3 (by omega) t1 2 (by decide) fn_X7_40 rfl dX7_touchThoseThatMet_17 ?_
        refine lv_aload_n jx jb dX7_touchThoseThatMet_20 rfl (lv_at hl 0 rfl) ?_
        refine w_get X hW K7 (by omega) f9 0 (by decide) fl_X7_11 rfl dX7_touchThoseThatMet_21 ?_
        refine lv_iload_n jx jb dX7_touchThoseThatMet_24 rfl (lv_at hl 2 rfl) ?_
        refine w_ald X hW (by omega) (t := 3) rfl f10 k rfl (by omega) (by decide) dX7_touchThoseThatMet_25 ?_
        refine top_q (y := some (ad (12 + 4 * p k))) (hft k hk12) ?_
        refine w_getN X hW K3 (by omega) t1 1 (by decide) fn_X7_44 rfl dX7_touchThoseThatMet_26 ?_
        refine lv_iload_n jx jb dX7_touchThoseThatMet_29 rfl (lv_at hl 1 rfl) ?_
        refine lv_ishr jx jb dX7_touchThoseThatMet_30 ?_
        refine lv_iconst (v := 1) jx jb dX7_touchThoseThatMet_31 (by decide) ?_
        refine lv_iand jx jb dX7_touchThoseThatMet_32 ?_
        refine lv_iconst (v := 1) jx jb dX7_touchThoseThatMet_33 (by decide) ?_
        refine lv_icmp_ne (tgt := 41) jx jb dX7_touchThoseThatMet_34 (by decide) (fun c34 => ?_) (fun c34 => ?_)
        · refine lv_iconst (v := 0) jx jb dX7_touchThoseThatMet_41 (by decide) ?_
          refine lv_ior jx jb dX7_touchThoseThatMet_42 ?_
          refine top_eq (y := bI ((tM b (mapT p (tM b) x k (p k))).2.2.2.1 = true)) (by unfold tM; rw [← bor, bI_f (b := decide _ = true) (by rw [decide_eq_true_eq]; exact c34)]) ?_
          refine w_putN X hW K3 (by omega) t1 2 (by decide) fn_X7_40 rfl bI_nar bI_fit (Nat.le_of_ble_eq_true rfl) dX7_touchThoseThatMet_43 (fun H locs hW => ?_)
          obtain ⟨g_1, eg_1⟩ : ∃ zz, zz = va_up gL2 (12 + 4 * p k) (.inr (3, [.ref (ad (13 + 4 * p k)), .int ((mapT p (tM b) x k (p k)).2.2.1), .int (bI ((tM b (mapT p (tM b) x k (p k))).2.2.2.1 = true)), .int (bI ((mapT p (tM b) x k (p k)).2.2.2.2 = true))])) := ⟨_, rfl⟩
          have hW : Wd G A js.heap (N, ad, g_1) H locs := by rw [eg_1]; exact hW
          have hf2 : g_1 9 = .inr (7, [.ref (ad 10), .ref (ad 11), .int (nI T)]) := by rw [eg_1]; exact (va_up_n (by omega)).trans f9
          have hf3 : g_1 10 = .inl (cy 3, 12, .inr (.inr (.inr (.inr ft)))) := by rw [eg_1]; exact (va_up_n (by omega)).trans f10
          have hf4 : g_1 11 = .inl (cy 0, 12, .inl fm) := by rw [eg_1]; exact (va_up_n (by omega)).trans f11
          have hf5 : g_1 (12 + 4 * p k) = .inr (3, [.ref (ad (13 + 4 * p k)), .int ((mapT p (tM b) x k (p k)).2.2.1), .int (bI ((tM b (mapT p (tM b) x k (p k))).2.2.2.1 = true)), .int (bI ((mapT p (tM b) x k (p k)).2.2.2.2 = true))]) := by rw [eg_1]; exact va_up_s
          refine lv_iinc (v := nI (k + 1)) (lv' := [(2, .int (nI (k + 1))), (0, .ref (ad 9)), (1, .int (nI b))]) jx jb dX7_touchThoseThatMet_46 hl (k := 2) rfl (show nI k + 1 = nI (k + 1) from nI_1 _) (by decide) rfl (fun ls hl => ?_)
          refine lv_goto (tgt := 2) jx jb dX7_touchThoseThatMet_49 (by decide) ?_
          have hS1 : SuAt cy N ad g_1 T p (mapT p (tM b) x (k + 1)) := hS.put (fun j j1 j2 j3 j4 j5 j6 => by show g_1 j = _; rw [eg_1, va_up_n (by omega)]) ⟨fc, fr, hf5, tR.fr (by rw [eg_1, va_up_n (by omega)]) (by rw [eg_1, va_up_n (by omega)]) (by rw [eg_1, va_up_n (by omega)]), tc, t96, ta⟩
          exact ih2 (k + 1) g_1 _ _ _ (by omega) hS1 (fun k hk => by show g_1 k = _; rw [eg_1, va_up_n (by omega), hfr k (by omega)])  (by omega) hW (lv_sub hl [1, 2, 0] rfl)
        · refine lv_iconst (v := 1) jx jb dX7_touchThoseThatMet_37 (by decide) ?_
          refine lv_goto (tgt := 42) jx jb dX7_touchThoseThatMet_38 (by decide) ?_
          refine lv_ior jx jb dX7_touchThoseThatMet_42 ?_
          refine top_eq (y := bI ((tM b (mapT p (tM b) x k (p k))).2.2.2.1 = true)) (by unfold tM; rw [← bor, bI_t (b := decide _ = true) (by rw [decide_eq_true_eq]; exact c34)]) ?_
          refine w_putN X hW K3 (by omega) t1 2 (by decide) fn_X7_40 rfl bI_nar bI_fit (Nat.le_of_ble_eq_true rfl) dX7_touchThoseThatMet_43 (fun H locs hW => ?_)
          obtain ⟨g_6, eg_6⟩ : ∃ zz, zz = va_up gL2 (12 + 4 * p k) (.inr (3, [.ref (ad (13 + 4 * p k)), .int ((mapT p (tM b) x k (p k)).2.2.1), .int (bI ((tM b (mapT p (tM b) x k (p k))).2.2.2.1 = true)), .int (bI ((mapT p (tM b) x k (p k)).2.2.2.2 = true))])) := ⟨_, rfl⟩
          have hW : Wd G A js.heap (N, ad, g_6) H locs := by rw [eg_6]; exact hW
          have hf7 : g_6 9 = .inr (7, [.ref (ad 10), .ref (ad 11), .int (nI T)]) := by rw [eg_6]; exact (va_up_n (by omega)).trans f9
          have hf8 : g_6 10 = .inl (cy 3, 12, .inr (.inr (.inr (.inr ft)))) := by rw [eg_6]; exact (va_up_n (by omega)).trans f10
          have hf9 : g_6 11 = .inl (cy 0, 12, .inl fm) := by rw [eg_6]; exact (va_up_n (by omega)).trans f11
          have hf10 : g_6 (12 + 4 * p k) = .inr (3, [.ref (ad (13 + 4 * p k)), .int ((mapT p (tM b) x k (p k)).2.2.1), .int (bI ((tM b (mapT p (tM b) x k (p k))).2.2.2.1 = true)), .int (bI ((mapT p (tM b) x k (p k)).2.2.2.2 = true))]) := by rw [eg_6]; exact va_up_s
          refine lv_iinc (v := nI (k + 1)) (lv' := [(2, .int (nI (k + 1))), (0, .ref (ad 9)), (1, .int (nI b))]) jx jb dX7_touchThoseThatMet_46 hl (k := 2) rfl (show nI k + 1 = nI (k + 1) from nI_1 _) (by decide) rfl (fun ls hl => ?_)
          refine lv_goto (tgt := 2) jx jb dX7_touchThoseThatMet_49 (by decide) ?_
          have hS1 : SuAt cy N ad g_6 T p (mapT p (tM b) x (k + 1)) := hS.put (fun j j1 j2 j3 j4 j5 j6 => by show g_6 j = _; rw [eg_6, va_up_n (by omega)]) ⟨fc, fr, hf10, tR.fr (by rw [eg_6, va_up_n (by omega)]) (by rw [eg_6, va_up_n (by omega)]) (by rw [eg_6, va_up_n (by omega)]), tc, t96, ta⟩
          exact ih2 (k + 1) g_6 _ _ _ (by omega) hS1 (fun k hk => by show g_6 k = _; rw [eg_6, va_up_n (by omega), hfr k (by omega)])  (by omega) hW (lv_sub hl [1, 2, 0] rfl)
  exact loop2 _ 0 g _ _ _ (by omega) hS (fun k hk => rfl)  (Nat.lt_succ_self _) hW (lv_sub hl [1, 2, 0] rfl)

set_option maxHeartbeats 4000000 in
set_option maxRecDepth 100000 in
theorem c_touchCallersOf {l : Launch} {G : va_G} {cy : Nat → ClassId} {N : Nat} {ad : Nat → Nat} {g : Nat → va_E} {T : Nat} {p : Nat → Nat} {x : Nat → TT} {b : Nat} (hS : SuAt cy N ad g T p x) (hb6 : b < 6) : MV l G cy (N, ad, g) yX7_touchCallersOf cX7_touchCallersOf 3 none (rmN 2) [.ref (ad 9), .int (nI b)] (nV N ad (fun g1 => SuAt cy N ad g1 T p (mapT p (tK b) x T) ∧ ∀ k, ¬ (9 ≤ k ∧ k < 60) → g1 k = g k)) := by
  refine NV.mk (by decide) (Nat.le_of_ble_eq_true rfl) ?_
  intro jp je js jm below meth jc A Q X hW ret ls hl
  have jx := X.hx
  have jb := X.hb
  have hl : lv_has ls 3 [(0, .ref (ad 9)), (1, .int (nI b))] := hl
  have X : Cx G cy jp js jm _ jc cX7_touchCallersOf 3 RX7 A js.heap := X
  obtain ⟨h83, hT, hp12, hinj, -, -⟩ := id hS
  refine lv_iconst (v := 0) jx jb dX7_touchCallersOf_0 (by decide) ?_
  refine lv_istore_n (lv' := [(2, .int 0), (0, .ref (ad 9)), (1, .int (nI b))]) jx jb dX7_touchCallersOf_1 rfl hl (by decide) rfl (fun ls hl => ?_)
  have loop2 : ∀ (fuel2 : Nat) (k : Nat) (gL2 : Nat → va_E) (H : Heap) (locs : List Loc) (ls : Array Slot), (k ≤ T) → (SuAt cy N ad gL2 T p (mapT p (tK b) x k)) → (∀ k, ¬ (9 ≤ k ∧ k < 60) → gL2 k = g k) → T - k < fuel2 → Wd G A js.heap (N, ad, gL2) H locs → lv_has ls 3 [(0, .ref (ad 9)), (1, .int (nI b)), (2, .int (nI k))] → W jp l je (rmN 2) js jm [.ref (ad 9), .int (nI b)].toArray below meth jc H locs 0 0 Q (F0 jm 2 ls []) := by
    intro fuel2
    induction fuel2 with
    | zero => intro k gL2 H locs ls hk hS hfr  hm2; exact absurd hm2 (Nat.not_lt_zero _)
    | succ fuel2 ih2 =>
      intro k gL2 H locs ls hk hS hfr  hm2 hW hl
      obtain ⟨-, -, -, -, ⟨ft, fm, f9, f10, f11, hft⟩, hx⟩ := id hS
      refine lv_iload_n jx jb dX7_touchCallersOf_2 rfl (lv_at hl 2 rfl) ?_
      refine lv_aload_n jx jb dX7_touchCallersOf_3 rfl (lv_at hl 0 rfl) ?_
      refine w_get X hW K7 (by omega) f9 2 (by decide) fl_X7_21 rfl dX7_touchCallersOf_4 ?_
      refine lv_icmp_ge (tgt := 43) jx jb dX7_touchCallersOf_7 (by decide) (fun c7 => ?_) (fun c7 => ?_)
      · exact ret _ _ _ _ _ dX7_touchCallersOf_43 hW (by have := n_le (by omega) (by omega) c7; have e : k = T := (by omega); rw [e] at hS; exact ⟨hS, hfr⟩)
      · have hlt : k < T := n_nle (by omega) (by omega) c7
        have hk12 : k < 12 := by omega
        have hpk := hp12 k hk12
        obtain ⟨fc, fr, t1, tR, tc, t96, ta⟩ := hx (p k) hpk
        refine lv_aload_n jx jb dX7_touchCallersOf_10 rfl (lv_at hl 0 rfl) ?_
        refine w_get X hW K7 (by omega) f9 0 (by decide) fl_X7_11 rfl dX7_touchCallersOf_11 ?_
        refine lv_iload_n jx jb dX7_touchCallersOf_14 rfl (lv_at hl 2 rfl) ?_
        refine w_ald X hW (by omega) (t := 3) rfl f10 k rfl (by omega) (by decide) dX7_touchCallersOf_15 ?_
        refine top_q (y := some (ad (12 + 4 * p k))) (hft k hk12) ?_
        refine lv_dup jx jb dX7_touchCallersOf_16 rfl ?_
        refine w_getN X hW K3 (by omega) t1 2 (by decide) fn_X7_40 rfl dX7_touchCallersOf_17 ?_
        refine lv_aload_n jx jb dX7_touchCallersOf_20 rfl (lv_at hl 0 rfl) ?_
        refine w_get X hW K7 (by omega) f9 0 (by decide) fl_X7_11 rfl dX7_touchCallersOf_21 ?_
        refine lv_iload_n jx jb dX7_touchCallersOf_24 rfl (lv_at hl 2 rfl) ?_
        refine w_ald X hW (by omega) (t := 3) rfl f10 k rfl (by omega) (by decide) dX7_touchCallersOf_25 ?_
        refine top_q (y := some (ad (12 + 4 * p k))) (hft k hk12) ?_
        refine w_getN X hW K3 (by omega) t1 0 (by decide) fn_X7_30 rfl dX7_touchCallersOf_26 ?_
        refine lv_iload_n jx jb dX7_touchCallersOf_29 rfl (lv_at hl 1 rfl) ?_
        refine w_rV (As := [.int (nI b)]) X hW (c_hasCallOf tR (fun i hi => ⟨tc i hi, t96 _ (gl_mem hi)⟩) hb6) tR.1 tR.2.2.2.2.2.2.2.1 rfl rfl ml_X7_47 mf_X5_hasCallOf ⟨Nat.le_of_ble_eq_true rfl, Nat.le_of_ble_eq_true rfl⟩ hl.1 rfl (Nat.le_of_ble_eq_true rfl) ⟨Nat.le_of_ble_eq_true rfl, Nat.le_of_ble_eq_true rfl⟩ dX7_touchCallersOf_30 (fun H locs hW => ?_)
        refine lv_ior jx jb dX7_touchCallersOf_33 ?_
        refine top_eq (y := bI ((tK b (mapT p (tK b) x k (p k))).2.2.2.1 = true)) (by unfold tK; rw [← bor]) ?_
        refine w_putN X hW K3 (by omega) t1 2 (by decide) fn_X7_40 rfl bI_nar bI_fit (Nat.le_of_ble_eq_true rfl) dX7_touchCallersOf_34 (fun H locs hW => ?_)
        obtain ⟨g_1, eg_1⟩ : ∃ zz, zz = va_up gL2 (12 + 4 * p k) (.inr (3, [.ref (ad (13 + 4 * p k)), .int ((mapT p (tK b) x k (p k)).2.2.1), .int (bI ((tK b (mapT p (tK b) x k (p k))).2.2.2.1 = true)), .int (bI ((mapT p (tK b) x k (p k)).2.2.2.2 = true))])) := ⟨_, rfl⟩
        have hW : Wd G A js.heap (N, ad, g_1) H locs := by rw [eg_1]; exact hW
        have hf2 : g_1 9 = .inr (7, [.ref (ad 10), .ref (ad 11), .int (nI T)]) := by rw [eg_1]; exact (va_up_n (by omega)).trans f9
        have hf3 : g_1 10 = .inl (cy 3, 12, .inr (.inr (.inr (.inr ft)))) := by rw [eg_1]; exact (va_up_n (by omega)).trans f10
        have hf4 : g_1 11 = .inl (cy 0, 12, .inl fm) := by rw [eg_1]; exact (va_up_n (by omega)).trans f11
        have hf5 : g_1 (12 + 4 * p k) = .inr (3, [.ref (ad (13 + 4 * p k)), .int ((mapT p (tK b) x k (p k)).2.2.1), .int (bI ((tK b (mapT p (tK b) x k (p k))).2.2.2.1 = true)), .int (bI ((mapT p (tK b) x k (p k)).2.2.2.2 = true))]) := by rw [eg_1]; exact va_up_s
        refine lv_iinc (v := nI (k + 1)) (lv' := [(2, .int (nI (k + 1))), (0, .ref (ad 9)), (1, .int (nI b))]) jx jb dX7_touchCallersOf_37 hl (k := 2) rfl (show nI k + 1 = nI (k + 1) from nI_1 _) (by decide) rfl (fun ls hl => ?_)
        refine lv_goto (tgt := 2) jx jb dX7_touchCallersOf_40 (by decide) ?_
        have hS1 : SuAt cy N ad g_1 T p (mapT p (tK b) x (k + 1)) := hS.put (fun j j1 j2 j3 j4 j5 j6 => by show g_1 j = _; rw [eg_1, va_up_n (by omega)]) ⟨fc, fr, hf5, tR.fr (by rw [eg_1, va_up_n (by omega)]) (by rw [eg_1, va_up_n (by omega)]) (by rw [eg_1, va_up_n (by omega)]), tc, t96, ta⟩
        exact ih2 (k + 1) g_1 _ _ _ (by omega) hS1 (fun k hk => by show g_1 k = _; rw [eg_1, va_up_n (by omega), hfr k (by omega)])  (by omega) hW (lv_sub hl [1, 2, 0] rfl)
  exact loop2 _ 0 g _ _ _ (by omega) hS (fun k hk => rfl)  (Nat.lt_succ_self _) hW (lv_sub hl [1, 2, 0] rfl)

set_option maxHeartbeats 4000000 in
set_option maxRecDepth 100000 in
theorem c_touchedOnes {l : Launch} {G : va_G} {cy : Nat → ClassId} {N : Nat} {ad : Nat → Nat} {g : Nat → va_E} {T : Nat} {p : Nat → Nat} {x : Nat → TT} (hS : SuAt cy N ad g T p x) : RI l G cy (N, ad, g) yX7_touchedOnes cX7_touchedOnes 3 (some .int) (rmN 0) [.ref (ad 9)] (nI (cntB (fun i => (x (p i)).2.2.2.1) T)) := by
  refine RI.mk (by decide) (by first | rfl | exact bI_nar) (Nat.le_of_ble_eq_true rfl) ?_
  intro jp je js jm below meth jc A Q X hW ret ls hl
  have jx := X.hx
  have jb := X.hb
  have hl : lv_has ls 3 [(0, .ref (ad 9))] := hl
  have X : Cx G cy jp js jm _ jc cX7_touchedOnes 3 RX7 A js.heap := X
  obtain ⟨h83, hT, hp12, hinj, ⟨ft, fm, f9, f10, f11, hft⟩, hx⟩ := id hS
  refine lv_iconst (v := 0) jx jb dX7_touchedOnes_0 (by decide) ?_
  refine lv_istore_n (lv' := [(1, .int 0), (0, .ref (ad 9))]) jx jb dX7_touchedOnes_1 rfl hl (by decide) rfl (fun ls hl => ?_)
  refine lv_iconst (v := 0) jx jb dX7_touchedOnes_2 (by decide) ?_
  refine lv_istore_n (lv' := [(2, .int 0), (1, .int 0), (0, .ref (ad 9))]) jx jb dX7_touchedOnes_3 rfl hl (by decide) rfl (fun ls hl => ?_)
  have loop4 : ∀ (fuel4 : Nat) (k : Nat) (H : Heap) (locs : List Loc) (ls : Array Slot), (k ≤ T) → T - k < fuel4 → Wd G A js.heap (N, ad, g) H locs → lv_has ls 3 [(0, .ref (ad 9)), (1, .int (nI (cntB (fun i => (x (p i)).2.2.2.1) k))), (2, .int (nI k))] → W jp l je (rmN 0) js jm [.ref (ad 9)].toArray below meth jc H locs 0 0 Q (F0 jm 4 ls []) := by
    intro fuel4
    induction fuel4 with
    | zero => intro k H locs ls hk  hm4; exact absurd hm4 (Nat.not_lt_zero _)
    | succ fuel4 ih4 =>
      intro k H locs ls hk  hm4 hW hl
      refine lv_iload_n jx jb dX7_touchedOnes_4 rfl (lv_at hl 2 rfl) ?_
      refine lv_aload_n jx jb dX7_touchedOnes_5 rfl (lv_at hl 0 rfl) ?_
      refine w_get X hW K7 (by omega) f9 2 (by decide) fl_X7_21 rfl dX7_touchedOnes_6 ?_
      refine lv_icmp_ge (tgt := 38) jx jb dX7_touchedOnes_9 (by decide) (fun c9 => ?_) (fun c9 => ?_)
      · refine lv_iload_n jx jb dX7_touchedOnes_38 rfl (lv_at hl 1 rfl) ?_
        exact ret _ _ _ _ _ dX7_touchedOnes_39 hW (by have := n_le (by omega) (by omega) c9; rw [show k = T by omega])
      · have hlt : k < T := n_nle (by omega) (by omega) c9
        have hk12 : k < 12 := by omega
        have hpk := hp12 k hk12
        obtain ⟨fc, fr, t1, tR, tc, t96, ta⟩ := hx (p k) hpk
        refine lv_iload_n jx jb dX7_touchedOnes_12 rfl (lv_at hl 1 rfl) ?_
        refine lv_aload_n jx jb dX7_touchedOnes_13 rfl (lv_at hl 0 rfl) ?_
        refine w_get X hW K7 (by omega) f9 0 (by decide) fl_X7_11 rfl dX7_touchedOnes_14 ?_
        refine lv_iload_n jx jb dX7_touchedOnes_17 rfl (lv_at hl 2 rfl) ?_
        refine w_ald X hW (by omega) (t := 3) rfl f10 k rfl (by omega) (by decide) dX7_touchedOnes_18 ?_
        refine top_q (y := some (ad (12 + 4 * p k))) (hft k hk12) ?_
        refine w_getN X hW K3 (by omega) t1 2 (by decide) fn_X7_40 rfl dX7_touchedOnes_19 ?_
        refine lv_if_eq (tgt := 29) jx jb dX7_touchedOnes_22 (by decide) (fun c22 => ?_) (fun c22 => ?_)
        · refine lv_iconst (v := 0) jx jb dX7_touchedOnes_29 (by decide) ?_
          refine lv_iadd jx jb dX7_touchedOnes_30 ?_
          refine top_eq (y := nI (cntB (fun i => (x (p i)).2.2.2.1) (k + 1))) (by rw [show cntB (fun i => (x (p i)).2.2.2.1) (k + 1) = cntB (fun i => (x (p i)).2.2.2.1) k + (if (x (p k)).2.2.2.1 = true then 1 else 0) from rfl, if_neg (bI_0.mp c22), ← nI_add]; rfl) ?_
          refine lv_istore_n (lv' := [(1, .int (nI (cntB (fun i => (x (p i)).2.2.2.1) (k + 1)))), (0, .ref (ad 9)), (2, .int (nI k))]) jx jb dX7_touchedOnes_31 rfl hl (by decide) rfl (fun ls hl => ?_)
          refine lv_iinc (v := nI (k + 1)) (lv' := [(2, .int (nI (k + 1))), (1, .int (nI (cntB (fun i => (x (p i)).2.2.2.1) (k + 1)))), (0, .ref (ad 9))]) jx jb dX7_touchedOnes_32 hl (k := 2) rfl (show nI k + 1 = nI (k + 1) from nI_1 _) (by decide) rfl (fun ls hl => ?_)
          refine lv_goto (tgt := 4) jx jb dX7_touchedOnes_35 (by decide) ?_
          exact ih4 (k + 1)  _ _ _ (by omega)  (by omega) hW (lv_sub hl [2, 1, 0] rfl)
        · refine lv_iconst (v := 1) jx jb dX7_touchedOnes_25 (by decide) ?_
          refine lv_goto (tgt := 30) jx jb dX7_touchedOnes_26 (by decide) ?_
          refine lv_iadd jx jb dX7_touchedOnes_30 ?_
          refine top_eq (y := nI (cntB (fun i => (x (p i)).2.2.2.1) (k + 1))) (by rw [show cntB (fun i => (x (p i)).2.2.2.1) (k + 1) = cntB (fun i => (x (p i)).2.2.2.1) k + (if (x (p k)).2.2.2.1 = true then 1 else 0) from rfl, if_pos (bI_n0.mp c22), ← nI_add]; rfl) ?_
          refine lv_istore_n (lv' := [(1, .int (nI (cntB (fun i => (x (p i)).2.2.2.1) (k + 1)))), (0, .ref (ad 9)), (2, .int (nI k))]) jx jb dX7_touchedOnes_31 rfl hl (by decide) rfl (fun ls hl => ?_)
          refine lv_iinc (v := nI (k + 1)) (lv' := [(2, .int (nI (k + 1))), (1, .int (nI (cntB (fun i => (x (p i)).2.2.2.1) (k + 1)))), (0, .ref (ad 9))]) jx jb dX7_touchedOnes_32 hl (k := 2) rfl (show nI k + 1 = nI (k + 1) from nI_1 _) (by decide) rfl (fun ls hl => ?_)
          refine lv_goto (tgt := 4) jx jb dX7_touchedOnes_35 (by decide) ?_
          exact ih4 (k + 1)  _ _ _ (by omega)  (by omega) hW (lv_sub hl [2, 1, 0] rfl)
  exact loop4 _ 0  _ _ _ (by omega)  (Nat.lt_succ_self _) hW (lv_sub hl [2, 1, 0] rfl)

set_option maxHeartbeats 4000000 in
set_option maxRecDepth 100000 in
theorem c_brokenOnes {l : Launch} {G : va_G} {cy : Nat → ClassId} {N : Nat} {ad : Nat → Nat} {g : Nat → va_E} {T : Nat} {p : Nat → Nat} {x : Nat → TT} (hS : SuAt cy N ad g T p x) : RI l G cy (N, ad, g) yX7_brokenOnes cX7_brokenOnes 3 (some .int) (rmN 0) [.ref (ad 9)] (nI (cntB (fun i => (x (p i)).2.2.2.2) T)) := by
  refine RI.mk (by decide) (by first | rfl | exact bI_nar) (Nat.le_of_ble_eq_true rfl) ?_
  intro jp je js jm below meth jc A Q X hW ret ls hl
  have jx := X.hx
  have jb := X.hb
  have hl : lv_has ls 3 [(0, .ref (ad 9))] := hl
  have X : Cx G cy jp js jm _ jc cX7_brokenOnes 3 RX7 A js.heap := X
  obtain ⟨h83, hT, hp12, hinj, ⟨ft, fm, f9, f10, f11, hft⟩, hx⟩ := id hS
  refine lv_iconst (v := 0) jx jb dX7_brokenOnes_0 (by decide) ?_
  refine lv_istore_n (lv' := [(1, .int 0), (0, .ref (ad 9))]) jx jb dX7_brokenOnes_1 rfl hl (by decide) rfl (fun ls hl => ?_)
  refine lv_iconst (v := 0) jx jb dX7_brokenOnes_2 (by decide) ?_
  refine lv_istore_n (lv' := [(2, .int 0), (1, .int 0), (0, .ref (ad 9))]) jx jb dX7_brokenOnes_3 rfl hl (by decide) rfl (fun ls hl => ?_)
  have loop4 : ∀ (fuel4 : Nat) (k : Nat) (H : Heap) (locs : List Loc) (ls : Array Slot), (k ≤ T) → T - k < fuel4 → Wd G A js.heap (N, ad, g) H locs → lv_has ls 3 [(0, .ref (ad 9)), (1, .int (nI (cntB (fun i => (x (p i)).2.2.2.2) k))), (2, .int (nI k))] → W jp l je (rmN 0) js jm [.ref (ad 9)].toArray below meth jc H locs 0 0 Q (F0 jm 4 ls []) := by
    intro fuel4
    induction fuel4 with
    | zero => intro k H locs ls hk  hm4; exact absurd hm4 (Nat.not_lt_zero _)
    | succ fuel4 ih4 =>
      intro k H locs ls hk  hm4 hW hl
      refine lv_iload_n jx jb dX7_brokenOnes_4 rfl (lv_at hl 2 rfl) ?_
      refine lv_aload_n jx jb dX7_brokenOnes_5 rfl (lv_at hl 0 rfl) ?_
      refine w_get X hW K7 (by omega) f9 2 (by decide) fl_X7_21 rfl dX7_brokenOnes_6 ?_
      refine lv_icmp_ge (tgt := 38) jx jb dX7_brokenOnes_9 (by decide) (fun c9 => ?_) (fun c9 => ?_)
      · refine lv_iload_n jx jb dX7_brokenOnes_38 rfl (lv_at hl 1 rfl) ?_
        exact ret _ _ _ _ _ dX7_brokenOnes_39 hW (by have := n_le (by omega) (by omega) c9; rw [show k = T by omega])
      · have hlt : k < T := n_nle (by omega) (by omega) c9
        have hk12 : k < 12 := by omega
        have hpk := hp12 k hk12
        obtain ⟨fc, fr, t1, tR, tc, t96, ta⟩ := hx (p k) hpk
        refine lv_iload_n jx jb dX7_brokenOnes_12 rfl (lv_at hl 1 rfl) ?_
        refine lv_aload_n jx jb dX7_brokenOnes_13 rfl (lv_at hl 0 rfl) ?_
        refine w_get X hW K7 (by omega) f9 0 (by decide) fl_X7_11 rfl dX7_brokenOnes_14 ?_
        refine lv_iload_n jx jb dX7_brokenOnes_17 rfl (lv_at hl 2 rfl) ?_
        refine w_ald X hW (by omega) (t := 3) rfl f10 k rfl (by omega) (by decide) dX7_brokenOnes_18 ?_
        refine top_q (y := some (ad (12 + 4 * p k))) (hft k hk12) ?_
        refine w_getN X hW K3 (by omega) t1 3 (by decide) fn_X7_51 rfl dX7_brokenOnes_19 ?_
        refine lv_if_eq (tgt := 29) jx jb dX7_brokenOnes_22 (by decide) (fun c22 => ?_) (fun c22 => ?_)
        · refine lv_iconst (v := 0) jx jb dX7_brokenOnes_29 (by decide) ?_
          refine lv_iadd jx jb dX7_brokenOnes_30 ?_
          refine top_eq (y := nI (cntB (fun i => (x (p i)).2.2.2.2) (k + 1))) (by rw [show cntB (fun i => (x (p i)).2.2.2.2) (k + 1) = cntB (fun i => (x (p i)).2.2.2.2) k + (if (x (p k)).2.2.2.2 = true then 1 else 0) from rfl, if_neg (bI_0.mp c22), ← nI_add]; rfl) ?_
          refine lv_istore_n (lv' := [(1, .int (nI (cntB (fun i => (x (p i)).2.2.2.2) (k + 1)))), (0, .ref (ad 9)), (2, .int (nI k))]) jx jb dX7_brokenOnes_31 rfl hl (by decide) rfl (fun ls hl => ?_)
          refine lv_iinc (v := nI (k + 1)) (lv' := [(2, .int (nI (k + 1))), (1, .int (nI (cntB (fun i => (x (p i)).2.2.2.2) (k + 1)))), (0, .ref (ad 9))]) jx jb dX7_brokenOnes_32 hl (k := 2) rfl (show nI k + 1 = nI (k + 1) from nI_1 _) (by decide) rfl (fun ls hl => ?_)
          refine lv_goto (tgt := 4) jx jb dX7_brokenOnes_35 (by decide) ?_
          exact ih4 (k + 1)  _ _ _ (by omega)  (by omega) hW (lv_sub hl [2, 1, 0] rfl)
        · refine lv_iconst (v := 1) jx jb dX7_brokenOnes_25 (by decide) ?_
          refine lv_goto (tgt := 30) jx jb dX7_brokenOnes_26 (by decide) ?_
          refine lv_iadd jx jb dX7_brokenOnes_30 ?_
          refine top_eq (y := nI (cntB (fun i => (x (p i)).2.2.2.2) (k + 1))) (by rw [show cntB (fun i => (x (p i)).2.2.2.2) (k + 1) = cntB (fun i => (x (p i)).2.2.2.2) k + (if (x (p k)).2.2.2.2 = true then 1 else 0) from rfl, if_pos (bI_n0.mp c22), ← nI_add]; rfl) ?_
          refine lv_istore_n (lv' := [(1, .int (nI (cntB (fun i => (x (p i)).2.2.2.2) (k + 1)))), (0, .ref (ad 9)), (2, .int (nI k))]) jx jb dX7_brokenOnes_31 rfl hl (by decide) rfl (fun ls hl => ?_)
          refine lv_iinc (v := nI (k + 1)) (lv' := [(2, .int (nI (k + 1))), (1, .int (nI (cntB (fun i => (x (p i)).2.2.2.2) (k + 1)))), (0, .ref (ad 9))]) jx jb dX7_brokenOnes_32 hl (k := 2) rfl (show nI k + 1 = nI (k + 1) from nI_1 _) (by decide) rfl (fun ls hl => ?_)
          refine lv_goto (tgt := 4) jx jb dX7_brokenOnes_35 (by decide) ?_
          exact ih4 (k + 1)  _ _ _ (by omega)  (by omega) hW (lv_sub hl [2, 1, 0] rfl)
  exact loop4 _ 0  _ _ _ (by omega)  (Nat.lt_succ_self _) hW (lv_sub hl [2, 1, 0] rfl)

set_option maxHeartbeats 4000000 in
set_option maxRecDepth 100000 in
theorem c_metByHeap {l : Launch} {G : va_G} {cy : Nat → ClassId} {N : Nat} {ad : Nat → Nat} {g : Nat → va_E} {T : Nat} {fm : Nat → Int32} {h : Int32} (h83 : 83 ≤ N) (hT : T ≤ 12) (f9 : g 9 = .inr (7, [.ref (ad 10), .ref (ad 11), .int (nI T)])) (f11 : g 11 = .inl (cy 0, 12, .inl fm)) : RI l G cy (N, ad, g) yX7_metByHeap cX7_metByHeap 4 (some .int) (rmN 0) [.ref (ad 9), .int h] (mbh fm h T) := by
  refine RI.mk (by decide) (by first | rfl | exact bI_nar) (Nat.le_of_ble_eq_true rfl) ?_
  intro jp je js jm below meth jc A Q X hW ret ls hl
  have jx := X.hx
  have jb := X.hb
  have hl : lv_has ls 4 [(0, .ref (ad 9)), (1, .int h)] := hl
  have X : Cx G cy jp js jm _ jc cX7_metByHeap 4 RX7 A js.heap := X
  refine lv_iconst (v := 0) jx jb dX7_metByHeap_0 (by decide) ?_
  refine lv_istore_n (lv' := [(2, .int 0), (0, .ref (ad 9)), (1, .int h)]) jx jb dX7_metByHeap_1 rfl hl (by decide) rfl (fun ls hl => ?_)
  refine lv_iconst (v := 0) jx jb dX7_metByHeap_2 (by decide) ?_
  refine lv_istore_n (lv' := [(3, .int 0), (2, .int 0), (0, .ref (ad 9)), (1, .int h)]) jx jb dX7_metByHeap_3 rfl hl (by decide) rfl (fun ls hl => ?_)
  have loop4 : ∀ (fuel4 : Nat) (k : Nat) (H : Heap) (locs : List Loc) (ls : Array Slot), (k ≤ T) → T - k < fuel4 → Wd G A js.heap (N, ad, g) H locs → lv_has ls 4 [(0, .ref (ad 9)), (1, .int h), (2, .int (mbh fm h k)), (3, .int (nI k))] → W jp l je (rmN 0) js jm [.ref (ad 9), .int h].toArray below meth jc H locs 0 0 Q (F0 jm 4 ls []) := by
    intro fuel4
    induction fuel4 with
    | zero => intro k H locs ls hk  hm4; exact absurd hm4 (Nat.not_lt_zero _)
    | succ fuel4 ih4 =>
      intro k H locs ls hk  hm4 hW hl
      refine lv_iload_n jx jb dX7_metByHeap_4 rfl (lv_at hl 3 rfl) ?_
      refine lv_aload_n jx jb dX7_metByHeap_5 rfl (lv_at hl 0 rfl) ?_
      refine w_get X hW K7 (by omega) f9 2 (by decide) fl_X7_21 rfl dX7_metByHeap_6 ?_
      refine lv_icmp_ge (tgt := 40) jx jb dX7_metByHeap_9 (by decide) (fun c9 => ?_) (fun c9 => ?_)
      · refine lv_iload_n jx jb dX7_metByHeap_40 rfl (lv_at hl 2 rfl) ?_
        exact ret _ _ _ _ _ dX7_metByHeap_41 hW (by have := n_le (by omega) (by omega) c9; rw [show k = T by omega])
      · have hlt : k < T := n_nle (by omega) (by omega) c9
        refine lv_iload_n jx jb dX7_metByHeap_12 rfl (lv_at hl 2 rfl) ?_
        refine lv_iload_n jx jb dX7_metByHeap_13 rfl (lv_at hl 1 rfl) ?_
        refine lv_iload_n jx jb dX7_metByHeap_14 rfl (lv_at hl 3 rfl) ?_
        refine lv_ishr jx jb dX7_metByHeap_15 ?_
        refine lv_iconst (v := 1) jx jb dX7_metByHeap_16 (by decide) ?_
        refine lv_iand jx jb dX7_metByHeap_17 ?_
        refine lv_iconst (v := 1) jx jb dX7_metByHeap_18 (by decide) ?_
        refine lv_icmp_ne (tgt := 31) jx jb dX7_metByHeap_19 (by decide) (fun c19 => ?_) (fun c19 => ?_)
        · refine lv_iconst (v := 0) jx jb dX7_metByHeap_31 (by decide) ?_
          refine lv_ior jx jb dX7_metByHeap_32 ?_
          refine top_eq (y := mbh fm h (k + 1)) (by rw [show mbh fm h (k + 1) = mbh fm h k ||| (if (h >>> (nI k &&& 31)) &&& 1 = 1 then fm k else 0) from rfl, if_neg c19]) ?_
          refine lv_istore_n (lv' := [(2, .int (mbh fm h (k + 1))), (0, .ref (ad 9)), (1, .int h), (3, .int (nI k))]) jx jb dX7_metByHeap_33 rfl hl (by decide) rfl (fun ls hl => ?_)
          refine lv_iinc (v := nI (k + 1)) (lv' := [(3, .int (nI (k + 1))), (2, .int (mbh fm h (k + 1))), (0, .ref (ad 9)), (1, .int h)]) jx jb dX7_metByHeap_34 hl (k := 3) rfl (show nI k + 1 = nI (k + 1) from nI_1 _) (by decide) rfl (fun ls hl => ?_)
          refine lv_goto (tgt := 4) jx jb dX7_metByHeap_37 (by decide) ?_
          exact ih4 (k + 1)  _ _ _ (by omega)  (by omega) hW (lv_sub hl [2, 3, 1, 0] rfl)
        · refine lv_aload_n jx jb dX7_metByHeap_22 rfl (lv_at hl 0 rfl) ?_
          refine w_get X hW K7 (by omega) f9 1 (by decide) fl_X7_17 rfl dX7_metByHeap_23 ?_
          refine lv_iload_n jx jb dX7_metByHeap_26 rfl (lv_at hl 3 rfl) ?_
          refine w_ild X hW (by omega) f11 k rfl (by omega) (by decide) dX7_metByHeap_27 ?_
          refine lv_goto (tgt := 32) jx jb dX7_metByHeap_28 (by decide) ?_
          refine lv_ior jx jb dX7_metByHeap_32 ?_
          refine top_eq (y := mbh fm h (k + 1)) (by rw [show mbh fm h (k + 1) = mbh fm h k ||| (if (h >>> (nI k &&& 31)) &&& 1 = 1 then fm k else 0) from rfl, if_pos c19]) ?_
          refine lv_istore_n (lv' := [(2, .int (mbh fm h (k + 1))), (0, .ref (ad 9)), (1, .int h), (3, .int (nI k))]) jx jb dX7_metByHeap_33 rfl hl (by decide) rfl (fun ls hl => ?_)
          refine lv_iinc (v := nI (k + 1)) (lv' := [(3, .int (nI (k + 1))), (2, .int (mbh fm h (k + 1))), (0, .ref (ad 9)), (1, .int h)]) jx jb dX7_metByHeap_34 hl (k := 3) rfl (show nI k + 1 = nI (k + 1) from nI_1 _) (by decide) rfl (fun ls hl => ?_)
          refine lv_goto (tgt := 4) jx jb dX7_metByHeap_37 (by decide) ?_
          exact ih4 (k + 1)  _ _ _ (by omega)  (by omega) hW (lv_sub hl [2, 3, 1, 0] rfl)
  exact loop4 _ 0  _ _ _ (by omega)  (Nat.lt_succ_self _) hW (lv_sub hl [2, 3, 1, 0] rfl)
end
section
def rmP (p : Nat → Nat) (j T : Nat) : Nat → Nat := fun i => if j ≤ i ∧ i < T - 1 then p (i + 1) else if i = T - 1 then p j else p i
theorem rmP_inj {p : Nat → Nat} {j T : Nat} (hT : T ≤ 12) (hj : j < T) (hinj : ∀ i j, i < 12 → j < 12 → p i = p j → i = j) : ∀ a b, a < 12 → b < 12 → rmP p j T a = rmP p j T b → a = b := by
  intro a b ha hb h
  unfold rmP at h
  repeat' split at h
  all_goals (have := hinj _ _ (by omega) (by omega) h; omega)
theorem rmP_lt {p : Nat → Nat} {j T : Nat} (hT : T ≤ 12) (hj : j < T) (h : ∀ i, i < 12 → p i < 12) : ∀ i, i < 12 → rmP p j T i < 12 := by
  intro i hi
  unfold rmP
  repeat' split
  all_goals exact h _ (by omega)
theorem SuAt.put11 {cy : Nat → ClassId} {N : Nat} {ad : Nat → Nat} {g g' : Nat → va_E} {T : Nat} {p : Nat → Nat} {x : Nat → TT} {f : Nat → Int32} (h : SuAt cy N ad g T p x) (h1 : ∀ k, k ≠ 11 → 9 ≤ k → k < 60 → g' k = g k) (ht : g' 11 = .inl (cy 0, 12, .inl f)) : SuAt cy N ad g' T p x := by
  obtain ⟨a, b, c, d, ⟨ft, fm, e1, e2, e3, e4⟩, z⟩ := h
  exact ⟨a, b, c, d, ⟨ft, f, (h1 _ (by omega) (by omega) (by omega)).trans e1, (h1 _ (by omega) (by omega) (by omega)).trans e2, ht, e4⟩, fun q hq => (z q hq).fr (fun k _ _ => h1 k (by omega) (by omega) (by omega))⟩
def lhC (fm : Nat → Int32) (T : Nat) : Nat → Nat
  | 0 => 2 ^ T - 1
  | h + 1 => if pc2 h < pc2 (lhC fm T h) ∧ mbh fm (nI h) T = mbh fm (nI (2 ^ T - 1)) T then h else lhC fm T h
theorem two_lt {T : Nat} (h : T ≤ 12) : 2 ^ T ≤ 4096 ∧ 1 ≤ 2 ^ T := ⟨show 2 ^ T ≤ 2 ^ 12 from Nat.pow_le_pow_right (n := 2) (by decide) h, Nat.one_le_two_pow⟩
theorem lhC_lt {fm : Nat → Int32} {T : Nat} (hT : T ≤ 12) : ∀ {h : Nat}, h ≤ 2 ^ T → lhC fm T h < 4096
  | 0, _ => by have := two_lt hT; unfold lhC; omega
  | h + 1, hh => by
    have := two_lt hT
    unfold lhC
    split
    · omega
    · exact lhC_lt hT (by omega)
theorem pc2_lt (n : Nat) : pc2 n ≤ 12 := by unfold pc2; omega
theorem sh_two : ∀ T, T ≤ 12 → (1 : Int32) <<< (nI T &&& 31) = nI (2 ^ T) := by decide
theorem sh_two1 {T : Nat} (h : T ≤ 12) : (1 : Int32) <<< (nI T &&& 31) - 1 = nI (2 ^ T - 1) := by
  rw [sh_two T h]
  exact pk_sub (b := 1) (two_lt h).2

set_option maxHeartbeats 4000000 in
set_option maxRecDepth 100000 in
theorem c_removeNo {l : Launch} {G : va_G} {cy : Nat → ClassId} {N : Nat} {ad : Nat → Nat} {g : Nat → va_E} {T : Nat} {p : Nat → Nat} {x : Nat → TT} {i : Int32} (hS : SuAt cy N ad g T p x) (hno : ¬ (0 ≤ i ∧ i < nI T)) : RI l G cy (N, ad, g) yX7_remove cX7_remove 4 (some .boolean) (rmN 1) [.ref (ad 9), .int i] 0 := by
  refine RI.mk (by decide) (by first | rfl | exact bI_nar) (Nat.le_of_ble_eq_true rfl) ?_
  intro jp je js jm below meth jc A Q X hW ret ls hl
  have jx := X.hx
  have jb := X.hb
  have hl : lv_has ls 4 [(0, .ref (ad 9)), (1, .int i)] := hl
  have X : Cx G cy jp js jm _ jc cX7_remove 4 RX7 A js.heap := X
  obtain ⟨h83, hT, hp12, hinj, ⟨ft, fm, f9, f10, f11, hft⟩, hx⟩ := id hS
  refine lv_iload_n jx jb dX7_remove_0 rfl (lv_at hl 1 rfl) ?_
  refine lv_aload_n jx jb dX7_remove_1 rfl (lv_at hl 0 rfl) ?_
  refine w_get X hW K7 (by omega) f9 2 (by decide) fl_X7_21 rfl dX7_remove_2 ?_
  refine w_rN (As := [.int i, .int (nI T)]) X hW (c_isBelow) mn_X7_26 mf_X8_isBelow ⟨Nat.le_of_ble_eq_true rfl, Nat.le_of_ble_eq_true rfl⟩ hl.1 rfl (Nat.le_of_ble_eq_true rfl) ⟨Nat.le_of_ble_eq_true rfl, Nat.le_of_ble_eq_true rfl⟩ dX7_remove_5 (fun H locs hW => ?_)
  refine lv_if_ne (tgt := 13) jx jb dX7_remove_8 (by decide) (fun c8 => ?_) (fun c8 => ?_)
  · exact absurd (bI_n0.mp c8) hno
  · refine lv_iconst (v := 0) jx jb dX7_remove_11 (by decide) ?_
    exact ret _ _ _ _ _ dX7_remove_12 hW rfl

set_option maxHeartbeats 4000000 in
set_option maxRecDepth 100000 in
theorem c_remove {l : Launch} {G : va_G} {cy : Nat → ClassId} {N : Nat} {ad : Nat → Nat} {g : Nat → va_E} {T : Nat} {p : Nat → Nat} {x : Nat → TT} {j : Nat} (hS : SuAt cy N ad g T p x) (hj : j < T) : MI l G cy (N, ad, g) yX7_remove cX7_remove 4 (some .boolean) (rmN 1) [.ref (ad 9), .int (nI j)] (nA N ad (fun v g1 => v = 1 ∧ SuAt cy N ad g1 (T - 1) (rmP p j T) x ∧ ∀ k, ¬ (9 ≤ k ∧ k < 60) → g1 k = g k)) := by
  refine NI.mk (by decide) (by intro v g1 h; rw [h.1]; decide) (Nat.le_of_ble_eq_true rfl) ?_
  intro jp je js jm below meth jc A Q X hW ret ls hl
  have jx := X.hx
  have jb := X.hb
  have hl : lv_has ls 4 [(0, .ref (ad 9)), (1, .int (nI j))] := hl
  have X : Cx G cy jp js jm _ jc cX7_remove 4 RX7 A js.heap := X
  obtain ⟨h83, hT, hp12, hinj, ⟨ft, fm, f9, f10, f11, hft⟩, hx⟩ := id hS
  refine lv_iload_n jx jb dX7_remove_0 rfl (lv_at hl 1 rfl) ?_
  refine lv_aload_n jx jb dX7_remove_1 rfl (lv_at hl 0 rfl) ?_
  refine w_get X hW K7 (by omega) f9 2 (by decide) fl_X7_21 rfl dX7_remove_2 ?_
  refine w_rN (As := [.int (nI j), .int (nI T)]) X hW (c_isBelow) mn_X7_26 mf_X8_isBelow ⟨Nat.le_of_ble_eq_true rfl, Nat.le_of_ble_eq_true rfl⟩ hl.1 rfl (Nat.le_of_ble_eq_true rfl) ⟨Nat.le_of_ble_eq_true rfl, Nat.le_of_ble_eq_true rfl⟩ dX7_remove_5 (fun H locs hW => ?_)
  refine lv_if_ne (tgt := 13) jx jb dX7_remove_8 (by decide) (fun c8 => ?_) (fun c8 => ?_)
  · refine lv_aload_n jx jb dX7_remove_13 rfl (lv_at hl 0 rfl) ?_
    refine w_get X hW K7 (by omega) f9 0 (by decide) fl_X7_11 rfl dX7_remove_14 ?_
    refine lv_iload_n jx jb dX7_remove_17 rfl (lv_at hl 1 rfl) ?_
    refine w_ald X hW (by omega) (t := 3) rfl f10 j rfl (by omega) (by decide) dX7_remove_18 ?_
    refine top_q (y := some (ad (12 + 4 * p j))) (hft j (by omega)) ?_
    refine lv_astore_n (lv' := [(2, .ref (ad (12 + 4 * p j))), (0, .ref (ad 9)), (1, .int (nI j))]) jx jb dX7_remove_19 rfl hl (by decide) rfl (fun ls hl => ?_)
    refine lv_iload_n jx jb dX7_remove_20 rfl (lv_at hl 2 rfl) ?_
    refine lv_istore_n (lv' := [(3, .int (nI j)), (2, .ref (ad (12 + 4 * p j))), (0, .ref (ad 9)), (1, .int (nI j))]) jx jb dX7_remove_21 rfl hl (by decide) rfl (fun ls hl => ?_)
    have loop22 : ∀ (fuel22 : Nat) (k : Nat) (fk : Nat → Option Nat) (gL22 : Nat → va_E) (H : Heap) (locs : List Loc) (ls : Array Slot), (j ≤ k) → (k + 1 ≤ T) → (∀ i, i < 12 → fk i = some (ad (12 + 4 * (if j ≤ i ∧ i < k then p (i + 1) else p i)))) → gL22 9 = .inr (7, [.ref (ad 10), .ref (ad 11), .int (nI T)]) → gL22 10 = .inl (cy 3, 12, .inr (.inr (.inr (.inr fk)))) → gL22 11 = .inl (cy 0, 12, .inl fm) → Fr g gL22 [9, 10] → T - k < fuel22 → Wd G A js.heap (N, ad, gL22) H locs → lv_has ls 4 [(0, .ref (ad 9)), (1, .int (nI j)), (2, .ref (ad (12 + 4 * p j))), (3, .int (nI k))] → W jp l je (rmN 1) js jm [.ref (ad 9), .int (nI j)].toArray below meth jc H locs 0 0 Q (F0 jm 22 ls []) := by
      intro fuel22
      induction fuel22 with
      | zero => intro k fk gL22 H locs ls hjk hk hfk fL22_0 fL22_1 fL22_2 hfr22 hm22; exact absurd hm22 (Nat.not_lt_zero _)
      | succ fuel22 ih22 =>
        intro k fk gL22 H locs ls hjk hk hfk fL22_0 fL22_1 fL22_2 hfr22 hm22 hW hl
        refine lv_iload_n jx jb dX7_remove_22 rfl (lv_at hl 3 rfl) ?_
        refine lv_iconst (v := 1) jx jb dX7_remove_23 (by decide) ?_
        refine lv_iadd jx jb dX7_remove_24 ?_
        refine top_eq (y := nI (k + 1)) (nI_1 _) ?_
        refine lv_aload_n jx jb dX7_remove_25 rfl (lv_at hl 0 rfl) ?_
        refine w_get X hW K7 (by omega) fL22_0 2 (by decide) fl_X7_21 rfl dX7_remove_26 ?_
        refine lv_icmp_ge (tgt := 52) jx jb dX7_remove_29 (by decide) (fun c29 => ?_) (fun c29 => ?_)
        · have hge := n_le (by omega) (by omega) c29
          refine lv_aload_n jx jb dX7_remove_52 rfl (lv_at hl 0 rfl) ?_
          refine lv_dup jx jb dX7_remove_53 rfl ?_
          refine w_get X hW K7 (by omega) fL22_0 2 (by decide) fl_X7_21 rfl dX7_remove_54 ?_
          refine lv_iconst (v := 1) jx jb dX7_remove_57 (by decide) ?_
          refine lv_isub jx jb dX7_remove_58 ?_
          refine top_eq (y := nI (T - 1)) (pk_sub (b := 1) (by omega)) ?_
          refine w_put X hW K7 (by omega) fL22_0 2 (by decide) fl_X7_21 rfl rfl rfl (Nat.le_of_ble_eq_true rfl) dX7_remove_59 (fun H locs hW => ?_)
          obtain ⟨g_1, eg_1⟩ : ∃ zz, zz = va_up gL22 9 (.inr (7, [.ref (ad 10), .ref (ad 11), .int (nI (T - 1))])) := ⟨_, rfl⟩
          have hW : Wd G A js.heap (N, ad, g_1) H locs := by rw [eg_1]; exact hW
          have hf2 : g_1 9 = .inr (7, [.ref (ad 10), .ref (ad 11), .int (nI (T - 1))]) := by rw [eg_1]; exact va_up_s
          have hf3 : g_1 10 = .inl (cy 3, 12, .inr (.inr (.inr (.inr fk)))) := by rw [eg_1]; exact (va_up_n (by decide)).trans fL22_1
          have hf4 : g_1 11 = .inl (cy 0, 12, .inl fm) := by rw [eg_1]; exact (va_up_n (by decide)).trans fL22_2
          refine lv_aload_n jx jb dX7_remove_62 rfl (lv_at hl 0 rfl) ?_
          refine w_get X hW K7 (by omega) hf2 0 (by decide) fl_X7_11 rfl dX7_remove_63 ?_
          refine lv_aload_n jx jb dX7_remove_66 rfl (lv_at hl 0 rfl) ?_
          refine w_get X hW K7 (by omega) hf2 2 (by decide) fl_X7_21 rfl dX7_remove_67 ?_
          refine lv_aload_n jx jb dX7_remove_70 rfl (lv_at hl 2 rfl) ?_
          obtain ⟨fcz, frz, z1, -, -, -, -⟩ := hx (p j) (hp12 _ (by omega))
          have zg : g_1 (12 + 4 * p j) = _ := Eq.trans (show g_1 (12 + 4 * p j) = g (12 + 4 * p j) from by rw [eg_1, va_up_n (by omega), hfr22 _ (by simp only [List.mem_cons, List.not_mem_nil, or_false, not_or] <;> omega)]) z1
          refine w_ast X hW (by omega) (t := 3) (q := (RX3, TX3, 4)) rfl hf3 (v := 12 + 4 * p j) (by have := hp12 j (by omega); omega) zg rfl (T - 1) rfl (by omega) (by decide) dX7_remove_71 (fun H locs hW => ?_)
          obtain ⟨g_5, eg_5⟩ : ∃ zz, zz = va_up g_1 10 (.inl (cy 3, 12, .inr (.inr (.inr (.inr (va_up fk (T - 1) (some (ad (12 + 4 * p j))))))))) := ⟨_, rfl⟩
          have hW : Wd G A js.heap (N, ad, g_5) H locs := by rw [eg_5]; exact hW
          have hf6 : g_5 9 = .inr (7, [.ref (ad 10), .ref (ad 11), .int (nI (T - 1))]) := by rw [eg_5]; exact (va_up_n (by decide)).trans hf2
          have hf7 : g_5 10 = .inl (cy 3, 12, .inr (.inr (.inr (.inr (va_up fk (T - 1) (some (ad (12 + 4 * p j)))))))) := by rw [eg_5]; exact va_up_s
          have hf8 : g_5 11 = .inl (cy 0, 12, .inl fm) := by rw [eg_5]; exact (va_up_n (by decide)).trans hf4
          refine lv_iconst (v := 1) jx jb dX7_remove_72 (by decide) ?_
          exact ret _ _ _ _ _ _ dX7_remove_73 hW ⟨rfl, ⟨h83, by omega, rmP_lt hT hj hp12, rmP_inj hT hj hinj, ⟨_, fm, hf6, hf7, hf8, (fun i hi => by unfold rmP; by_cases e : i = T - 1; (subst e; rw [va_up_s, if_neg (by omega), if_pos rfl]); (rw [va_up_n e, hfk i hi, if_neg (c := i = T - 1) e, show k = T - 1 by omega]))⟩, fun q hq => (hx q hq).fr (fun k hk1 hk2 => by show g_5 k = _; rw [eg_5, va_up_n (by omega), eg_1, va_up_n (by omega), hfr22 k (by simp only [List.mem_cons, List.not_mem_nil, or_false, not_or] <;> omega)])⟩, (fun k hk => by show g_5 k = _; rw [eg_5, va_up_n (by omega), eg_1, va_up_n (by omega), hfr22 k (by simp only [List.mem_cons, List.not_mem_nil, or_false, not_or] <;> omega)])⟩
        · have hlt : k + 1 < T := n_nle (by omega) (by omega) c29
          refine lv_aload_n jx jb dX7_remove_32 rfl (lv_at hl 0 rfl) ?_
          refine w_get X hW K7 (by omega) fL22_0 0 (by decide) fl_X7_11 rfl dX7_remove_33 ?_
          refine lv_iload_n jx jb dX7_remove_36 rfl (lv_at hl 3 rfl) ?_
          refine lv_aload_n jx jb dX7_remove_37 rfl (lv_at hl 0 rfl) ?_
          refine w_get X hW K7 (by omega) fL22_0 0 (by decide) fl_X7_11 rfl dX7_remove_38 ?_
          refine lv_iload_n jx jb dX7_remove_41 rfl (lv_at hl 3 rfl) ?_
          refine lv_iconst (v := 1) jx jb dX7_remove_42 (by decide) ?_
          refine lv_iadd jx jb dX7_remove_43 ?_
          refine top_eq (y := nI (k + 1)) (nI_1 _) ?_
          refine w_ald X hW (by omega) (t := 3) rfl fL22_1 (k + 1) rfl (by omega) (by decide) dX7_remove_44 ?_
          refine top_q (y := some (ad (12 + 4 * p (k + 1)))) (by rw [hfk _ (by omega), if_neg (by omega)]) ?_
          obtain ⟨fcs, frs, s1, -, -, -, -⟩ := hx (p (k + 1)) (hp12 _ (by omega))
          have sg : gL22 (12 + 4 * p (k + 1)) = _ := Eq.trans (show gL22 (12 + 4 * p (k + 1)) = g (12 + 4 * p (k + 1)) from by rw [hfr22 _ (by simp only [List.mem_cons, List.not_mem_nil, or_false, not_or] <;> omega)]) s1
          refine w_ast X hW (by omega) (t := 3) (q := (RX3, TX3, 4)) rfl fL22_1 (v := 12 + 4 * p (k + 1)) (by have := hp12 (k + 1) (by omega); omega) sg rfl k rfl (by omega) (by decide) dX7_remove_45 (fun H locs hW => ?_)
          obtain ⟨g_9, eg_9⟩ : ∃ zz, zz = va_up gL22 10 (.inl (cy 3, 12, .inr (.inr (.inr (.inr (va_up fk k (some (ad (12 + 4 * p (k + 1)))))))))) := ⟨_, rfl⟩
          have hW : Wd G A js.heap (N, ad, g_9) H locs := by rw [eg_9]; exact hW
          have hf10 : g_9 9 = .inr (7, [.ref (ad 10), .ref (ad 11), .int (nI T)]) := by rw [eg_9]; exact (va_up_n (by decide)).trans fL22_0
          have hf11 : g_9 10 = .inl (cy 3, 12, .inr (.inr (.inr (.inr (va_up fk k (some (ad (12 + 4 * p (k + 1))))))))) := by rw [eg_9]; exact va_up_s
          have hf12 : g_9 11 = .inl (cy 0, 12, .inl fm) := by rw [eg_9]; exact (va_up_n (by decide)).trans fL22_2
          refine lv_iinc (v := nI (k + 1)) (lv' := [(3, .int (nI (k + 1))), (0, .ref (ad 9)), (1, .int (nI j)), (2, .ref (ad (12 + 4 * p j)))]) jx jb dX7_remove_46 hl (k := 3) rfl (show nI k + 1 = nI (k + 1) from nI_1 _) (by decide) rfl (fun ls hl => ?_)
          refine lv_goto (tgt := 22) jx jb dX7_remove_49 (by decide) ?_
          exact ih22 (k + 1) _ g_9 _ _ _ (by omega) (by omega) (fun i hi => by by_cases e : i = k; (subst e; rw [va_up_s, if_pos (by omega)]); (rw [va_up_n e, hfk i hi]; by_cases e2 : j ≤ i ∧ i < k; (rw [if_pos e2, if_pos (by omega)]); (rw [if_neg e2, if_neg (by omega)]))) hf10 hf11 hf12 (fun k hk => by show g_9 k = _; simp only [List.mem_cons, List.not_mem_nil, or_false, not_or] at hk; rw [eg_9, va_up_n (by omega), hfr22 k (by simp only [List.mem_cons, List.not_mem_nil, or_false, not_or] <;> omega)]) (by omega) hW (lv_sub hl [1, 2, 3, 0] rfl)
    exact loop22 _ j _ g _ _ _ (Nat.le_refl _) (by omega) (fun i hi => by rw [hft i hi, if_neg (by omega)]) f9 f10 f11 (fun k hk => rfl) (Nat.lt_succ_self _) hW (lv_sub hl [2, 3, 1, 0] rfl)
  · exact absurd (c8.symm.trans (bel_t hj (by omega))) (by decide)

set_option maxHeartbeats 4000000 in
set_option maxRecDepth 100000 in
theorem c_leastHeap {l : Launch} {G : va_G} {cy : Nat → ClassId} {N : Nat} {ad : Nat → Nat} {g : Nat → va_E} {T : Nat} {p : Nat → Nat} {x : Nat → TT} {M : M4} (hS : SuAt cy N ad g T p x) (hM : MachAt cy N ad g M) (hPe : ∃ psz pf mt lt, RepAt cy N ad g psz pf mt lt) : MI l G cy (N, ad, g) yX7_leastHeap cX7_leastHeap 5 (some .int) (rmN 5) [.ref (ad 9), .ref (ad 60)] (nA N ad (fun v g1 => ∃ fk, (∀ i, i < T → fk i = mtq M (gl (x (p i)).1) (x (p i)).1.length) ∧ v = nI (lhC fk T (2 ^ T)) ∧ SuAt cy N ad g1 T p x ∧ (∃ psz pf mt lt, RepAt cy N ad g1 psz pf mt lt) ∧ ∀ k, ¬ (9 ≤ k ∧ k < 62) → g1 k = g k)) := by
  refine NI.mk (by decide) (by intros; first | rfl | (simp_all; done)) (Nat.le_of_ble_eq_true rfl) ?_
  intro jp je js jm below meth jc A Q X hW ret ls hl
  have jx := X.hx
  have jb := X.hb
  have hl : lv_has ls 5 [(0, .ref (ad 9)), (1, .ref (ad 60))] := hl
  have X : Cx G cy jp js jm _ jc cX7_leastHeap 5 RX7 A js.heap := X
  obtain ⟨h83, hT, hp12, hinj, ⟨ft, fm, f9, f10, f11, hft⟩, hx⟩ := id hS
  refine lv_iconst (v := 0) jx jb dX7_leastHeap_0 (by decide) ?_
  refine lv_istore_n (lv' := [(2, .int 0), (0, .ref (ad 9)), (1, .ref (ad 60))]) jx jb dX7_leastHeap_1 rfl hl (by decide) rfl (fun ls hl => ?_)
  have loop2 : ∀ (fuel2 : Nat) (k : Nat) (fk : Nat → Int32) (gL2 : Nat → va_E) (H : Heap) (locs : List Loc) (ls : Array Slot), (k ≤ T) → (SuAt cy N ad gL2 T p x) → (MachAt cy N ad gL2 M) → (∃ psz pf mt lt, RepAt cy N ad gL2 psz pf mt lt) → (∀ i, i < k → fk i = mtq M (gl (x (p i)).1) (x (p i)).1.length) → (∀ k, ¬ (9 ≤ k ∧ k < 62) → gL2 k = g k) → gL2 11 = .inl (cy 0, 12, .inl fk) → T - k < fuel2 → Wd G A js.heap (N, ad, gL2) H locs → lv_has ls 5 [(0, .ref (ad 9)), (1, .ref (ad 60)), (2, .int (nI k))] → W jp l je (rmN 5) js jm [.ref (ad 9), .ref (ad 60)].toArray below meth jc H locs 0 0 Q (F0 jm 2 ls []) := by
    intro fuel2
    induction fuel2 with
    | zero => intro k fk gL2 H locs ls hk hS hM hPe hme hfr fL2_0 hm2; exact absurd hm2 (Nat.not_lt_zero _)
    | succ fuel2 ih2 =>
      intro k fk gL2 H locs ls hk hS hM hPe hme hfr fL2_0 hm2 hW hl
      obtain ⟨-, -, -, -, ⟨ft, fm_, f9, f10, -, hft⟩, hx⟩ := id hS
      obtain ⟨psz, pf, mt, lt, hP⟩ := id hPe
      obtain ⟨-, hpsz, f60, f61⟩ := id hP
      obtain ⟨-, -, bc_, fs_, f1, -⟩ := id hM
      refine lv_iload_n jx jb dX7_leastHeap_2 rfl (lv_at hl 2 rfl) ?_
      refine lv_aload_n jx jb dX7_leastHeap_3 rfl (lv_at hl 0 rfl) ?_
      refine w_get X hW K7 (by omega) f9 2 (by decide) fl_X7_21 rfl dX7_leastHeap_4 ?_
      refine lv_icmp_ge (tgt := 35) jx jb dX7_leastHeap_7 (by decide) (fun c7 => ?_) (fun c7 => ?_)
      · have hge := n_le (by omega) (by omega) c7
        have h2 := two_lt hT
        refine lv_iconst (v := 1) jx jb dX7_leastHeap_35 (by decide) ?_
        refine lv_aload_n jx jb dX7_leastHeap_36 rfl (lv_at hl 0 rfl) ?_
        refine w_get X hW K7 (by omega) f9 2 (by decide) fl_X7_21 rfl dX7_leastHeap_37 ?_
        refine lv_ishl jx jb dX7_leastHeap_40 ?_
        refine lv_iconst (v := 1) jx jb dX7_leastHeap_41 (by decide) ?_
        refine lv_isub jx jb dX7_leastHeap_42 ?_
        refine top_eq (y := nI (2 ^ T - 1)) (sh_two1 hT) ?_
        refine lv_istore_n (lv' := [(2, .int (nI (2 ^ T - 1))), (0, .ref (ad 9)), (1, .ref (ad 60))]) jx jb dX7_leastHeap_43 rfl hl (by decide) rfl (fun ls hl => ?_)
        refine lv_aload_n jx jb dX7_leastHeap_44 rfl (lv_at hl 1 rfl) ?_
        refine lv_iload_n jx jb dX7_leastHeap_45 rfl (lv_at hl 0 rfl) ?_
        refine w_rV (As := [.int (nI (2 ^ T - 1))]) X hW (c_metByHeap h83 hT f9 fL2_0) (by omega) f9 rfl rfl ml_X7_59 mf_X7_metByHeap ⟨Nat.le_of_ble_eq_true rfl, Nat.le_of_ble_eq_true rfl⟩ hl.1 rfl (Nat.le_of_ble_eq_true rfl) ⟨Nat.le_of_ble_eq_true rfl, Nat.le_of_ble_eq_true rfl⟩ dX7_leastHeap_46 (fun H locs hW => ?_)
        refine lv_istore_n (lv' := [(3, .int (mbh fk (nI (2 ^ T - 1)) T)), (2, .int (nI (2 ^ T - 1))), (0, .ref (ad 9)), (1, .ref (ad 60))]) jx jb dX7_leastHeap_49 rfl hl (by decide) rfl (fun ls hl => ?_)
        refine lv_iconst (v := 0) jx jb dX7_leastHeap_50 (by decide) ?_
        refine lv_istore (lv' := [(4, .int 0), (3, .int (mbh fk (nI (2 ^ T - 1)) T)), (2, .int (nI (2 ^ T - 1))), (0, .ref (ad 9)), (1, .ref (ad 60))]) jx jb dX7_leastHeap_51 hl (by decide) rfl (fun ls hl => ?_)
        have loop53 : ∀ (fuel53 : Nat) (h : Nat) (H : Heap) (locs : List Loc) (ls : Array Slot), (h ≤ 2 ^ T) → 2 ^ T - h < fuel53 → Wd G A js.heap (N, ad, gL2) H locs → lv_has ls 5 [(0, .ref (ad 9)), (2, .int (nI (lhC fk T h))), (3, .int (mbh fk (nI (2 ^ T - 1)) T)), (4, .int (nI h))] → W jp l je (rmN 5) js jm [.ref (ad 9), .ref (ad 60)].toArray below meth jc H locs 0 0 Q (F0 jm 53 ls []) := by
          intro fuel53
          induction fuel53 with
          | zero => intro h H locs ls hh  hm53; exact absurd hm53 (Nat.not_lt_zero _)
          | succ fuel53 ih53 =>
            intro h H locs ls hh  hm53 hW hl
            refine lv_iload jx jb dX7_leastHeap_53 (lv_at hl 3 rfl) ?_
            refine lv_iconst (v := 1) jx jb dX7_leastHeap_55 (by decide) ?_
            refine lv_aload_n jx jb dX7_leastHeap_56 rfl (lv_at hl 0 rfl) ?_
            refine w_get X hW K7 (by omega) f9 2 (by decide) fl_X7_21 rfl dX7_leastHeap_57 ?_
            refine lv_ishl jx jb dX7_leastHeap_60 ?_
            refine top_eq (y := nI (2 ^ T)) (sh_two T hT) ?_
            refine lv_icmp_ge (tgt := 95) jx jb dX7_leastHeap_61 (by decide) (fun c61 => ?_) (fun c61 => ?_)
            · refine lv_iload_n jx jb dX7_leastHeap_95 rfl (lv_at hl 1 rfl) ?_
              exact ret _ _ _ _ _ _ dX7_leastHeap_96 hW (by have := n_le (by omega) (by omega) c61; have e : h = 2 ^ T := (by omega); rw [e]; exact ⟨fk, (fun i hi => hme i (by omega)), rfl, hS, hPe, hfr⟩)
            · have hhl : h < 2 ^ T := n_nle (by omega) (by omega) c61
              have hbl := lhC_lt (fm := fk) hT hh
              refine lv_iload jx jb dX7_leastHeap_64 (lv_at hl 3 rfl) ?_
              refine w_rS (As := [.int (nI h)]) X hW (c_bitCount) ml_X7_63 mf_J6_bitCount_0f7a4 ⟨Nat.le_of_ble_eq_true rfl, Nat.le_of_ble_eq_true rfl⟩ hl.1 rfl (Nat.le_of_ble_eq_true rfl) ⟨Nat.le_of_ble_eq_true rfl, Nat.le_of_ble_eq_true rfl⟩ dX7_leastHeap_66 (fun H locs hW => ?_)
              refine top_eq (y := nI (pc2 h)) (bcI_pc h (by omega)) ?_
              refine lv_iload_n jx jb dX7_leastHeap_69 rfl (lv_at hl 1 rfl) ?_
              refine w_rS (As := [.int (nI (lhC fk T h))]) X hW (c_bitCount) ml_X7_63 mf_J6_bitCount_0f7a4 ⟨Nat.le_of_ble_eq_true rfl, Nat.le_of_ble_eq_true rfl⟩ hl.1 rfl (Nat.le_of_ble_eq_true rfl) ⟨Nat.le_of_ble_eq_true rfl, Nat.le_of_ble_eq_true rfl⟩ dX7_leastHeap_70 (fun H locs hW => ?_)
              refine top_eq (y := nI (pc2 (lhC fk T h))) (bcI_pc _ hbl) ?_
              refine lv_icmp_ge (tgt := 89) jx jb dX7_leastHeap_73 (by decide) (fun c73 => ?_) (fun c73 => ?_)
              · refine lv_iinc (v := nI (h + 1)) (lv' := [(4, .int (nI (h + 1))), (0, .ref (ad 9)), (2, .int (nI (lhC fk T h))), (3, .int (mbh fk (nI (2 ^ T - 1)) T))]) jx jb dX7_leastHeap_89 hl (k := 3) rfl (show nI h + 1 = nI (h + 1) from nI_1 _) (by decide) rfl (fun ls hl => ?_)
                refine lv_goto (tgt := 53) jx jb dX7_leastHeap_92 (by decide) ?_
                have hl : lv_has ls 5 [(4, .int (nI (h + 1))), (0, .ref (ad 9)), (2, .int (nI (lhC fk T (h + 1)))), (3, .int (mbh fk (nI (2 ^ T - 1)) T))] := by rw [show nI (lhC fk T (h + 1)) = nI (lhC fk T h) from congrArg nI (if_neg (fun q => by have := n_le (by have := pc2_lt (lhC fk T h); omega) (by have := pc2_lt h; omega) c73; omega))]; exact hl
                exact ih53 (h + 1)  _ _ _ (by omega)  (by omega) hW (lv_sub hl [1, 2, 3, 0] rfl)
              · refine lv_aload_n jx jb dX7_leastHeap_76 rfl (lv_at hl 0 rfl) ?_
                refine lv_iload jx jb dX7_leastHeap_77 (lv_at hl 3 rfl) ?_
                refine w_rV (As := [.int (nI h)]) X hW (c_metByHeap h83 hT f9 fL2_0) (by omega) f9 rfl rfl ml_X7_59 mf_X7_metByHeap ⟨Nat.le_of_ble_eq_true rfl, Nat.le_of_ble_eq_true rfl⟩ hl.1 rfl (Nat.le_of_ble_eq_true rfl) ⟨Nat.le_of_ble_eq_true rfl, Nat.le_of_ble_eq_true rfl⟩ dX7_leastHeap_79 (fun H locs hW => ?_)
                refine lv_iload_n jx jb dX7_leastHeap_82 rfl (lv_at hl 2 rfl) ?_
                refine lv_icmp_ne (tgt := 89) jx jb dX7_leastHeap_83 (by decide) (fun c83 => ?_) (fun c83 => ?_)
                · refine lv_iinc (v := nI (h + 1)) (lv' := [(4, .int (nI (h + 1))), (0, .ref (ad 9)), (2, .int (nI (lhC fk T h))), (3, .int (mbh fk (nI (2 ^ T - 1)) T))]) jx jb dX7_leastHeap_89 hl (k := 3) rfl (show nI h + 1 = nI (h + 1) from nI_1 _) (by decide) rfl (fun ls hl => ?_)
                  refine lv_goto (tgt := 53) jx jb dX7_leastHeap_92 (by decide) ?_
                  have hl : lv_has ls 5 [(4, .int (nI (h + 1))), (0, .ref (ad 9)), (2, .int (nI (lhC fk T (h + 1)))), (3, .int (mbh fk (nI (2 ^ T - 1)) T))] := by rw [show nI (lhC fk T (h + 1)) = nI (lhC fk T h) from congrArg nI (if_neg (fun q => c83 q.2))]; exact hl
                  exact ih53 (h + 1)  _ _ _ (by omega)  (by omega) hW (lv_sub hl [1, 2, 3, 0] rfl)
                · refine lv_iload jx jb dX7_leastHeap_86 (lv_at hl 3 rfl) ?_
                  refine lv_istore_n (lv' := [(2, .int (nI h)), (0, .ref (ad 9)), (3, .int (mbh fk (nI (2 ^ T - 1)) T)), (4, .int (nI h))]) jx jb dX7_leastHeap_88 rfl hl (by decide) rfl (fun ls hl => ?_)
                  refine lv_iinc (v := nI (h + 1)) (lv' := [(4, .int (nI (h + 1))), (2, .int (nI h)), (0, .ref (ad 9)), (3, .int (mbh fk (nI (2 ^ T - 1)) T))]) jx jb dX7_leastHeap_89 hl (k := 3) rfl (show nI h + 1 = nI (h + 1) from nI_1 _) (by decide) rfl (fun ls hl => ?_)
                  refine lv_goto (tgt := 53) jx jb dX7_leastHeap_92 (by decide) ?_
                  have hl : lv_has ls 5 [(4, .int (nI (h + 1))), (2, .int (nI (lhC fk T (h + 1)))), (0, .ref (ad 9)), (3, .int (mbh fk (nI (2 ^ T - 1)) T))] := by rw [show nI (lhC fk T (h + 1)) = nI h from congrArg nI (if_pos ⟨n_nle (by have := pc2_lt (lhC fk T h); omega) (by have := pc2_lt h; omega) c73, c83⟩)]; exact hl
                  exact ih53 (h + 1)  _ _ _ (by omega)  (by omega) hW (lv_sub hl [2, 1, 3, 0] rfl)
        exact loop53 _ 0  _ _ _ (by omega)  (Nat.lt_succ_self _) hW (lv_sub hl [3, 2, 1, 0] rfl)
      · have hlt : k < T := n_nle (by omega) (by omega) c7
        have hk12 : k < 12 := by omega
        have hpk := hp12 k hk12
        obtain ⟨fc, fr, t1, tR, tc, t96, ta⟩ := hx (p k) hpk
        refine lv_aload_n jx jb dX7_leastHeap_10 rfl (lv_at hl 0 rfl) ?_
        refine w_get X hW K7 (by omega) f9 1 (by decide) fl_X7_17 rfl dX7_leastHeap_11 ?_
        refine lv_iload_n jx jb dX7_leastHeap_14 rfl (lv_at hl 2 rfl) ?_
        refine lv_aload_n jx jb dX7_leastHeap_15 rfl (lv_at hl 1 rfl) ?_
        refine lv_aload_n jx jb dX7_leastHeap_16 rfl (lv_at hl 0 rfl) ?_
        refine w_get X hW K7 (by omega) f9 0 (by decide) fl_X7_11 rfl dX7_leastHeap_17 ?_
        refine lv_iload_n jx jb dX7_leastHeap_20 rfl (lv_at hl 2 rfl) ?_
        refine w_ald X hW (by omega) (t := 3) rfl f10 k rfl (by omega) (by decide) dX7_leastHeap_21 ?_
        refine top_q (y := some (ad (12 + 4 * p k))) (hft k hk12) ?_
        refine w_getN X hW K3 (by omega) t1 0 (by decide) fn_X7_30 rfl dX7_leastHeap_22 ?_
        refine w_nV (As := [.ref (ad (13 + 4 * p k))]) X hW (c_meets hM hP tR (fun i hi => ⟨tc i hi, t96 _ (gl_mem hi)⟩) (by omega)) (by omega) f60 rfl rfl ml_X7_54 mf_X4_meets ⟨Nat.le_of_ble_eq_true rfl, Nat.le_of_ble_eq_true rfl⟩ hl.1 rfl (Nat.le_of_ble_eq_true rfl) ⟨Nat.le_of_ble_eq_true rfl, Nat.le_of_ble_eq_true rfl⟩ dX7_leastHeap_25 (fun r1 g1 H locs hp hW => ?_)
        obtain ⟨er1, pf1, hP1, hres, pfr⟩ := hp
        have hf1 : g1 11 = .inl (cy 0, 12, .inl fk) := (pfr 11 (by simp only [List.mem_cons, List.not_mem_nil, or_false, not_or] <;> omega)).trans fL2_0
        have hf2 : g1 9 = .inr (7, [.ref (ad 10), .ref (ad 11), .int (nI T)]) := (pfr 9 (by simp only [List.mem_cons, List.not_mem_nil, or_false, not_or] <;> omega)).trans f9
        have hf3 : g1 10 = .inl (cy 3, 12, .inr (.inr (.inr (.inr ft)))) := (pfr 10 (by simp only [List.mem_cons, List.not_mem_nil, or_false, not_or] <;> omega)).trans f10
        refine top_eq (y := mtq M (gl (x (p k)).1) (x (p k)).1.length) (er1) ?_
        refine w_ist X hW (by omega) hf1 k rfl (by omega) (by decide) dX7_leastHeap_28 (fun H locs hW => ?_)
        obtain ⟨g_4, eg_4⟩ : ∃ zz, zz = va_up g1 11 (.inl (cy 0, 12, .inl (upd fk k (mtq M (gl (x (p k)).1) (x (p k)).1.length)))) := ⟨_, rfl⟩
        have hW : Wd G A js.heap (N, ad, g_4) H locs := by rw [eg_4]; exact hW
        have hf5 : g_4 11 = .inl (cy 0, 12, .inl (upd fk k (mtq M (gl (x (p k)).1) (x (p k)).1.length))) := by rw [eg_4]; exact va_up_s
        have hf6 : g_4 9 = .inr (7, [.ref (ad 10), .ref (ad 11), .int (nI T)]) := by rw [eg_4]; exact (va_up_n (by decide)).trans hf2
        have hf7 : g_4 10 = .inl (cy 3, 12, .inr (.inr (.inr (.inr ft)))) := by rw [eg_4]; exact (va_up_n (by decide)).trans hf3
        refine lv_iinc (v := nI (k + 1)) (lv' := [(2, .int (nI (k + 1))), (0, .ref (ad 9)), (1, .ref (ad 60))]) jx jb dX7_leastHeap_29 hl (k := 2) rfl (show nI k + 1 = nI (k + 1) from nI_1 _) (by decide) rfl (fun ls hl => ?_)
        refine lv_goto (tgt := 2) jx jb dX7_leastHeap_32 (by decide) ?_
        have hS1 : SuAt cy N ad g_4 T p x := hS.put11 (fun j j1 j2 j3 => by show g_4 j = _; rw [eg_4, va_up_n (by omega), pfr j (by simp only [List.mem_cons, List.not_mem_nil, or_false, not_or] <;> omega)]) hf5
        have hP2 : RepAt cy N ad g_4 _ _ _ _ := ⟨hP1.1, hP1.2.1, by rw [eg_4, va_up_n (by decide)]; exact hP1.2.2.1, by rw [eg_4, va_up_n (by decide)]; exact hP1.2.2.2⟩
        exact ih2 (k + 1) _ g_4 _ _ _ (by omega) hS1 (hM.fr (fun k hk => by show g_4 k = _; rw [eg_4, va_up_n (by omega), pfr k (by simp only [List.mem_cons, List.not_mem_nil, or_false, not_or] <;> omega), hfr k (by omega)])) ⟨_, _, _, _, hP2⟩ (fun i hi => by by_cases e : i = k; (rw [e, pk_us]); (rw [pk_un e]; exact hme i (by omega))) (fun k hk => by show g_4 k = _; rw [eg_4, va_up_n (by omega), pfr k (by simp only [List.mem_cons, List.not_mem_nil, or_false, not_or] <;> omega), hfr k (by omega)]) hf5 (by omega) hW (lv_sub hl [1, 2, 0] rfl)
  exact loop2 _ 0 _ g _ _ _ (by omega) hS hM hPe (fun i hi => absurd hi (by omega)) (fun k hk => rfl) f11 (Nat.lt_succ_self _) hW (lv_sub hl [1, 2, 0] rfl)
end
section
/-- the component: the object 0, the machine, the log, the suite, the replay, the shortener -/
def XAt (cy : Nat → ClassId) (N : Nat) (ad : Nat → Nat) (g : Nat → va_E) (M : M4) (lg : List Nat) (lr lt : Nat → Int32) (st T : Nat) (p : Nat → Nat) (x : Nat → TT) : Prop := g 0 = .inr (8, [.ref (ad 1), .ref (ad 4), .ref (ad 9), .ref (ad 60), .ref (ad 62)]) ∧ MachAt cy N ad g M ∧ (∃ fc, LogAt cy N ad g lg.length fc lr lt st ∧ (∀ i, i < lg.length → fc i = nI (gl lg i)) ∧ ∀ x, x ∈ lg → x < 96) ∧ SuAt cy N ad g T p x ∧ (∃ psz pf mt lt, RepAt cy N ad g psz pf mt lt) ∧ ∃ w0 w1, g 62 = .inr (6, [.ref (ad 1), .int w0, .int w1])
theorem XAt.fr {cy : Nat → ClassId} {N : Nat} {ad : Nat → Nat} {g g' : Nat → va_E} {M : M4} {lg : List Nat} {lr lt : Nat → Int32} {st T : Nat} {p : Nat → Nat} {x : Nat → TT} (h : XAt cy N ad g M lg lr lt st T p x) (h1 : ∀ k, k < 63 ∨ 83 ≤ k → g' k = g k) : XAt cy N ad g' M lg lr lt st T p x := by
  obtain ⟨a, b, ⟨fc, c1, c2, c3⟩, d, ⟨e1, e2, e3, e4, e5⟩, ⟨f1, f2, f3⟩⟩ := h
  exact ⟨(h1 0 (by omega)).trans a, b.fr (fun k hk => h1 k (by omega)), ⟨fc, c1.fr (fun k _ _ => h1 k (by omega)), c2, c3⟩, d.fr (fun k _ _ => h1 k (by omega)), ⟨e1, e2, e3, e4, e5.1, e5.2.1, (h1 60 (by omega)).trans e5.2.2.1, (h1 61 (by omega)).trans e5.2.2.2⟩, ⟨f1, f2, (h1 62 (by omega)).trans f3⟩⟩
theorem fdq_congr {f f2 h h2 : Nat → Int32} : ∀ {d k : Nat}, (∀ i, i < k + d → f i = f2 i) → (∀ i, i < k + d → h i = h2 i) → fdq f h k d = fdq f2 h2 k d
  | 0, _, _, _ => rfl
  | d + 1, k, h1, h3 => by
    unfold fdq
    rw [h1 k (by omega), h3 k (by omega), fdq_congr (fun i hi => h1 i (by omega)) (fun i hi => h3 i (by omega))]
theorem dfq_congr {f f2 h h2 : Nat → Int32} : ∀ {n : Nat}, (∀ i, i < n → f i = f2 i) → (∀ i, i < n → h i = h2 i) → dfq f h n = dfq f2 h2 n
  | 0, _, _ => rfl
  | n + 1, h1, h3 => by
    unfold dfq
    rw [h1 n (by omega), h3 n (by omega), dfq_congr (fun i hi => h1 i (by omega)) (fun i hi => h3 i (by omega))]
/-- what the row of a test gives now, and where it differs first -/
def fdT (M : M4) (t : TT) : Int32 := fdq (rsq M (gl t.1) 0) t.2.1 0 t.1.length
def mtT (M : M4) (t : TT) : Int32 := mtq M (gl t.1) t.1.length
def stl (M : M4) (t : TT) : TT := (t.1, rsq M (gl t.1) 0, mtT M t, false, false)
def regV (st : Nat) (i : Int32) : Int32 := if 0 ≤ i ∧ i < 4 then nI (nib st i.toNatClampNeg) else -1

set_option maxHeartbeats 4000000 in
set_option maxRecDepth 100000 in
theorem c_fresh {l : Launch} {G : va_G} {cy : Nat → ClassId} {N : Nat} {ad : Nat → Nat} {g : Nat → va_E} {M : M4} {lg : List Nat} {lr lt : Nat → Int32} {st T : Nat} {p : Nat → Nat} {x : Nat → TT} (hX : XAt cy N ad g M lg lr lt st T p x) : MI l G cy (N, ad, g) yX8_fresh cX8_fresh 1 (some .int) (rmN 3) [.ref (ad 0)] (nA N ad (fun v g1 => v = nI lg.length ∧ XAt cy N ad g1 M ([]) lr lt 0 T p x ∧ ∀ k, 63 ≤ k → g1 k = g k)) := by
  refine NI.mk (by decide) (by intros; first | rfl | (simp_all; done)) (Nat.le_of_ble_eq_true rfl) ?_
  intro jp je js jm below meth jc A Q X hW ret ls hl
  have jx := X.hx
  have jb := X.hb
  have hl : lv_has ls 1 [(0, .ref (ad 0))] := hl
  have X : Cx G cy jp js jm _ jc cX8_fresh 1 RX8 A js.heap := X
  obtain ⟨f0, hM, ⟨fc, hL, hlc, hl96⟩, hS, ⟨psz, pf, mt, ltt, hP⟩, ⟨w0, w1, f62⟩⟩ := id hX
  obtain ⟨hok, h83, bc_, fs_, f1, -⟩ := id hM
  obtain ⟨-, hRL, hst, f4, f8⟩ := id hL
  have f5 := hRL.2.2.2.2.2.2.2.1
  have hlen := hRL.2.2.2.2.2.2.1
  obtain ⟨-, hT, hp12, hinj, ⟨ft, fm, f9, f10, f11, hft⟩, hx⟩ := id hS
  obtain ⟨-, hpsz, f60, f61⟩ := id hP
  refine lv_aload_n jx jb dX8_fresh_0 rfl (lv_at hl 0 rfl) ?_
  refine w_get X hW K8 (by omega) f0 1 (by decide) fl_X8_19 rfl dX8_fresh_1 ?_
  refine w_nV (As := []) X hW (c_clear hL) (by omega) f4 rfl rfl ml_X8_88 mf_X1_clear ⟨Nat.le_of_ble_eq_true rfl, Nat.le_of_ble_eq_true rfl⟩ hl.1 rfl (Nat.le_of_ble_eq_true rfl) ⟨Nat.le_of_ble_eq_true rfl, Nat.le_of_ble_eq_true rfl⟩ dX8_fresh_4 (fun r1 g1 H locs hp hW => ?_)
  obtain ⟨er, hL1, pfr⟩ := hp
  exact ret _ _ _ _ _ _ dX8_fresh_7 hW ⟨er, ⟨((show g1 0 = g 0 from by rw [pfr _ (by simp only [List.mem_cons, List.not_mem_nil, or_false, not_or] <;> omega)]).trans f0), hM.fr (fun k hk => by show g1 k = _; rw [pfr k (by simp only [List.mem_cons, List.not_mem_nil, or_false, not_or] <;> omega)]), ⟨fc, hL1, fun i hi => absurd hi (by simp), fun x hx => absurd hx (by simp)⟩, hS.fr (fun k hk1 hk2 => by show g1 k = _; rw [pfr k (by simp only [List.mem_cons, List.not_mem_nil, or_false, not_or] <;> omega)]), ⟨psz, pf, mt, ltt, h83, hpsz, (show g1 60 = g 60 from by rw [pfr _ (by simp only [List.mem_cons, List.not_mem_nil, or_false, not_or] <;> omega)]).trans f60, (show g1 61 = g 61 from by rw [pfr _ (by simp only [List.mem_cons, List.not_mem_nil, or_false, not_or] <;> omega)]).trans f61⟩, ⟨w0, w1, (show g1 62 = g 62 from by rw [pfr _ (by simp only [List.mem_cons, List.not_mem_nil, or_false, not_or] <;> omega)]).trans f62⟩⟩, (fun k hk => by show g1 k = _; rw [pfr k (by simp only [List.mem_cons, List.not_mem_nil, or_false, not_or] <;> omega)])⟩

set_option maxHeartbeats 4000000 in
set_option maxRecDepth 100000 in
theorem c_logged {l : Launch} {G : va_G} {cy : Nat → ClassId} {N : Nat} {ad : Nat → Nat} {g : Nat → va_E} {M : M4} {lg : List Nat} {lr lt : Nat → Int32} {st T : Nat} {p : Nat → Nat} {x : Nat → TT} {i what : Int32} (hX : XAt cy N ad g M lg lr lt st T p x) : RI l G cy (N, ad, g) yX8_logged cX8_logged 3 (some .int) (rmN 3) [.ref (ad 0), .int i, .int what] (tellV lg.length (gl lg) lr lt i what) := by
  refine RI.mk (by decide) (by first | rfl | exact bI_nar) (Nat.le_of_ble_eq_true rfl) ?_
  intro jp je js jm below meth jc A Q X hW ret ls hl
  have jx := X.hx
  have jb := X.hb
  have hl : lv_has ls 3 [(0, .ref (ad 0)), (1, .int i), (2, .int what)] := hl
  have X : Cx G cy jp js jm _ jc cX8_logged 3 RX8 A js.heap := X
  obtain ⟨f0, hM, ⟨fc, hL, hlc, hl96⟩, hS, ⟨psz, pf, mt, ltt, hP⟩, ⟨w0, w1, f62⟩⟩ := id hX
  obtain ⟨hok, h83, bc_, fs_, f1, -⟩ := id hM
  obtain ⟨-, hRL, hst, f4, f8⟩ := id hL
  have f5 := hRL.2.2.2.2.2.2.2.1
  have hlen := hRL.2.2.2.2.2.2.1
  obtain ⟨-, hT, hp12, hinj, ⟨ft, fm, f9, f10, f11, hft⟩, hx⟩ := id hS
  obtain ⟨-, hpsz, f60, f61⟩ := id hP
  refine lv_aload_n jx jb dX8_logged_0 rfl (lv_at hl 0 rfl) ?_
  refine w_get X hW K8 (by omega) f0 1 (by decide) fl_X8_19 rfl dX8_logged_1 ?_
  refine lv_iload_n jx jb dX8_logged_4 rfl (lv_at hl 1 rfl) ?_
  refine lv_iload_n jx jb dX8_logged_5 rfl (lv_at hl 2 rfl) ?_
  refine w_rV (As := [.int i, .int what]) X hW (c_tell hL (fun i hi => ⟨hlc i hi, hl96 _ (gl_mem hi)⟩)) (by omega) f4 rfl rfl ml_X8_92 mf_X1_tell ⟨Nat.le_of_ble_eq_true rfl, Nat.le_of_ble_eq_true rfl⟩ hl.1 rfl (Nat.le_of_ble_eq_true rfl) ⟨Nat.le_of_ble_eq_true rfl, Nat.le_of_ble_eq_true rfl⟩ dX8_logged_6 (fun H locs hW => ?_)
  exact ret _ _ _ _ _ dX8_logged_9 hW rfl

set_option maxHeartbeats 4000000 in
set_option maxRecDepth 100000 in
theorem c_reached {l : Launch} {G : va_G} {cy : Nat → ClassId} {N : Nat} {ad : Nat → Nat} {g : Nat → va_E} {M : M4} {lg : List Nat} {lr lt : Nat → Int32} {st T : Nat} {p : Nat → Nat} {x : Nat → TT} (hX : XAt cy N ad g M lg lr lt st T p x) : MI l G cy (N, ad, g) yX8_reached cX8_reached 1 (some .int) (rmN 5) [.ref (ad 0)] (nA N ad (fun v g1 => v = mtq M (gl lg) lg.length ∧ XAt cy N ad g1 M lg lr lt st T p x ∧ ∀ k, 63 ≤ k → g1 k = g k)) := by
  refine NI.mk (by decide) (by intros; first | rfl | (simp_all; done)) (Nat.le_of_ble_eq_true rfl) ?_
  intro jp je js jm below meth jc A Q X hW ret ls hl
  have jx := X.hx
  have jb := X.hb
  have hl : lv_has ls 1 [(0, .ref (ad 0))] := hl
  have X : Cx G cy jp js jm _ jc cX8_reached 1 RX8 A js.heap := X
  obtain ⟨f0, hM, ⟨fc, hL, hlc, hl96⟩, hS, ⟨psz, pf, mt, ltt, hP⟩, ⟨w0, w1, f62⟩⟩ := id hX
  obtain ⟨hok, h83, bc_, fs_, f1, -⟩ := id hM
  obtain ⟨-, hRL, hst, f4, f8⟩ := id hL
  have f5 := hRL.2.2.2.2.2.2.2.1
  have hlen := hRL.2.2.2.2.2.2.1
  obtain ⟨-, hT, hp12, hinj, ⟨ft, fm, f9, f10, f11, hft⟩, hx⟩ := id hS
  obtain ⟨-, hpsz, f60, f61⟩ := id hP
  refine lv_aload_n jx jb dX8_reached_0 rfl (lv_at hl 0 rfl) ?_
  refine w_get X hW K8 (by omega) f0 3 (by decide) fl_X8_35 rfl dX8_reached_1 ?_
  refine lv_aload_n jx jb dX8_reached_4 rfl (lv_at hl 0 rfl) ?_
  refine w_get X hW K8 (by omega) f0 1 (by decide) fl_X8_19 rfl dX8_reached_5 ?_
  refine w_getN X hW K1 (by omega) f4 0 (by decide) fn_X8_108 rfl dX8_reached_8 ?_
  refine w_nV (As := [.ref (ad 5)]) X hW (c_meets hM hP hRL (fun i hi => ⟨hlc i hi, hl96 _ (gl_mem hi)⟩) (by omega)) (by omega) f60 rfl rfl ml_X8_163 mf_X4_meets ⟨Nat.le_of_ble_eq_true rfl, Nat.le_of_ble_eq_true rfl⟩ hl.1 rfl (Nat.le_of_ble_eq_true rfl) ⟨Nat.le_of_ble_eq_true rfl, Nat.le_of_ble_eq_true rfl⟩ dX8_reached_11 (fun r1 g1 H locs hp hW => ?_)
  obtain ⟨er, pf1, hP1, hres, pfr⟩ := hp
  refine top_eq (y := mtq M (gl lg) lg.length) (er) ?_
  exact ret _ _ _ _ _ _ dX8_reached_14 hW ⟨rfl, ⟨((show g1 0 = g 0 from by rw [pfr _ (by simp only [List.mem_cons, List.not_mem_nil, or_false, not_or] <;> omega)]).trans f0), hM.fr (fun k hk => by show g1 k = _; rw [pfr k (by simp only [List.mem_cons, List.not_mem_nil, or_false, not_or] <;> omega)]), ⟨fc, hL.fr (fun k hk1 hk2 => by show g1 k = _; rw [pfr k (by simp only [List.mem_cons, List.not_mem_nil, or_false, not_or] <;> omega)]), hlc, hl96⟩, hS.fr (fun k hk1 hk2 => by show g1 k = _; rw [pfr k (by simp only [List.mem_cons, List.not_mem_nil, or_false, not_or] <;> omega)]), ⟨_, pf1, _, _, hP1⟩, ⟨w0, w1, (show g1 62 = g 62 from by rw [pfr _ (by simp only [List.mem_cons, List.not_mem_nil, or_false, not_or] <;> omega)]).trans f62⟩⟩, (fun k hk => by show g1 k = _; rw [pfr k (by simp only [List.mem_cons, List.not_mem_nil, or_false, not_or] <;> omega)])⟩

set_option maxHeartbeats 4000000 in
set_option maxRecDepth 100000 in
theorem c_never {l : Launch} {G : va_G} {cy : Nat → ClassId} {N : Nat} {ad : Nat → Nat} {g : Nat → va_E} {M : M4} {lg : List Nat} {lr lt : Nat → Int32} {st T : Nat} {p : Nat → Nat} {x : Nat → TT} (hX : XAt cy N ad g M lg lr lt st T p x) : MI l G cy (N, ad, g) yX8_never cX8_never 1 (some .int) (rmN 5) [.ref (ad 0)] (nA N ad (fun v g1 => v = abq M 24 &&& (mtq M (gl lg) lg.length ^^^ (-1)) ∧ XAt cy N ad g1 M lg lr lt st T p x ∧ ∀ k, 63 ≤ k → g1 k = g k)) := by
  refine NI.mk (by decide) (by intros; first | rfl | (simp_all; done)) (Nat.le_of_ble_eq_true rfl) ?_
  intro jp je js jm below meth jc A Q X hW ret ls hl
  have jx := X.hx
  have jb := X.hb
  have hl : lv_has ls 1 [(0, .ref (ad 0))] := hl
  have X : Cx G cy jp js jm _ jc cX8_never 1 RX8 A js.heap := X
  obtain ⟨f0, hM, ⟨fc, hL, hlc, hl96⟩, hS, ⟨psz, pf, mt, ltt, hP⟩, ⟨w0, w1, f62⟩⟩ := id hX
  obtain ⟨hok, h83, bc_, fs_, f1, -⟩ := id hM
  obtain ⟨-, hRL, hst, f4, f8⟩ := id hL
  have f5 := hRL.2.2.2.2.2.2.2.1
  have hlen := hRL.2.2.2.2.2.2.1
  obtain ⟨-, hT, hp12, hinj, ⟨ft, fm, f9, f10, f11, hft⟩, hx⟩ := id hS
  obtain ⟨-, hpsz, f60, f61⟩ := id hP
  refine lv_aload_n jx jb dX8_never_0 rfl (lv_at hl 0 rfl) ?_
  refine w_get X hW K8 (by omega) f0 0 (by decide) fl_X8_12 rfl dX8_never_1 ?_
  refine w_rV (As := []) X hW (c_allBits hM) (by omega) f1 rfl rfl ml_X8_185 mf_X2_allBits ⟨Nat.le_of_ble_eq_true rfl, Nat.le_of_ble_eq_true rfl⟩ hl.1 rfl (Nat.le_of_ble_eq_true rfl) ⟨Nat.le_of_ble_eq_true rfl, Nat.le_of_ble_eq_true rfl⟩ dX8_never_4 (fun H locs hW => ?_)
  refine lv_aload_n jx jb dX8_never_7 rfl (lv_at hl 0 rfl) ?_
  refine w_get X hW K8 (by omega) f0 3 (by decide) fl_X8_35 rfl dX8_never_8 ?_
  refine lv_aload_n jx jb dX8_never_11 rfl (lv_at hl 0 rfl) ?_
  refine w_get X hW K8 (by omega) f0 1 (by decide) fl_X8_19 rfl dX8_never_12 ?_
  refine w_getN X hW K1 (by omega) f4 0 (by decide) fn_X8_108 rfl dX8_never_15 ?_
  refine w_nV (As := [.ref (ad 5)]) X hW (c_meets hM hP hRL (fun i hi => ⟨hlc i hi, hl96 _ (gl_mem hi)⟩) (by omega)) (by omega) f60 rfl rfl ml_X8_163 mf_X4_meets ⟨Nat.le_of_ble_eq_true rfl, Nat.le_of_ble_eq_true rfl⟩ hl.1 rfl (Nat.le_of_ble_eq_true rfl) ⟨Nat.le_of_ble_eq_true rfl, Nat.le_of_ble_eq_true rfl⟩ dX8_never_18 (fun r1 g1 H locs hp hW => ?_)
  obtain ⟨er, pf1, hP1, hres, pfr⟩ := hp
  refine top_eq (y := mtq M (gl lg) lg.length) (er) ?_
  refine lv_iconst (v := -1) jx jb dX8_never_21 (by decide) ?_
  refine lv_ixor jx jb dX8_never_22 ?_
  refine lv_iand jx jb dX8_never_23 ?_
  exact ret _ _ _ _ _ _ dX8_never_24 hW ⟨rfl, ⟨((show g1 0 = g 0 from by rw [pfr _ (by simp only [List.mem_cons, List.not_mem_nil, or_false, not_or] <;> omega)]).trans f0), hM.fr (fun k hk => by show g1 k = _; rw [pfr k (by simp only [List.mem_cons, List.not_mem_nil, or_false, not_or] <;> omega)]), ⟨fc, hL.fr (fun k hk1 hk2 => by show g1 k = _; rw [pfr k (by simp only [List.mem_cons, List.not_mem_nil, or_false, not_or] <;> omega)]), hlc, hl96⟩, hS.fr (fun k hk1 hk2 => by show g1 k = _; rw [pfr k (by simp only [List.mem_cons, List.not_mem_nil, or_false, not_or] <;> omega)]), ⟨_, pf1, _, _, hP1⟩, ⟨w0, w1, (show g1 62 = g 62 from by rw [pfr _ (by simp only [List.mem_cons, List.not_mem_nil, or_false, not_or] <;> omega)]).trans f62⟩⟩, (fun k hk => by show g1 k = _; rw [pfr k (by simp only [List.mem_cons, List.not_mem_nil, or_false, not_or] <;> omega)])⟩

set_option maxHeartbeats 4000000 in
set_option maxRecDepth 100000 in
theorem c_chosen {l : Launch} {G : va_G} {cy : Nat → ClassId} {N : Nat} {ad : Nat → Nat} {g : Nat → va_E} {M : M4} {lg : List Nat} {lr lt : Nat → Int32} {st T : Nat} {p : Nat → Nat} {x : Nat → TT} (hX : XAt cy N ad g M lg lr lt st T p x) : MI l G cy (N, ad, g) yX8_chosen cX8_chosen 1 (some .int) (rmN 6) [.ref (ad 0)] (nA N ad (fun v g1 => ∃ fk, (∀ i, i < T → fk i = mtT M (x (p i))) ∧ v = nI (lhC fk T (2 ^ T)) ∧ XAt cy N ad g1 M lg lr lt st T p x ∧ ∀ k, 63 ≤ k → g1 k = g k)) := by
  refine NI.mk (by decide) (by intros; first | rfl | (simp_all; done)) (Nat.le_of_ble_eq_true rfl) ?_
  intro jp je js jm below meth jc A Q X hW ret ls hl
  have jx := X.hx
  have jb := X.hb
  have hl : lv_has ls 1 [(0, .ref (ad 0))] := hl
  have X : Cx G cy jp js jm _ jc cX8_chosen 1 RX8 A js.heap := X
  obtain ⟨f0, hM, ⟨fc, hL, hlc, hl96⟩, hS, ⟨psz, pf, mt, ltt, hP⟩, ⟨w0, w1, f62⟩⟩ := id hX
  obtain ⟨hok, h83, bc_, fs_, f1, -⟩ := id hM
  obtain ⟨-, hRL, hst, f4, f8⟩ := id hL
  have f5 := hRL.2.2.2.2.2.2.2.1
  have hlen := hRL.2.2.2.2.2.2.1
  obtain ⟨-, hT, hp12, hinj, ⟨ft, fm, f9, f10, f11, hft⟩, hx⟩ := id hS
  obtain ⟨-, hpsz, f60, f61⟩ := id hP
  refine lv_aload_n jx jb dX8_chosen_0 rfl (lv_at hl 0 rfl) ?_
  refine w_get X hW K8 (by omega) f0 2 (by decide) fl_X8_26 rfl dX8_chosen_1 ?_
  refine lv_aload_n jx jb dX8_chosen_4 rfl (lv_at hl 0 rfl) ?_
  refine w_get X hW K8 (by omega) f0 3 (by decide) fl_X8_35 rfl dX8_chosen_5 ?_
  refine w_nV (As := [.ref (ad 60)]) X hW (c_leastHeap hS hM ⟨_, _, _, _, hP⟩) (by omega) f9 rfl rfl ml_X8_188 mf_X7_leastHeap ⟨Nat.le_of_ble_eq_true rfl, Nat.le_of_ble_eq_true rfl⟩ hl.1 rfl (Nat.le_of_ble_eq_true rfl) ⟨Nat.le_of_ble_eq_true rfl, Nat.le_of_ble_eq_true rfl⟩ dX8_chosen_8 (fun r1 g1 H locs hp hW => ?_)
  obtain ⟨fk, hfk, er, hS1, hPe, pfr⟩ := hp
  refine top_eq (y := nI (lhC fk T (2 ^ T))) (er) ?_
  exact ret _ _ _ _ _ _ dX8_chosen_11 hW ⟨fk, hfk, rfl, ⟨((show g1 0 = g 0 from by rw [pfr _ (by omega)]).trans f0), hM.fr (fun k hk => by show g1 k = _; rw [pfr k (by omega)]), ⟨fc, hL.fr (fun k hk1 hk2 => by show g1 k = _; rw [pfr k (by omega)]), hlc, hl96⟩, hS1, hPe, ⟨w0, w1, (show g1 62 = g 62 from by rw [pfr _ (by omega)]).trans f62⟩⟩, (fun k hk => by show g1 k = _; rw [pfr k (by omega)])⟩

set_option maxHeartbeats 4000000 in
set_option maxRecDepth 100000 in
theorem c_fewest {l : Launch} {G : va_G} {cy : Nat → ClassId} {N : Nat} {ad : Nat → Nat} {g : Nat → va_E} {M : M4} {lg : List Nat} {lr lt : Nat → Int32} {st T : Nat} {p : Nat → Nat} {x : Nat → TT} (hX : XAt cy N ad g M lg lr lt st T p x) : MI l G cy (N, ad, g) yX8_fewest cX8_fewest 1 (some .int) (rmN 6) [.ref (ad 0)] (nA N ad (fun v g1 => ∃ fk, (∀ i, i < T → fk i = mtT M (x (p i))) ∧ v = nI (pc2 (lhC fk T (2 ^ T))) ∧ XAt cy N ad g1 M lg lr lt st T p x ∧ ∀ k, 63 ≤ k → g1 k = g k)) := by
  refine NI.mk (by decide) (by intros; first | rfl | (simp_all; done)) (Nat.le_of_ble_eq_true rfl) ?_
  intro jp je js jm below meth jc A Q X hW ret ls hl
  have jx := X.hx
  have jb := X.hb
  have hl : lv_has ls 1 [(0, .ref (ad 0))] := hl
  have X : Cx G cy jp js jm _ jc cX8_fewest 1 RX8 A js.heap := X
  obtain ⟨f0, hM, ⟨fc, hL, hlc, hl96⟩, hS, ⟨psz, pf, mt, ltt, hP⟩, ⟨w0, w1, f62⟩⟩ := id hX
  obtain ⟨hok, h83, bc_, fs_, f1, -⟩ := id hM
  obtain ⟨-, hRL, hst, f4, f8⟩ := id hL
  have f5 := hRL.2.2.2.2.2.2.2.1
  have hlen := hRL.2.2.2.2.2.2.1
  obtain ⟨-, hT, hp12, hinj, ⟨ft, fm, f9, f10, f11, hft⟩, hx⟩ := id hS
  obtain ⟨-, hpsz, f60, f61⟩ := id hP
  refine lv_aload_n jx jb dX8_fewest_0 rfl (lv_at hl 0 rfl) ?_
  refine w_get X hW K8 (by omega) f0 2 (by decide) fl_X8_26 rfl dX8_fewest_1 ?_
  refine lv_aload_n jx jb dX8_fewest_4 rfl (lv_at hl 0 rfl) ?_
  refine w_get X hW K8 (by omega) f0 3 (by decide) fl_X8_35 rfl dX8_fewest_5 ?_
  refine w_nV (As := [.ref (ad 60)]) X hW (c_leastHeap hS hM ⟨_, _, _, _, hP⟩) (by omega) f9 rfl rfl ml_X8_188 mf_X7_leastHeap ⟨Nat.le_of_ble_eq_true rfl, Nat.le_of_ble_eq_true rfl⟩ hl.1 rfl (Nat.le_of_ble_eq_true rfl) ⟨Nat.le_of_ble_eq_true rfl, Nat.le_of_ble_eq_true rfl⟩ dX8_fewest_8 (fun r1 g1 H locs hp hW => ?_)
  obtain ⟨fk, hfk, er, hS1, hPe, pfr⟩ := hp
  refine top_eq (y := nI (lhC fk T (2 ^ T))) (er) ?_
  refine w_rS (As := [.int (nI (lhC fk T (2 ^ T)))]) X hW (c_bitCount) ml_X8_192 mf_J6_bitCount_0f7a4 ⟨Nat.le_of_ble_eq_true rfl, Nat.le_of_ble_eq_true rfl⟩ hl.1 rfl (Nat.le_of_ble_eq_true rfl) ⟨Nat.le_of_ble_eq_true rfl, Nat.le_of_ble_eq_true rfl⟩ dX8_fewest_11 (fun H locs hW => ?_)
  exact ret _ _ _ _ _ _ dX8_fewest_14 hW ⟨fk, hfk, bcI_pc _ (lhC_lt hT (Nat.le_refl _)), ⟨((show g1 0 = g 0 from by rw [pfr _ (by omega)]).trans f0), hM.fr (fun k hk => by show g1 k = _; rw [pfr k (by omega)]), ⟨fc, hL.fr (fun k hk1 hk2 => by show g1 k = _; rw [pfr k (by omega)]), hlc, hl96⟩, hS1, hPe, ⟨w0, w1, (show g1 62 = g 62 from by rw [pfr _ (by omega)]).trans f62⟩⟩, (fun k hk => by show g1 k = _; rw [pfr k (by omega)])⟩

set_option maxHeartbeats 4000000 in
set_option maxRecDepth 100000 in
theorem c_register {l : Launch} {G : va_G} {cy : Nat → ClassId} {N : Nat} {ad : Nat → Nat} {g : Nat → va_E} {M : M4} {lg : List Nat} {lr lt : Nat → Int32} {st T : Nat} {p : Nat → Nat} {x : Nat → TT} {i : Int32} (hX : XAt cy N ad g M lg lr lt st T p x) : RI l G cy (N, ad, g) yX8_register cX8_register 2 (some .int) (rmN 1) [.ref (ad 0), .int i] (regV st i) := by
  refine RI.mk (by decide) (by first | rfl | exact bI_nar) (Nat.le_of_ble_eq_true rfl) ?_
  intro jp je js jm below meth jc A Q X hW ret ls hl
  have jx := X.hx
  have jb := X.hb
  have hl : lv_has ls 2 [(0, .ref (ad 0)), (1, .int i)] := hl
  have X : Cx G cy jp js jm _ jc cX8_register 2 RX8 A js.heap := X
  obtain ⟨f0, hM, ⟨fc, hL, hlc, hl96⟩, hS, ⟨psz, pf, mt, ltt, hP⟩, ⟨w0, w1, f62⟩⟩ := id hX
  obtain ⟨hok, h83, bc_, fs_, f1, -⟩ := id hM
  obtain ⟨-, hRL, hst, f4, f8⟩ := id hL
  have f5 := hRL.2.2.2.2.2.2.2.1
  have hlen := hRL.2.2.2.2.2.2.1
  obtain ⟨-, hT, hp12, hinj, ⟨ft, fm, f9, f10, f11, hft⟩, hx⟩ := id hS
  obtain ⟨-, hpsz, f60, f61⟩ := id hP
  refine lv_iload_n jx jb dX8_register_0 rfl (lv_at hl 1 rfl) ?_
  refine lv_iconst (v := 4) jx jb dX8_register_1 (by decide) ?_
  refine w_rS (As := [.int i, .int 4]) X hW (c_isBelow) ml_X8_77 mf_X8_isBelow ⟨Nat.le_of_ble_eq_true rfl, Nat.le_of_ble_eq_true rfl⟩ hl.1 rfl (Nat.le_of_ble_eq_true rfl) ⟨Nat.le_of_ble_eq_true rfl, Nat.le_of_ble_eq_true rfl⟩ dX8_register_2 (fun H locs hW => ?_)
  refine lv_if_eq (tgt := 22) jx jb dX8_register_5 (by decide) (fun c5 => ?_) (fun c5 => ?_)
  · refine lv_iconst (v := -1) jx jb dX8_register_22 (by decide) ?_
    exact ret _ _ _ _ _ dX8_register_23 hW (by unfold regV; rw [if_neg (bI_0.mp c5)])
  · refine lv_aload_n jx jb dX8_register_8 rfl (lv_at hl 0 rfl) ?_
    refine w_get X hW K8 (by omega) f0 1 (by decide) fl_X8_19 rfl dX8_register_9 ?_
    refine w_getN X hW K1 (by omega) f4 2 (by decide) fn_X8_197 rfl dX8_register_12 ?_
    refine lv_iload_n jx jb dX8_register_15 rfl (lv_at hl 1 rfl) ?_
    obtain ⟨j, hj, ej⟩ := i_below (n := 4) (by decide) (bI_n0.mp c5)
    refine top_eq (y := nI j) ej ?_
    refine w_rS (As := [.int (nI st), .int (nI j)]) X hW (c_valueIn hst hj) ml_X8_200 mf_X8_valueIn ⟨Nat.le_of_ble_eq_true rfl, Nat.le_of_ble_eq_true rfl⟩ hl.1 rfl (Nat.le_of_ble_eq_true rfl) ⟨Nat.le_of_ble_eq_true rfl, Nat.le_of_ble_eq_true rfl⟩ dX8_register_16 (fun H locs hW => ?_)
    refine lv_goto (tgt := 23) jx jb dX8_register_19 (by decide) ?_
    exact ret _ _ _ _ _ dX8_register_23 hW (by unfold regV; rw [if_pos (bI_n0.mp c5), ej, i_cl (by omega)])

set_option maxHeartbeats 4000000 in
set_option maxRecDepth 100000 in
theorem c_xFirstDiff {l : Launch} {G : va_G} {cy : Nat → ClassId} {N : Nat} {ad : Nat → Nat} {g : Nat → va_E} {M : M4} {lg : List Nat} {lr lt : Nat → Int32} {st T : Nat} {p : Nat → Nat} {x : Nat → TT} {j : Nat} (hX : XAt cy N ad g M lg lr lt st T p x) (hj : j < T) : MI l G cy (N, ad, g) yX8_firstDifference cX8_firstDifference 2 (some .int) (rmN 4) [.ref (ad 0), .ref (ad (12 + 4 * p j))] (nA N ad (fun v g1 => v = fdT M (x (p j)) ∧ XAt cy N ad g1 M lg lr lt st T p x ∧ ∀ k, 63 ≤ k → g1 k = g k)) := by
  refine NI.mk (by decide) (by intros; first | rfl | (simp_all; done)) (Nat.le_of_ble_eq_true rfl) ?_
  intro jp je js jm below meth jc A Q X hW ret ls hl
  have jx := X.hx
  have jb := X.hb
  have hl : lv_has ls 2 [(0, .ref (ad 0)), (1, .ref (ad (12 + 4 * p j)))] := hl
  have X : Cx G cy jp js jm _ jc cX8_firstDifference 2 RX8 A js.heap := X
  obtain ⟨f0, hM, ⟨fc, hL, hlc, hl96⟩, hS, ⟨psz, pf, mt, ltt, hP⟩, ⟨w0, w1, f62⟩⟩ := id hX
  obtain ⟨hok, h83, bc_, fs_, f1, -⟩ := id hM
  obtain ⟨-, hRL, hst, f4, f8⟩ := id hL
  have f5 := hRL.2.2.2.2.2.2.2.1
  have hlen := hRL.2.2.2.2.2.2.1
  obtain ⟨-, hT, hp12, hinj, ⟨ft, fm, f9, f10, f11, hft⟩, hx⟩ := id hS
  obtain ⟨-, hpsz, f60, f61⟩ := id hP
  have hpj := hp12 j (by omega)
  obtain ⟨tfc, tfr, t1, tR, tc, t96, ta⟩ := hx (p j) hpj
  have htl := tR.2.2.2.2.2.2.1
  refine lv_aload_n jx jb dX8_firstDifference_0 rfl (lv_at hl 0 rfl) ?_
  refine w_get X hW K8 (by omega) f0 3 (by decide) fl_X8_35 rfl dX8_firstDifference_1 ?_
  refine lv_aload_n jx jb dX8_firstDifference_4 rfl (lv_at hl 1 rfl) ?_
  refine w_getN X hW K3 (by omega) t1 0 (by decide) fn_X8_102 rfl dX8_firstDifference_5 ?_
  refine w_nVv (As := [.ref (ad (13 + 4 * p j))]) X hW (c_play hM hP tR (fun i hi => ⟨tc i hi, t96 _ (gl_mem hi)⟩) (by omega)) (by omega) f60 rfl rfl ml_X8_115 mf_X4_play ⟨Nat.le_of_ble_eq_true rfl, Nat.le_of_ble_eq_true rfl⟩ hl.1 rfl (Nat.le_of_ble_eq_true rfl) ⟨Nat.le_of_ble_eq_true rfl, Nat.le_of_ble_eq_true rfl⟩ dX8_firstDifference_8 (fun g1 H locs hp hW => ?_)
  obtain ⟨pf1, hP1, hres, pfr⟩ := hp
  obtain ⟨-, -, p60, p61⟩ := id hP1
  have hf1 : g1 0 = .inr (8, [.ref (ad 1), .ref (ad 4), .ref (ad 9), .ref (ad 60), .ref (ad 62)]) := (pfr 0 (by simp only [List.mem_cons, List.not_mem_nil, or_false, not_or] <;> omega)).trans f0
  have hf2 : g1 (12 + 4 * p j) = .inr (3, [.ref (ad (13 + 4 * p j)), .int ((x (p j)).2.2.1), .int (bI ((x (p j)).2.2.2.1 = true)), .int (bI ((x (p j)).2.2.2.2 = true))]) := (pfr (12 + 4 * p j) (by simp only [List.mem_cons, List.not_mem_nil, or_false, not_or] <;> omega)).trans t1
  have hf3 : g1 (13 + 4 * p j) = .inr (5, [.ref (ad (14 + 4 * p j)), .ref (ad (15 + 4 * p j)), .int (nI (x (p j)).1.length)]) := (pfr (13 + 4 * p j) (by simp only [List.mem_cons, List.not_mem_nil, or_false, not_or] <;> omega)).trans tR.2.2.2.2.2.2.2.1
  have tR1 := tR.fr (pfr (13 + 4 * p j) (by simp only [List.mem_cons, List.not_mem_nil, or_false, not_or] <;> omega)) (pfr (14 + 4 * p j) (by simp only [List.mem_cons, List.not_mem_nil, or_false, not_or] <;> omega)) (pfr (15 + 4 * p j) (by simp only [List.mem_cons, List.not_mem_nil, or_false, not_or] <;> omega))
  refine lv_aload_n jx jb dX8_firstDifference_11 rfl (lv_at hl 0 rfl) ?_
  refine w_get X hW K8 (by omega) hf1 3 (by decide) fl_X8_35 rfl dX8_firstDifference_12 ?_
  refine lv_aload_n jx jb dX8_firstDifference_15 rfl (lv_at hl 1 rfl) ?_
  refine w_getN X hW K3 (by omega) hf2 0 (by decide) fn_X8_102 rfl dX8_firstDifference_16 ?_
  refine w_rV (As := [.ref (ad (13 + 4 * p j))]) X hW (c_firstDiff hP1 tR1) (by omega) p60 rfl rfl ml_X8_212 mf_X4_firstDifference ⟨Nat.le_of_ble_eq_true rfl, Nat.le_of_ble_eq_true rfl⟩ hl.1 rfl (Nat.le_of_ble_eq_true rfl) ⟨Nat.le_of_ble_eq_true rfl, Nat.le_of_ble_eq_true rfl⟩ dX8_firstDifference_19 (fun H locs hW => ?_)
  refine top_eq (y := fdT M (x (p j))) (fdq_congr (fun i hi => hres i (by omega)) (fun i hi => ta i (by omega))) ?_
  exact ret _ _ _ _ _ _ dX8_firstDifference_22 hW ⟨rfl, ⟨hf1, hM.fr (fun k hk => by show g1 k = _; rw [pfr k (by simp only [List.mem_cons, List.not_mem_nil, or_false, not_or] <;> omega)]), ⟨fc, hL.fr (fun k hk1 hk2 => by show g1 k = _; rw [pfr k (by simp only [List.mem_cons, List.not_mem_nil, or_false, not_or] <;> omega)]), hlc, hl96⟩, hS.fr (fun k hk1 hk2 => by show g1 k = _; rw [pfr k (by simp only [List.mem_cons, List.not_mem_nil, or_false, not_or] <;> omega)]), ⟨_, pf1, _, _, hP1⟩, ⟨w0, w1, (show g1 62 = g 62 from by rw [pfr _ (by simp only [List.mem_cons, List.not_mem_nil, or_false, not_or] <;> omega)]).trans f62⟩⟩, (fun k hk => by show g1 k = _; rw [pfr k (by simp only [List.mem_cons, List.not_mem_nil, or_false, not_or] <;> omega)])⟩

set_option maxHeartbeats 4000000 in
set_option maxRecDepth 100000 in
theorem c_resultNow {l : Launch} {G : va_G} {cy : Nat → ClassId} {N : Nat} {ad : Nat → Nat} {g : Nat → va_E} {M : M4} {lg : List Nat} {lr lt : Nat → Int32} {st T : Nat} {p : Nat → Nat} {x : Nat → TT} {j k : Nat} (hX : XAt cy N ad g M lg lr lt st T p x) (hj : j < T) (hk : k < (x (p j)).1.length) : MI l G cy (N, ad, g) yX8_resultNow cX8_resultNow 3 (some .int) (rmN 4) [.ref (ad 0), .ref (ad (12 + 4 * p j)), .int (nI k)] (nA N ad (fun v g1 => v = rsq M (gl (x (p j)).1) 0 k ∧ XAt cy N ad g1 M lg lr lt st T p x ∧ ∀ k, 63 ≤ k → g1 k = g k)) := by
  refine NI.mk (by decide) (by intros; first | rfl | (simp_all; done)) (Nat.le_of_ble_eq_true rfl) ?_
  intro jp je js jm below meth jc A Q X hW ret ls hl
  have jx := X.hx
  have jb := X.hb
  have hl : lv_has ls 3 [(0, .ref (ad 0)), (1, .ref (ad (12 + 4 * p j))), (2, .int (nI k))] := hl
  have X : Cx G cy jp js jm _ jc cX8_resultNow 3 RX8 A js.heap := X
  obtain ⟨f0, hM, ⟨fc, hL, hlc, hl96⟩, hS, ⟨psz, pf, mt, ltt, hP⟩, ⟨w0, w1, f62⟩⟩ := id hX
  obtain ⟨hok, h83, bc_, fs_, f1, -⟩ := id hM
  obtain ⟨-, hRL, hst, f4, f8⟩ := id hL
  have f5 := hRL.2.2.2.2.2.2.2.1
  have hlen := hRL.2.2.2.2.2.2.1
  obtain ⟨-, hT, hp12, hinj, ⟨ft, fm, f9, f10, f11, hft⟩, hx⟩ := id hS
  obtain ⟨-, hpsz, f60, f61⟩ := id hP
  have hpj := hp12 j (by omega)
  obtain ⟨tfc, tfr, t1, tR, tc, t96, ta⟩ := hx (p j) hpj
  have htl := tR.2.2.2.2.2.2.1
  refine lv_aload_n jx jb dX8_resultNow_0 rfl (lv_at hl 0 rfl) ?_
  refine w_get X hW K8 (by omega) f0 3 (by decide) fl_X8_35 rfl dX8_resultNow_1 ?_
  refine lv_aload_n jx jb dX8_resultNow_4 rfl (lv_at hl 1 rfl) ?_
  refine w_getN X hW K3 (by omega) t1 0 (by decide) fn_X8_102 rfl dX8_resultNow_5 ?_
  refine w_nVv (As := [.ref (ad (13 + 4 * p j))]) X hW (c_play hM hP tR (fun i hi => ⟨tc i hi, t96 _ (gl_mem hi)⟩) (by omega)) (by omega) f60 rfl rfl ml_X8_115 mf_X4_play ⟨Nat.le_of_ble_eq_true rfl, Nat.le_of_ble_eq_true rfl⟩ hl.1 rfl (Nat.le_of_ble_eq_true rfl) ⟨Nat.le_of_ble_eq_true rfl, Nat.le_of_ble_eq_true rfl⟩ dX8_resultNow_8 (fun g1 H locs hp hW => ?_)
  obtain ⟨pf1, hP1, hres, pfr⟩ := hp
  obtain ⟨-, -, p60, p61⟩ := id hP1
  have hf1 : g1 0 = .inr (8, [.ref (ad 1), .ref (ad 4), .ref (ad 9), .ref (ad 60), .ref (ad 62)]) := (pfr 0 (by simp only [List.mem_cons, List.not_mem_nil, or_false, not_or] <;> omega)).trans f0
  have hf2 : g1 (12 + 4 * p j) = .inr (3, [.ref (ad (13 + 4 * p j)), .int ((x (p j)).2.2.1), .int (bI ((x (p j)).2.2.2.1 = true)), .int (bI ((x (p j)).2.2.2.2 = true))]) := (pfr (12 + 4 * p j) (by simp only [List.mem_cons, List.not_mem_nil, or_false, not_or] <;> omega)).trans t1
  have hf3 : g1 (13 + 4 * p j) = .inr (5, [.ref (ad (14 + 4 * p j)), .ref (ad (15 + 4 * p j)), .int (nI (x (p j)).1.length)]) := (pfr (13 + 4 * p j) (by simp only [List.mem_cons, List.not_mem_nil, or_false, not_or] <;> omega)).trans tR.2.2.2.2.2.2.2.1
  have tR1 := tR.fr (pfr (13 + 4 * p j) (by simp only [List.mem_cons, List.not_mem_nil, or_false, not_or] <;> omega)) (pfr (14 + 4 * p j) (by simp only [List.mem_cons, List.not_mem_nil, or_false, not_or] <;> omega)) (pfr (15 + 4 * p j) (by simp only [List.mem_cons, List.not_mem_nil, or_false, not_or] <;> omega))
  refine lv_aload_n jx jb dX8_resultNow_11 rfl (lv_at hl 0 rfl) ?_
  refine w_get X hW K8 (by omega) hf1 3 (by decide) fl_X8_35 rfl dX8_resultNow_12 ?_
  refine lv_iload_n jx jb dX8_resultNow_15 rfl (lv_at hl 2 rfl) ?_
  refine w_rV (As := [.int (nI k)]) X hW (c_pResultAt hP1 hk) (by omega) p60 rfl rfl ml_X8_214 mf_X4_resultAt ⟨Nat.le_of_ble_eq_true rfl, Nat.le_of_ble_eq_true rfl⟩ hl.1 rfl (Nat.le_of_ble_eq_true rfl) ⟨Nat.le_of_ble_eq_true rfl, Nat.le_of_ble_eq_true rfl⟩ dX8_resultNow_16 (fun H locs hW => ?_)
  refine top_eq (y := rsq M (gl (x (p j)).1) 0 k) (hres k hk) ?_
  exact ret _ _ _ _ _ _ dX8_resultNow_19 hW ⟨rfl, ⟨hf1, hM.fr (fun k hk => by show g1 k = _; rw [pfr k (by simp only [List.mem_cons, List.not_mem_nil, or_false, not_or] <;> omega)]), ⟨fc, hL.fr (fun k hk1 hk2 => by show g1 k = _; rw [pfr k (by simp only [List.mem_cons, List.not_mem_nil, or_false, not_or] <;> omega)]), hlc, hl96⟩, hS.fr (fun k hk1 hk2 => by show g1 k = _; rw [pfr k (by simp only [List.mem_cons, List.not_mem_nil, or_false, not_or] <;> omega)]), ⟨_, pf1, _, _, hP1⟩, ⟨w0, w1, (show g1 62 = g 62 from by rw [pfr _ (by simp only [List.mem_cons, List.not_mem_nil, or_false, not_or] <;> omega)]).trans f62⟩⟩, (fun k hk => by show g1 k = _; rw [pfr k (by simp only [List.mem_cons, List.not_mem_nil, or_false, not_or] <;> omega)])⟩

set_option maxHeartbeats 4000000 in
set_option maxRecDepth 100000 in
theorem c_diffLog {l : Launch} {G : va_G} {cy : Nat → ClassId} {N : Nat} {ad : Nat → Nat} {g : Nat → va_E} {M : M4} {lg : List Nat} {lr lt : Nat → Int32} {st T : Nat} {p : Nat → Nat} {x : Nat → TT} (hX : XAt cy N ad g M lg lr lt st T p x) : MI l G cy (N, ad, g) yX8_differencesOfLog cX8_differencesOfLog 1 (some .int) (rmN 4) [.ref (ad 0)] (nA N ad (fun v g1 => v = nI (dfq (rsq M (gl lg) 0) lr lg.length) ∧ XAt cy N ad g1 M lg lr lt st T p x ∧ ∀ k, 63 ≤ k → g1 k = g k)) := by
  refine NI.mk (by decide) (by intros; first | rfl | (simp_all; done)) (Nat.le_of_ble_eq_true rfl) ?_
  intro jp je js jm below meth jc A Q X hW ret ls hl
  have jx := X.hx
  have jb := X.hb
  have hl : lv_has ls 1 [(0, .ref (ad 0))] := hl
  have X : Cx G cy jp js jm _ jc cX8_differencesOfLog 1 RX8 A js.heap := X
  obtain ⟨f0, hM, ⟨fc, hL, hlc, hl96⟩, hS, ⟨psz, pf, mt, ltt, hP⟩, ⟨w0, w1, f62⟩⟩ := id hX
  obtain ⟨hok, h83, bc_, fs_, f1, -⟩ := id hM
  obtain ⟨-, hRL, hst, f4, f8⟩ := id hL
  have f5 := hRL.2.2.2.2.2.2.2.1
  have hlen := hRL.2.2.2.2.2.2.1
  obtain ⟨-, hT, hp12, hinj, ⟨ft, fm, f9, f10, f11, hft⟩, hx⟩ := id hS
  obtain ⟨-, hpsz, f60, f61⟩ := id hP
  refine lv_aload_n jx jb dX8_differencesOfLog_0 rfl (lv_at hl 0 rfl) ?_
  refine w_get X hW K8 (by omega) f0 3 (by decide) fl_X8_35 rfl dX8_differencesOfLog_1 ?_
  refine lv_aload_n jx jb dX8_differencesOfLog_4 rfl (lv_at hl 0 rfl) ?_
  refine w_get X hW K8 (by omega) f0 1 (by decide) fl_X8_19 rfl dX8_differencesOfLog_5 ?_
  refine w_getN X hW K1 (by omega) f4 0 (by decide) fn_X8_108 rfl dX8_differencesOfLog_8 ?_
  refine w_nVv (As := [.ref (ad 5)]) X hW (c_play hM hP hRL (fun i hi => ⟨hlc i hi, hl96 _ (gl_mem hi)⟩) (by omega)) (by omega) f60 rfl rfl ml_X8_115 mf_X4_play ⟨Nat.le_of_ble_eq_true rfl, Nat.le_of_ble_eq_true rfl⟩ hl.1 rfl (Nat.le_of_ble_eq_true rfl) ⟨Nat.le_of_ble_eq_true rfl, Nat.le_of_ble_eq_true rfl⟩ dX8_differencesOfLog_11 (fun g1 H locs hp hW => ?_)
  obtain ⟨pf1, hP1, hres, pfr⟩ := hp
  obtain ⟨-, -, p60, p61⟩ := id hP1
  have hf1 : g1 0 = .inr (8, [.ref (ad 1), .ref (ad 4), .ref (ad 9), .ref (ad 60), .ref (ad 62)]) := (pfr 0 (by simp only [List.mem_cons, List.not_mem_nil, or_false, not_or] <;> omega)).trans f0
  have hf2 : g1 4 = .inr (1, [.ref (ad 5), .ref (ad 8), .int (nI st)]) := (pfr 4 (by simp only [List.mem_cons, List.not_mem_nil, or_false, not_or] <;> omega)).trans f4
  have hf3 : g1 5 = .inr (5, [.ref (ad 6), .ref (ad 7), .int (nI lg.length)]) := (pfr 5 (by simp only [List.mem_cons, List.not_mem_nil, or_false, not_or] <;> omega)).trans f5
  have hRL1 := hRL.fr (pfr 5 (by simp only [List.mem_cons, List.not_mem_nil, or_false, not_or] <;> omega)) (pfr 6 (by simp only [List.mem_cons, List.not_mem_nil, or_false, not_or] <;> omega)) (pfr 7 (by simp only [List.mem_cons, List.not_mem_nil, or_false, not_or] <;> omega))
  refine lv_aload_n jx jb dX8_differencesOfLog_14 rfl (lv_at hl 0 rfl) ?_
  refine w_get X hW K8 (by omega) hf1 3 (by decide) fl_X8_35 rfl dX8_differencesOfLog_15 ?_
  refine lv_aload_n jx jb dX8_differencesOfLog_18 rfl (lv_at hl 0 rfl) ?_
  refine w_get X hW K8 (by omega) hf1 1 (by decide) fl_X8_19 rfl dX8_differencesOfLog_19 ?_
  refine w_getN X hW K1 (by omega) hf2 0 (by decide) fn_X8_108 rfl dX8_differencesOfLog_22 ?_
  refine w_rV (As := [.ref (ad 5)]) X hW (c_differences hP1 hRL1) (by omega) p60 rfl rfl ml_X8_215 mf_X4_differences ⟨Nat.le_of_ble_eq_true rfl, Nat.le_of_ble_eq_true rfl⟩ hl.1 rfl (Nat.le_of_ble_eq_true rfl) ⟨Nat.le_of_ble_eq_true rfl, Nat.le_of_ble_eq_true rfl⟩ dX8_differencesOfLog_25 (fun H locs hW => ?_)
  refine top_eq (y := nI (dfq (rsq M (gl lg) 0) lr lg.length)) (congrArg nI (dfq_congr hres (fun i hi => rfl))) ?_
  exact ret _ _ _ _ _ _ dX8_differencesOfLog_28 hW ⟨rfl, ⟨hf1, hM.fr (fun k hk => by show g1 k = _; rw [pfr k (by simp only [List.mem_cons, List.not_mem_nil, or_false, not_or] <;> omega)]), ⟨fc, hL.fr (fun k hk1 hk2 => by show g1 k = _; rw [pfr k (by simp only [List.mem_cons, List.not_mem_nil, or_false, not_or] <;> omega)]), hlc, hl96⟩, hS.fr (fun k hk1 hk2 => by show g1 k = _; rw [pfr k (by simp only [List.mem_cons, List.not_mem_nil, or_false, not_or] <;> omega)]), ⟨_, pf1, _, _, hP1⟩, ⟨w0, w1, (show g1 62 = g 62 from by rw [pfr _ (by simp only [List.mem_cons, List.not_mem_nil, or_false, not_or] <;> omega)]).trans f62⟩⟩, (fun k hk => by show g1 k = _; rw [pfr k (by simp only [List.mem_cons, List.not_mem_nil, or_false, not_or] <;> omega)])⟩

set_option maxHeartbeats 4000000 in
set_option maxRecDepth 100000 in
theorem c_differsNo {l : Launch} {G : va_G} {cy : Nat → ClassId} {N : Nat} {ad : Nat → Nat} {g : Nat → va_E} {M : M4} {lg : List Nat} {lr lt : Nat → Int32} {st T : Nat} {p : Nat → Nat} {x : Nat → TT} {i : Int32} (hX : XAt cy N ad g M lg lr lt st T p x) (hno : ¬ (0 ≤ i ∧ i < nI T)) : RI l G cy (N, ad, g) yX8_differs cX8_differs 3 (some .int) (rmN 5) [.ref (ad 0), .int i] (-1) := by
  refine RI.mk (by decide) (by first | rfl | exact bI_nar) (Nat.le_of_ble_eq_true rfl) ?_
  intro jp je js jm below meth jc A Q X hW ret ls hl
  have jx := X.hx
  have jb := X.hb
  have hl : lv_has ls 3 [(0, .ref (ad 0)), (1, .int i)] := hl
  have X : Cx G cy jp js jm _ jc cX8_differs 3 RX8 A js.heap := X
  obtain ⟨f0, hM, ⟨fc, hL, hlc, hl96⟩, hS, ⟨psz, pf, mt, ltt, hP⟩, ⟨w0, w1, f62⟩⟩ := id hX
  obtain ⟨hok, h83, bc_, fs_, f1, -⟩ := id hM
  obtain ⟨-, hRL, hst, f4, f8⟩ := id hL
  have f5 := hRL.2.2.2.2.2.2.2.1
  have hlen := hRL.2.2.2.2.2.2.1
  obtain ⟨-, hT, hp12, hinj, ⟨ft, fm, f9, f10, f11, hft⟩, hx⟩ := id hS
  obtain ⟨-, hpsz, f60, f61⟩ := id hP
  refine lv_aload_n jx jb dX8_differs_0 rfl (lv_at hl 0 rfl) ?_
  refine w_get X hW K8 (by omega) f0 2 (by decide) fl_X8_26 rfl dX8_differs_1 ?_
  refine lv_iload_n jx jb dX8_differs_4 rfl (lv_at hl 1 rfl) ?_
  refine w_rVr (As := [.int i]) X hW (c_at hS) (by omega) f9 rfl rfl ml_X8_143 mf_X7_at ⟨Nat.le_of_ble_eq_true rfl, Nat.le_of_ble_eq_true rfl⟩ hl.1 rfl (Nat.le_of_ble_eq_true rfl) ⟨Nat.le_of_ble_eq_true rfl, Nat.le_of_ble_eq_true rfl⟩ dX8_differs_5 (fun H locs hW => ?_)
  refine top_q (y := none) (if_neg hno) ?_
  refine lv_astore_nN (lv' := [(2, .null), (0, .ref (ad 0)), (1, .int i)]) jx jb dX8_differs_8 rfl hl (by decide) rfl (fun ls hl => ?_)
  refine lv_aload_nN jx jb dX8_differs_9 rfl (lv_at hl 0 rfl) ?_
  refine lv_ifnonnullN jx jb dX8_differs_10 ?_
  refine lv_iconst (v := -1) jx jb dX8_differs_13 (by decide) ?_
  refine lv_goto (tgt := 22) jx jb dX8_differs_14 (by decide) ?_
  exact ret _ _ _ _ _ dX8_differs_22 hW rfl

set_option maxHeartbeats 4000000 in
set_option maxRecDepth 100000 in
theorem c_differs {l : Launch} {G : va_G} {cy : Nat → ClassId} {N : Nat} {ad : Nat → Nat} {g : Nat → va_E} {M : M4} {lg : List Nat} {lr lt : Nat → Int32} {st T : Nat} {p : Nat → Nat} {x : Nat → TT} {j : Nat} (hX : XAt cy N ad g M lg lr lt st T p x) (hj : j < T) : MI l G cy (N, ad, g) yX8_differs cX8_differs 3 (some .int) (rmN 5) [.ref (ad 0), .int (nI j)] (nA N ad (fun v g1 => v = fdT M (x (p j)) ∧ XAt cy N ad g1 M lg lr lt st T p x ∧ ∀ k, 63 ≤ k → g1 k = g k)) := by
  refine NI.mk (by decide) (by intros; first | rfl | (simp_all; done)) (Nat.le_of_ble_eq_true rfl) ?_
  intro jp je js jm below meth jc A Q X hW ret ls hl
  have jx := X.hx
  have jb := X.hb
  have hl : lv_has ls 3 [(0, .ref (ad 0)), (1, .int (nI j))] := hl
  have X : Cx G cy jp js jm _ jc cX8_differs 3 RX8 A js.heap := X
  obtain ⟨f0, hM, ⟨fc, hL, hlc, hl96⟩, hS, ⟨psz, pf, mt, ltt, hP⟩, ⟨w0, w1, f62⟩⟩ := id hX
  obtain ⟨hok, h83, bc_, fs_, f1, -⟩ := id hM
  obtain ⟨-, hRL, hst, f4, f8⟩ := id hL
  have f5 := hRL.2.2.2.2.2.2.2.1
  have hlen := hRL.2.2.2.2.2.2.1
  obtain ⟨-, hT, hp12, hinj, ⟨ft, fm, f9, f10, f11, hft⟩, hx⟩ := id hS
  obtain ⟨-, hpsz, f60, f61⟩ := id hP
  refine lv_aload_n jx jb dX8_differs_0 rfl (lv_at hl 0 rfl) ?_
  refine w_get X hW K8 (by omega) f0 2 (by decide) fl_X8_26 rfl dX8_differs_1 ?_
  refine lv_iload_n jx jb dX8_differs_4 rfl (lv_at hl 1 rfl) ?_
  refine w_rVr (As := [.int (nI j)]) X hW (c_at hS) (by omega) f9 rfl rfl ml_X8_143 mf_X7_at ⟨Nat.le_of_ble_eq_true rfl, Nat.le_of_ble_eq_true rfl⟩ hl.1 rfl (Nat.le_of_ble_eq_true rfl) ⟨Nat.le_of_ble_eq_true rfl, Nat.le_of_ble_eq_true rfl⟩ dX8_differs_5 (fun H locs hW => ?_)
  refine top_q (y := some (ad (12 + 4 * p j))) (by rw [if_pos ⟨i_0le (by omega), nI_lt hj (by omega)⟩, i_cl (by omega)]) ?_
  refine lv_astore_n (lv' := [(2, .ref (ad (12 + 4 * p j))), (0, .ref (ad 0)), (1, .int (nI j))]) jx jb dX8_differs_8 rfl hl (by decide) rfl (fun ls hl => ?_)
  refine lv_aload_n jx jb dX8_differs_9 rfl (lv_at hl 0 rfl) ?_
  refine lv_ifnonnull (tgt := 17) jx jb dX8_differs_10 (by decide) ?_
  refine lv_aload_n jx jb dX8_differs_17 rfl (lv_at hl 1 rfl) ?_
  refine lv_aload_n jx jb dX8_differs_18 rfl (lv_at hl 0 rfl) ?_
  refine w_nV (As := [.ref (ad (12 + 4 * p j))]) X hW (c_xFirstDiff hX hj) (by omega) f0 rfl rfl ml_X8_155 mf_X8_firstDifference ⟨Nat.le_of_ble_eq_true rfl, Nat.le_of_ble_eq_true rfl⟩ hl.1 rfl (Nat.le_of_ble_eq_true rfl) ⟨Nat.le_of_ble_eq_true rfl, Nat.le_of_ble_eq_true rfl⟩ dX8_differs_19 (fun r1 g1 H locs hp hW => ?_)
  obtain ⟨er, hX1, pfr⟩ := hp
  refine top_eq (y := fdT M (x (p j))) (er) ?_
  exact ret _ _ _ _ _ _ dX8_differs_22 hW ⟨rfl, hX1, pfr⟩

set_option maxHeartbeats 4000000 in
set_option maxRecDepth 100000 in
theorem c_acceptNo {l : Launch} {G : va_G} {cy : Nat → ClassId} {N : Nat} {ad : Nat → Nat} {g : Nat → va_E} {M : M4} {lg : List Nat} {lr lt : Nat → Int32} {st T : Nat} {p : Nat → Nat} {x : Nat → TT} {i : Int32} (hX : XAt cy N ad g M lg lr lt st T p x) (hno : ¬ (0 ≤ i ∧ i < nI T)) : RI l G cy (N, ad, g) yX8_accept cX8_accept 3 (some .boolean) (rmN 4) [.ref (ad 0), .int i] 0 := by
  refine RI.mk (by decide) (by first | rfl | exact bI_nar) (Nat.le_of_ble_eq_true rfl) ?_
  intro jp je js jm below meth jc A Q X hW ret ls hl
  have jx := X.hx
  have jb := X.hb
  have hl : lv_has ls 3 [(0, .ref (ad 0)), (1, .int i)] := hl
  have X : Cx G cy jp js jm _ jc cX8_accept 3 RX8 A js.heap := X
  obtain ⟨f0, hM, ⟨fc, hL, hlc, hl96⟩, hS, ⟨psz, pf, mt, ltt, hP⟩, ⟨w0, w1, f62⟩⟩ := id hX
  obtain ⟨hok, h83, bc_, fs_, f1, -⟩ := id hM
  obtain ⟨-, hRL, hst, f4, f8⟩ := id hL
  have f5 := hRL.2.2.2.2.2.2.2.1
  have hlen := hRL.2.2.2.2.2.2.1
  obtain ⟨-, hT, hp12, hinj, ⟨ft, fm, f9, f10, f11, hft⟩, hx⟩ := id hS
  obtain ⟨-, hpsz, f60, f61⟩ := id hP
  refine lv_aload_n jx jb dX8_accept_0 rfl (lv_at hl 0 rfl) ?_
  refine w_get X hW K8 (by omega) f0 2 (by decide) fl_X8_26 rfl dX8_accept_1 ?_
  refine lv_iload_n jx jb dX8_accept_4 rfl (lv_at hl 1 rfl) ?_
  refine w_rVr (As := [.int i]) X hW (c_at hS) (by omega) f9 rfl rfl ml_X8_143 mf_X7_at ⟨Nat.le_of_ble_eq_true rfl, Nat.le_of_ble_eq_true rfl⟩ hl.1 rfl (Nat.le_of_ble_eq_true rfl) ⟨Nat.le_of_ble_eq_true rfl, Nat.le_of_ble_eq_true rfl⟩ dX8_accept_5 (fun H locs hW => ?_)
  refine top_q (y := none) (if_neg hno) ?_
  refine lv_astore_nN (lv' := [(2, .null), (0, .ref (ad 0)), (1, .int i)]) jx jb dX8_accept_8 rfl hl (by decide) rfl (fun ls hl => ?_)
  refine lv_aload_nN jx jb dX8_accept_9 rfl (lv_at hl 0 rfl) ?_
  refine lv_ifnonnullN jx jb dX8_accept_10 ?_
  refine lv_iconst (v := 0) jx jb dX8_accept_13 (by decide) ?_
  exact ret _ _ _ _ _ dX8_accept_14 hW rfl

set_option maxHeartbeats 4000000 in
set_option maxRecDepth 100000 in
theorem c_accept {l : Launch} {G : va_G} {cy : Nat → ClassId} {N : Nat} {ad : Nat → Nat} {g : Nat → va_E} {M : M4} {lg : List Nat} {lr lt : Nat → Int32} {st T : Nat} {p : Nat → Nat} {x : Nat → TT} {j : Nat} (hX : XAt cy N ad g M lg lr lt st T p x) (hj : j < T) : MI l G cy (N, ad, g) yX8_accept cX8_accept 3 (some .boolean) (rmN 4) [.ref (ad 0), .int (nI j)] (nA N ad (fun v g1 => v = 1 ∧ XAt cy N ad g1 M lg lr lt st T p (va_up x (p j) (stl M (x (p j)))) ∧ ∀ k, 63 ≤ k → g1 k = g k)) := by
  refine NI.mk (by decide) (by intro v g1 h; rw [h.1]; decide) (Nat.le_of_ble_eq_true rfl) ?_
  intro jp je js jm below meth jc A Q X hW ret ls hl
  have jx := X.hx
  have jb := X.hb
  have hl : lv_has ls 3 [(0, .ref (ad 0)), (1, .int (nI j))] := hl
  have X : Cx G cy jp js jm _ jc cX8_accept 3 RX8 A js.heap := X
  obtain ⟨f0, hM, ⟨fc, hL, hlc, hl96⟩, hS, ⟨psz, pf, mt, ltt, hP⟩, ⟨w0, w1, f62⟩⟩ := id hX
  obtain ⟨hok, h83, bc_, fs_, f1, -⟩ := id hM
  obtain ⟨-, hRL, hst, f4, f8⟩ := id hL
  have f5 := hRL.2.2.2.2.2.2.2.1
  have hlen := hRL.2.2.2.2.2.2.1
  obtain ⟨-, hT, hp12, hinj, ⟨ft, fm, f9, f10, f11, hft⟩, hx⟩ := id hS
  obtain ⟨-, hpsz, f60, f61⟩ := id hP
  have hpj := hp12 j (by omega)
  obtain ⟨tfc, tfr, t1, tR, tc, t96, ta⟩ := hx (p j) hpj
  have htl := tR.2.2.2.2.2.2.1
  refine lv_aload_n jx jb dX8_accept_0 rfl (lv_at hl 0 rfl) ?_
  refine w_get X hW K8 (by omega) f0 2 (by decide) fl_X8_26 rfl dX8_accept_1 ?_
  refine lv_iload_n jx jb dX8_accept_4 rfl (lv_at hl 1 rfl) ?_
  refine w_rVr (As := [.int (nI j)]) X hW (c_at hS) (by omega) f9 rfl rfl ml_X8_143 mf_X7_at ⟨Nat.le_of_ble_eq_true rfl, Nat.le_of_ble_eq_true rfl⟩ hl.1 rfl (Nat.le_of_ble_eq_true rfl) ⟨Nat.le_of_ble_eq_true rfl, Nat.le_of_ble_eq_true rfl⟩ dX8_accept_5 (fun H locs hW => ?_)
  refine top_q (y := some (ad (12 + 4 * p j))) (by rw [if_pos ⟨i_0le (by omega), nI_lt hj (by omega)⟩, i_cl (by omega)]) ?_
  refine lv_astore_n (lv' := [(2, .ref (ad (12 + 4 * p j))), (0, .ref (ad 0)), (1, .int (nI j))]) jx jb dX8_accept_8 rfl hl (by decide) rfl (fun ls hl => ?_)
  refine lv_aload_n jx jb dX8_accept_9 rfl (lv_at hl 0 rfl) ?_
  refine lv_ifnonnull (tgt := 15) jx jb dX8_accept_10 (by decide) ?_
  refine lv_aload_n jx jb dX8_accept_15 rfl (lv_at hl 1 rfl) ?_
  refine w_get X hW K8 (by omega) f0 3 (by decide) fl_X8_35 rfl dX8_accept_16 ?_
  refine lv_aload_n jx jb dX8_accept_19 rfl (lv_at hl 0 rfl) ?_
  refine w_getN X hW K3 (by omega) t1 0 (by decide) fn_X8_102 rfl dX8_accept_20 ?_
  refine w_nVv (As := [.ref (ad (13 + 4 * p j))]) X hW (c_play hM hP tR (fun i hi => ⟨tc i hi, t96 _ (gl_mem hi)⟩) (by omega)) (by omega) f60 rfl rfl ml_X8_115 mf_X4_play ⟨Nat.le_of_ble_eq_true rfl, Nat.le_of_ble_eq_true rfl⟩ hl.1 rfl (Nat.le_of_ble_eq_true rfl) ⟨Nat.le_of_ble_eq_true rfl, Nat.le_of_ble_eq_true rfl⟩ dX8_accept_23 (fun g1 H locs hp hW => ?_)
  obtain ⟨pf1, hP1, hres, pfr⟩ := hp
  obtain ⟨-, -, p60, p61⟩ := id hP1
  have hf1 : g1 0 = .inr (8, [.ref (ad 1), .ref (ad 4), .ref (ad 9), .ref (ad 60), .ref (ad 62)]) := (pfr 0 (by simp only [List.mem_cons, List.not_mem_nil, or_false, not_or] <;> omega)).trans f0
  have hf2 : g1 9 = .inr (7, [.ref (ad 10), .ref (ad 11), .int (nI T)]) := (pfr 9 (by simp only [List.mem_cons, List.not_mem_nil, or_false, not_or] <;> omega)).trans f9
  have hf3 : g1 (12 + 4 * p j) = .inr (3, [.ref (ad (13 + 4 * p j)), .int ((x (p j)).2.2.1), .int (bI ((x (p j)).2.2.2.1 = true)), .int (bI ((x (p j)).2.2.2.2 = true))]) := (pfr (12 + 4 * p j) (by simp only [List.mem_cons, List.not_mem_nil, or_false, not_or] <;> omega)).trans t1
  have hf4 : g1 (13 + 4 * p j) = .inr (5, [.ref (ad (14 + 4 * p j)), .ref (ad (15 + 4 * p j)), .int (nI (x (p j)).1.length)]) := (pfr (13 + 4 * p j) (by simp only [List.mem_cons, List.not_mem_nil, or_false, not_or] <;> omega)).trans tR.2.2.2.2.2.2.2.1
  have tR1 := tR.fr (pfr (13 + 4 * p j) (by simp only [List.mem_cons, List.not_mem_nil, or_false, not_or] <;> omega)) (pfr (14 + 4 * p j) (by simp only [List.mem_cons, List.not_mem_nil, or_false, not_or] <;> omega)) (pfr (15 + 4 * p j) (by simp only [List.mem_cons, List.not_mem_nil, or_false, not_or] <;> omega))
  refine lv_aload_n jx jb dX8_accept_26 rfl (lv_at hl 0 rfl) ?_
  refine lv_aload_n jx jb dX8_accept_27 rfl (lv_at hl 1 rfl) ?_
  refine w_get X hW K8 (by omega) hf1 3 (by decide) fl_X8_35 rfl dX8_accept_28 ?_
  refine w_nVv (As := [.ref (ad 60)]) X hW (c_settle hP1 tR1 (by omega) (by omega) hf3 (by omega)) (by omega) hf3 rfl rfl ml_X8_133 mf_X3_settle ⟨Nat.le_of_ble_eq_true rfl, Nat.le_of_ble_eq_true rfl⟩ hl.1 rfl (Nat.le_of_ble_eq_true rfl) ⟨Nat.le_of_ble_eq_true rfl, Nat.le_of_ble_eq_true rfl⟩ dX8_accept_31 (fun g2 H locs hp hW => ?_)
  obtain ⟨f2, s1, sR, sres, sfr⟩ := hp
  refine lv_iconst (v := 1) jx jb dX8_accept_34 (by decide) ?_
  exact ret _ _ _ _ _ _ dX8_accept_35 hW ⟨rfl, ⟨((show g2 0 = g 0 from by rw [sfr _ (by simp only [List.mem_cons, List.not_mem_nil, or_false, not_or] <;> omega), pfr _ (by simp only [List.mem_cons, List.not_mem_nil, or_false, not_or] <;> omega)]).trans f0), hM.fr (fun k hk => by show g2 k = _; rw [sfr k (by simp only [List.mem_cons, List.not_mem_nil, or_false, not_or] <;> omega), pfr k (by simp only [List.mem_cons, List.not_mem_nil, or_false, not_or] <;> omega)]), ⟨fc, hL.fr (fun k hk1 hk2 => by show g2 k = _; rw [sfr k (by simp only [List.mem_cons, List.not_mem_nil, or_false, not_or] <;> omega), pfr k (by simp only [List.mem_cons, List.not_mem_nil, or_false, not_or] <;> omega)]), hlc, hl96⟩, hS.put (t := stl M (x (p j))) (fun k k1 k2 k3 k4 k5 k6 => by show g2 k = _; rw [sfr k (by simp only [List.mem_cons, List.not_mem_nil, or_false, not_or]; omega), pfr k (by simp only [List.mem_cons, List.not_mem_nil, or_false, not_or]; omega)]) ⟨tfc, f2, s1, sR, tc, t96, fun i hi => by rw [sres i hi, hres i hi]; rfl⟩, ⟨_, pf1, _, _, hP1.1, hP1.2.1, (sfr 60 (by simp only [List.mem_cons, List.not_mem_nil, or_false, not_or] <;> omega)).trans p60, (sfr 61 (by simp only [List.mem_cons, List.not_mem_nil, or_false, not_or] <;> omega)).trans p61⟩, ⟨w0, w1, (show g2 62 = g 62 from by rw [sfr _ (by simp only [List.mem_cons, List.not_mem_nil, or_false, not_or] <;> omega), pfr _ (by simp only [List.mem_cons, List.not_mem_nil, or_false, not_or] <;> omega)]).trans f62⟩⟩, (fun k hk => by show g2 k = _; rw [sfr k (by simp only [List.mem_cons, List.not_mem_nil, or_false, not_or] <;> omega), pfr k (by simp only [List.mem_cons, List.not_mem_nil, or_false, not_or] <;> omega)])⟩

set_option maxHeartbeats 4000000 in
set_option maxRecDepth 100000 in
theorem c_dropNo {l : Launch} {G : va_G} {cy : Nat → ClassId} {N : Nat} {ad : Nat → Nat} {g : Nat → va_E} {M : M4} {lg : List Nat} {lr lt : Nat → Int32} {st T : Nat} {p : Nat → Nat} {x : Nat → TT} {i : Int32} (hX : XAt cy N ad g M lg lr lt st T p x) (hno : ¬ (0 ≤ i ∧ i < nI T)) : RI l G cy (N, ad, g) yX8_drop cX8_drop 2 (some .boolean) (rmN 2) [.ref (ad 0), .int i] 0 := by
  refine RI.mk (by decide) (by first | rfl | exact bI_nar) (Nat.le_of_ble_eq_true rfl) ?_
  intro jp je js jm below meth jc A Q X hW ret ls hl
  have jx := X.hx
  have jb := X.hb
  have hl : lv_has ls 2 [(0, .ref (ad 0)), (1, .int i)] := hl
  have X : Cx G cy jp js jm _ jc cX8_drop 2 RX8 A js.heap := X
  obtain ⟨f0, hM, ⟨fc, hL, hlc, hl96⟩, hS, ⟨psz, pf, mt, ltt, hP⟩, ⟨w0, w1, f62⟩⟩ := id hX
  obtain ⟨hok, h83, bc_, fs_, f1, -⟩ := id hM
  obtain ⟨-, hRL, hst, f4, f8⟩ := id hL
  have f5 := hRL.2.2.2.2.2.2.2.1
  have hlen := hRL.2.2.2.2.2.2.1
  obtain ⟨-, hT, hp12, hinj, ⟨ft, fm, f9, f10, f11, hft⟩, hx⟩ := id hS
  obtain ⟨-, hpsz, f60, f61⟩ := id hP
  refine lv_aload_n jx jb dX8_drop_0 rfl (lv_at hl 0 rfl) ?_
  refine w_get X hW K8 (by omega) f0 2 (by decide) fl_X8_26 rfl dX8_drop_1 ?_
  refine lv_iload_n jx jb dX8_drop_4 rfl (lv_at hl 1 rfl) ?_
  refine w_rV (As := [.int i]) X hW (c_removeNo hS hno) (by omega) f9 rfl rfl ml_X8_140 mf_X7_remove ⟨Nat.le_of_ble_eq_true rfl, Nat.le_of_ble_eq_true rfl⟩ hl.1 rfl (Nat.le_of_ble_eq_true rfl) ⟨Nat.le_of_ble_eq_true rfl, Nat.le_of_ble_eq_true rfl⟩ dX8_drop_5 (fun H locs hW => ?_)
  exact ret _ _ _ _ _ dX8_drop_8 hW rfl

set_option maxHeartbeats 4000000 in
set_option maxRecDepth 100000 in
theorem c_drop {l : Launch} {G : va_G} {cy : Nat → ClassId} {N : Nat} {ad : Nat → Nat} {g : Nat → va_E} {M : M4} {lg : List Nat} {lr lt : Nat → Int32} {st T : Nat} {p : Nat → Nat} {x : Nat → TT} {j : Nat} (hX : XAt cy N ad g M lg lr lt st T p x) (hj : j < T) : MI l G cy (N, ad, g) yX8_drop cX8_drop 2 (some .boolean) (rmN 2) [.ref (ad 0), .int (nI j)] (nA N ad (fun v g1 => v = 1 ∧ XAt cy N ad g1 M lg lr lt st (T - 1) (rmP p j T) x ∧ ∀ k, 63 ≤ k → g1 k = g k)) := by
  refine NI.mk (by decide) (by intro v g1 h; rw [h.1]; decide) (Nat.le_of_ble_eq_true rfl) ?_
  intro jp je js jm below meth jc A Q X hW ret ls hl
  have jx := X.hx
  have jb := X.hb
  have hl : lv_has ls 2 [(0, .ref (ad 0)), (1, .int (nI j))] := hl
  have X : Cx G cy jp js jm _ jc cX8_drop 2 RX8 A js.heap := X
  obtain ⟨f0, hM, ⟨fc, hL, hlc, hl96⟩, hS, ⟨psz, pf, mt, ltt, hP⟩, ⟨w0, w1, f62⟩⟩ := id hX
  obtain ⟨hok, h83, bc_, fs_, f1, -⟩ := id hM
  obtain ⟨-, hRL, hst, f4, f8⟩ := id hL
  have f5 := hRL.2.2.2.2.2.2.2.1
  have hlen := hRL.2.2.2.2.2.2.1
  obtain ⟨-, hT, hp12, hinj, ⟨ft, fm, f9, f10, f11, hft⟩, hx⟩ := id hS
  obtain ⟨-, hpsz, f60, f61⟩ := id hP
  refine lv_aload_n jx jb dX8_drop_0 rfl (lv_at hl 0 rfl) ?_
  refine w_get X hW K8 (by omega) f0 2 (by decide) fl_X8_26 rfl dX8_drop_1 ?_
  refine lv_iload_n jx jb dX8_drop_4 rfl (lv_at hl 1 rfl) ?_
  refine w_nV (As := [.int (nI j)]) X hW (c_remove hS hj) (by omega) f9 rfl rfl ml_X8_140 mf_X7_remove ⟨Nat.le_of_ble_eq_true rfl, Nat.le_of_ble_eq_true rfl⟩ hl.1 rfl (Nat.le_of_ble_eq_true rfl) ⟨Nat.le_of_ble_eq_true rfl, Nat.le_of_ble_eq_true rfl⟩ dX8_drop_5 (fun r1 g1 H locs hp hW => ?_)
  obtain ⟨er, hS1, pfr⟩ := hp
  exact ret _ _ _ _ _ _ dX8_drop_8 hW ⟨er, ⟨((show g1 0 = g 0 from by rw [pfr _ (by omega)]).trans f0), hM.fr (fun k hk => by show g1 k = _; rw [pfr k (by omega)]), ⟨fc, hL.fr (fun k hk1 hk2 => by show g1 k = _; rw [pfr k (by omega)]), hlc, hl96⟩, hS1, ⟨psz, pf, mt, ltt, h83, hpsz, (show g1 60 = g 60 from by rw [pfr _ (by omega)]).trans f60, (show g1 61 = g 61 from by rw [pfr _ (by omega)]).trans f61⟩, ⟨w0, w1, (show g1 62 = g 62 from by rw [pfr _ (by omega)]).trans f62⟩⟩, (fun k hk => by show g1 k = _; rw [pfr k (by omega)])⟩
end
section
def cntX (M : M4) (lg : List Nat) (lr : Nat → Int32) (T : Nat) (y : Nat → TT) (what : Int32) : Int32 := if what = 0 then nI lg.length else if what = 1 then nI T else if what = 2 then bcI (abq M 24) else if what = 3 then nI (cntB (fun i => (y i).2.2.2.1) T) else if what = 4 then nI (cntB (fun i => (y i).2.2.2.2) T) else if what = 5 then nI (dfq (rsq M (gl lg) 0) lr lg.length) else -1
def toldV (M : M4) (t : TT) (what : Int32) : Int32 := if what = 0 then nI t.1.length else if what = 1 then bI (t.2.2.2.1 = true) else if what = 2 then bI (t.2.2.2.2 = true) else if what = 3 then bI (¬ fdT M t = -1) else if what = 4 then t.2.2.1 else if what = 5 then mtT M t else -1
def rowV (M : M4) (t : TT) (k what : Int32) : Int32 := if 0 ≤ k ∧ k < nI t.1.length then (if what = 0 then nI (gl t.1 k.toNatClampNeg / 16) else if what = 1 then nI (gl t.1 k.toNatClampNeg % 16) else if what = 2 then t.2.1 k.toNatClampNeg else if what = 3 then rsq M (gl t.1) 0 k.toNatClampNeg else -1) else -1
def rnT (M : M4) (t : TT) : TT := if t.2.2.2.1 = true then (t.1, t.2.1, t.2.2.1, false, decide (¬ fdT M t = -1)) else t
def rnB (M : M4) (t : TT) : Bool := t.2.2.2.1 && decide (¬ fdT M t = -1)
def nwT (M : M4) (row : List Nat) : TT := (row, rsq M (gl row) 0, mtq M (gl row) row.length, false, false)
theorem bI_not {a b : Int32} (h : a = b) : (0 : Int32) = bI (¬ a = b) := (bI_f (fun q => q h)).symm
theorem bI_yes {a b : Int32} (h : ¬ a = b) : (1 : Int32) = bI (¬ a = b) := (bI_t h).symm
theorem bI_b0 {b : Prop} [Decidable b] (h : bI b = 0) : (0 : Int32) = bI b := h.symm
theorem bI_b1 {b : Prop} [Decidable b] (h : ¬ bI b = 0) : (1 : Int32) = bI b := (bI_t (bI_n0.mp h)).symm

set_option maxHeartbeats 4000000 in
set_option maxRecDepth 100000 in
theorem c_count {l : Launch} {G : va_G} {cy : Nat → ClassId} {N : Nat} {ad : Nat → Nat} {g : Nat → va_E} {M : M4} {lg : List Nat} {lr lt : Nat → Int32} {st T : Nat} {p : Nat → Nat} {x : Nat → TT} {what : Int32} (hX : XAt cy N ad g M lg lr lt st T p x) : MI l G cy (N, ad, g) yX8_count cX8_count 2 (some .int) (rmN 5) [.ref (ad 0), .int what] (nA N ad (fun v g1 => v = cntX M lg lr T (fun i => x (p i)) what ∧ XAt cy N ad g1 M lg lr lt st T p x ∧ ∀ k, 63 ≤ k → g1 k = g k)) := by
  refine NI.mk (by decide) (by intros; first | rfl | (simp_all; done)) (Nat.le_of_ble_eq_true rfl) ?_
  intro jp je js jm below meth jc A Q X hW ret ls hl
  have jx := X.hx
  have jb := X.hb
  have hl : lv_has ls 2 [(0, .ref (ad 0)), (1, .int what)] := hl
  have X : Cx G cy jp js jm _ jc cX8_count 2 RX8 A js.heap := X
  obtain ⟨f0, hM, ⟨fc, hL, hlc, hl96⟩, hS, ⟨psz, pf, mt, ltt, hP⟩, ⟨w0, w1, f62⟩⟩ := id hX
  obtain ⟨hok, h83, bc_, fs_, f1, -⟩ := id hM
  obtain ⟨-, hRL, hst, f4, f8⟩ := id hL
  have f5 := hRL.2.2.2.2.2.2.2.1
  have hlen := hRL.2.2.2.2.2.2.1
  obtain ⟨-, hT, hp12, hinj, ⟨ft, fm, f9, f10, f11, hft⟩, hx⟩ := id hS
  obtain ⟨-, hpsz, f60, f61⟩ := id hP
  refine lv_iload_n jx jb dX8_count_0 rfl (lv_at hl 1 rfl) ?_
  rcases sw_cases what 6 (by decide) with ⟨kS, hkS, eS⟩ | eS
  · rcases (show kS = 0 ∨ kS = 1 ∨ kS = 2 ∨ kS = 3 ∨ kS = 4 ∨ kS = 5 by omega) with rfl | rfl | rfl | rfl | rfl | rfl
    · refine lv_tableIn (tgt := 40) (off := 39) jx jb dX8_count_1 (by rw [eS]; decide) (by rw [eS]; decide) (by rw [eS]; rfl) (by decide) ?_
      refine lv_aload_n jx jb dX8_count_40 rfl (lv_at hl 0 rfl) ?_
      refine w_get X hW K8 (by omega) f0 1 (by decide) fl_X8_19 rfl dX8_count_41 ?_
      refine w_rV (As := []) X hW (c_lSize hL) (by omega) f4 rfl rfl ml_X8_99 mf_X1_size ⟨Nat.le_of_ble_eq_true rfl, Nat.le_of_ble_eq_true rfl⟩ hl.1 rfl (Nat.le_of_ble_eq_true rfl) ⟨Nat.le_of_ble_eq_true rfl, Nat.le_of_ble_eq_true rfl⟩ dX8_count_44 (fun H locs hW => ?_)
      exact ret _ _ _ _ _ _ dX8_count_47 hW ⟨(by unfold cntX; rw [eS]; rfl), hX, fun k hk => rfl⟩
    · refine lv_tableIn (tgt := 48) (off := 47) jx jb dX8_count_1 (by rw [eS]; decide) (by rw [eS]; decide) (by rw [eS]; rfl) (by decide) ?_
      refine lv_aload_n jx jb dX8_count_48 rfl (lv_at hl 0 rfl) ?_
      refine w_get X hW K8 (by omega) f0 2 (by decide) fl_X8_26 rfl dX8_count_49 ?_
      refine w_rV (As := []) X hW (c_sSize hS) (by omega) f9 rfl rfl ml_X8_184 mf_X7_size ⟨Nat.le_of_ble_eq_true rfl, Nat.le_of_ble_eq_true rfl⟩ hl.1 rfl (Nat.le_of_ble_eq_true rfl) ⟨Nat.le_of_ble_eq_true rfl, Nat.le_of_ble_eq_true rfl⟩ dX8_count_52 (fun H locs hW => ?_)
      exact ret _ _ _ _ _ _ dX8_count_55 hW ⟨(by unfold cntX; rw [eS]; rfl), hX, fun k hk => rfl⟩
    · refine lv_tableIn (tgt := 56) (off := 55) jx jb dX8_count_1 (by rw [eS]; decide) (by rw [eS]; decide) (by rw [eS]; rfl) (by decide) ?_
      refine lv_aload_n jx jb dX8_count_56 rfl (lv_at hl 0 rfl) ?_
      refine w_get X hW K8 (by omega) f0 0 (by decide) fl_X8_12 rfl dX8_count_57 ?_
      refine w_rV (As := []) X hW (c_allBits hM) (by omega) f1 rfl rfl ml_X8_185 mf_X2_allBits ⟨Nat.le_of_ble_eq_true rfl, Nat.le_of_ble_eq_true rfl⟩ hl.1 rfl (Nat.le_of_ble_eq_true rfl) ⟨Nat.le_of_ble_eq_true rfl, Nat.le_of_ble_eq_true rfl⟩ dX8_count_60 (fun H locs hW => ?_)
      refine w_rS (As := [.int (abq M 24)]) X hW (c_bitCount) ml_X8_192 mf_J6_bitCount_0f7a4 ⟨Nat.le_of_ble_eq_true rfl, Nat.le_of_ble_eq_true rfl⟩ hl.1 rfl (Nat.le_of_ble_eq_true rfl) ⟨Nat.le_of_ble_eq_true rfl, Nat.le_of_ble_eq_true rfl⟩ dX8_count_63 (fun H locs hW => ?_)
      exact ret _ _ _ _ _ _ dX8_count_66 hW ⟨(by unfold cntX; rw [eS]; rfl), hX, fun k hk => rfl⟩
    · refine lv_tableIn (tgt := 67) (off := 66) jx jb dX8_count_1 (by rw [eS]; decide) (by rw [eS]; decide) (by rw [eS]; rfl) (by decide) ?_
      refine lv_aload_n jx jb dX8_count_67 rfl (lv_at hl 0 rfl) ?_
      refine w_get X hW K8 (by omega) f0 2 (by decide) fl_X8_26 rfl dX8_count_68 ?_
      refine w_rV (As := []) X hW (c_touchedOnes hS) (by omega) f9 rfl rfl ml_X8_203 mf_X7_touchedOnes ⟨Nat.le_of_ble_eq_true rfl, Nat.le_of_ble_eq_true rfl⟩ hl.1 rfl (Nat.le_of_ble_eq_true rfl) ⟨Nat.le_of_ble_eq_true rfl, Nat.le_of_ble_eq_true rfl⟩ dX8_count_71 (fun H locs hW => ?_)
      exact ret _ _ _ _ _ _ dX8_count_74 hW ⟨(by unfold cntX; rw [eS]; rfl), hX, fun k hk => rfl⟩
    · refine lv_tableIn (tgt := 75) (off := 74) jx jb dX8_count_1 (by rw [eS]; decide) (by rw [eS]; decide) (by rw [eS]; rfl) (by decide) ?_
      refine lv_aload_n jx jb dX8_count_75 rfl (lv_at hl 0 rfl) ?_
      refine w_get X hW K8 (by omega) f0 2 (by decide) fl_X8_26 rfl dX8_count_76 ?_
      refine w_rV (As := []) X hW (c_brokenOnes hS) (by omega) f9 rfl rfl ml_X8_206 mf_X7_brokenOnes ⟨Nat.le_of_ble_eq_true rfl, Nat.le_of_ble_eq_true rfl⟩ hl.1 rfl (Nat.le_of_ble_eq_true rfl) ⟨Nat.le_of_ble_eq_true rfl, Nat.le_of_ble_eq_true rfl⟩ dX8_count_79 (fun H locs hW => ?_)
      exact ret _ _ _ _ _ _ dX8_count_82 hW ⟨(by unfold cntX; rw [eS]; rfl), hX, fun k hk => rfl⟩
    · refine lv_tableIn (tgt := 83) (off := 82) jx jb dX8_count_1 (by rw [eS]; decide) (by rw [eS]; decide) (by rw [eS]; rfl) (by decide) ?_
      refine lv_aload_n jx jb dX8_count_83 rfl (lv_at hl 0 rfl) ?_
      refine w_nV (As := []) X hW (c_diffLog hX) (by omega) f0 rfl rfl ml_X8_209 mf_X8_differencesOfLog ⟨Nat.le_of_ble_eq_true rfl, Nat.le_of_ble_eq_true rfl⟩ hl.1 rfl (Nat.le_of_ble_eq_true rfl) ⟨Nat.le_of_ble_eq_true rfl, Nat.le_of_ble_eq_true rfl⟩ dX8_count_84 (fun r1 g1 H locs hp hW => ?_)
      obtain ⟨er, hX1, pfr⟩ := hp
      refine top_eq (y := nI (dfq (rsq M (gl lg) 0) lr lg.length)) (er) ?_
      exact ret _ _ _ _ _ _ dX8_count_87 hW ⟨(by unfold cntX; rw [eS]; rfl), hX1, pfr⟩
  · refine lv_tableOut (tgt := 88) jx jb dX8_count_1 eS (by decide) ?_
    refine lv_iconst (v := -1) jx jb dX8_count_88 (by decide) ?_
    exact ret _ _ _ _ _ _ dX8_count_89 hW ⟨by unfold cntX; rw [if_neg (show ¬ what = 0 from sw_out (k := 0) (by decide) eS (by decide)), if_neg (show ¬ what = 1 from sw_out (k := 1) (by decide) eS (by decide)), if_neg (show ¬ what = 2 from sw_out (k := 2) (by decide) eS (by decide)), if_neg (show ¬ what = 3 from sw_out (k := 3) (by decide) eS (by decide)), if_neg (show ¬ what = 4 from sw_out (k := 4) (by decide) eS (by decide)), if_neg (show ¬ what = 5 from sw_out (k := 5) (by decide) eS (by decide))], hX, fun k hk => rfl⟩

set_option maxHeartbeats 4000000 in
set_option maxRecDepth 100000 in
theorem c_toldNo {l : Launch} {G : va_G} {cy : Nat → ClassId} {N : Nat} {ad : Nat → Nat} {g : Nat → va_E} {M : M4} {lg : List Nat} {lr lt : Nat → Int32} {st T : Nat} {p : Nat → Nat} {x : Nat → TT} {i what : Int32} (hX : XAt cy N ad g M lg lr lt st T p x) (hno : ¬ (0 ≤ i ∧ i < nI T)) : RI l G cy (N, ad, g) yX8_told cX8_told 4 (some .int) (rmN 5) [.ref (ad 0), .int i, .int what] (-1) := by
  refine RI.mk (by decide) (by first | rfl | exact bI_nar) (Nat.le_of_ble_eq_true rfl) ?_
  intro jp je js jm below meth jc A Q X hW ret ls hl
  have jx := X.hx
  have jb := X.hb
  have hl : lv_has ls 4 [(0, .ref (ad 0)), (1, .int i), (2, .int what)] := hl
  have X : Cx G cy jp js jm _ jc cX8_told 4 RX8 A js.heap := X
  obtain ⟨f0, hM, ⟨fc, hL, hlc, hl96⟩, hS, ⟨psz, pf, mt, ltt, hP⟩, ⟨w0, w1, f62⟩⟩ := id hX
  obtain ⟨hok, h83, bc_, fs_, f1, -⟩ := id hM
  obtain ⟨-, hRL, hst, f4, f8⟩ := id hL
  have f5 := hRL.2.2.2.2.2.2.2.1
  have hlen := hRL.2.2.2.2.2.2.1
  obtain ⟨-, hT, hp12, hinj, ⟨ft, fm, f9, f10, f11, hft⟩, hx⟩ := id hS
  obtain ⟨-, hpsz, f60, f61⟩ := id hP
  refine lv_aload_n jx jb dX8_told_0 rfl (lv_at hl 0 rfl) ?_
  refine w_get X hW K8 (by omega) f0 2 (by decide) fl_X8_26 rfl dX8_told_1 ?_
  refine lv_iload_n jx jb dX8_told_4 rfl (lv_at hl 1 rfl) ?_
  refine w_rVr (As := [.int i]) X hW (c_at hS) (by omega) f9 rfl rfl ml_X8_143 mf_X7_at ⟨Nat.le_of_ble_eq_true rfl, Nat.le_of_ble_eq_true rfl⟩ hl.1 rfl (Nat.le_of_ble_eq_true rfl) ⟨Nat.le_of_ble_eq_true rfl, Nat.le_of_ble_eq_true rfl⟩ dX8_told_5 (fun H locs hW => ?_)
  refine top_q (y := none) (if_neg hno) ?_
  refine lv_astore_nN (lv' := [(3, .null), (0, .ref (ad 0)), (1, .int i), (2, .int what)]) jx jb dX8_told_8 rfl hl (by decide) rfl (fun ls hl => ?_)
  refine lv_aload_nN jx jb dX8_told_9 rfl (lv_at hl 0 rfl) ?_
  refine lv_ifnonnullN jx jb dX8_told_10 ?_
  refine lv_iconst (v := -1) jx jb dX8_told_13 (by decide) ?_
  exact ret _ _ _ _ _ dX8_told_14 hW rfl

set_option maxHeartbeats 4000000 in
set_option maxRecDepth 100000 in
theorem c_told {l : Launch} {G : va_G} {cy : Nat → ClassId} {N : Nat} {ad : Nat → Nat} {g : Nat → va_E} {M : M4} {lg : List Nat} {lr lt : Nat → Int32} {st T : Nat} {p : Nat → Nat} {x : Nat → TT} {j : Nat} {what : Int32} (hX : XAt cy N ad g M lg lr lt st T p x) (hj : j < T) : MI l G cy (N, ad, g) yX8_told cX8_told 4 (some .int) (rmN 5) [.ref (ad 0), .int (nI j), .int what] (nA N ad (fun v g1 => v = toldV M (x (p j)) what ∧ XAt cy N ad g1 M lg lr lt st T p x ∧ ∀ k, 63 ≤ k → g1 k = g k)) := by
  refine NI.mk (by decide) (by intros; first | rfl | (simp_all; done)) (Nat.le_of_ble_eq_true rfl) ?_
  intro jp je js jm below meth jc A Q X hW ret ls hl
  have jx := X.hx
  have jb := X.hb
  have hl : lv_has ls 4 [(0, .ref (ad 0)), (1, .int (nI j)), (2, .int what)] := hl
  have X : Cx G cy jp js jm _ jc cX8_told 4 RX8 A js.heap := X
  obtain ⟨f0, hM, ⟨fc, hL, hlc, hl96⟩, hS, ⟨psz, pf, mt, ltt, hP⟩, ⟨w0, w1, f62⟩⟩ := id hX
  obtain ⟨hok, h83, bc_, fs_, f1, -⟩ := id hM
  obtain ⟨-, hRL, hst, f4, f8⟩ := id hL
  have f5 := hRL.2.2.2.2.2.2.2.1
  have hlen := hRL.2.2.2.2.2.2.1
  obtain ⟨-, hT, hp12, hinj, ⟨ft, fm, f9, f10, f11, hft⟩, hx⟩ := id hS
  obtain ⟨-, hpsz, f60, f61⟩ := id hP
  have hpj := hp12 j (by omega)
  obtain ⟨tfc, tfr, t1, tR, tc, t96, ta⟩ := hx (p j) hpj
  have htl := tR.2.2.2.2.2.2.1
  refine lv_aload_n jx jb dX8_told_0 rfl (lv_at hl 0 rfl) ?_
  refine w_get X hW K8 (by omega) f0 2 (by decide) fl_X8_26 rfl dX8_told_1 ?_
  refine lv_iload_n jx jb dX8_told_4 rfl (lv_at hl 1 rfl) ?_
  refine w_rVr (As := [.int (nI j)]) X hW (c_at hS) (by omega) f9 rfl rfl ml_X8_143 mf_X7_at ⟨Nat.le_of_ble_eq_true rfl, Nat.le_of_ble_eq_true rfl⟩ hl.1 rfl (Nat.le_of_ble_eq_true rfl) ⟨Nat.le_of_ble_eq_true rfl, Nat.le_of_ble_eq_true rfl⟩ dX8_told_5 (fun H locs hW => ?_)
  refine top_q (y := some (ad (12 + 4 * p j))) (by rw [if_pos ⟨i_0le (by omega), nI_lt hj (by omega)⟩, i_cl (by omega)]) ?_
  refine lv_astore_n (lv' := [(3, .ref (ad (12 + 4 * p j))), (0, .ref (ad 0)), (1, .int (nI j)), (2, .int what)]) jx jb dX8_told_8 rfl hl (by decide) rfl (fun ls hl => ?_)
  refine lv_aload_n jx jb dX8_told_9 rfl (lv_at hl 0 rfl) ?_
  refine lv_ifnonnull (tgt := 15) jx jb dX8_told_10 (by decide) ?_
  refine lv_iload_n jx jb dX8_told_15 rfl (lv_at hl 3 rfl) ?_
  rcases sw_cases what 6 (by decide) with ⟨kS, hkS, eS⟩ | eS
  · rcases (show kS = 0 ∨ kS = 1 ∨ kS = 2 ∨ kS = 3 ∨ kS = 4 ∨ kS = 5 by omega) with rfl | rfl | rfl | rfl | rfl | rfl
    · refine lv_tableIn (tgt := 56) (off := 40) jx jb dX8_told_16 (by rw [eS]; decide) (by rw [eS]; decide) (by rw [eS]; rfl) (by decide) ?_
      refine lv_aload_n jx jb dX8_told_56 rfl (lv_at hl 0 rfl) ?_
      refine w_getN X hW K3 (by omega) t1 0 (by decide) fn_X8_102 rfl dX8_told_57 ?_
      refine w_rV (As := []) X hW (c_rSize tR) tR.1 tR.2.2.2.2.2.2.2.1 rfl rfl ml_X8_147 mf_X5_size ⟨Nat.le_of_ble_eq_true rfl, Nat.le_of_ble_eq_true rfl⟩ hl.1 rfl (Nat.le_of_ble_eq_true rfl) ⟨Nat.le_of_ble_eq_true rfl, Nat.le_of_ble_eq_true rfl⟩ dX8_told_60 (fun H locs hW => ?_)
      exact ret _ _ _ _ _ _ dX8_told_63 hW ⟨(by unfold toldV; rw [eS]; rfl), hX, fun k hk => rfl⟩
    · refine lv_tableIn (tgt := 64) (off := 48) jx jb dX8_told_16 (by rw [eS]; decide) (by rw [eS]; decide) (by rw [eS]; rfl) (by decide) ?_
      refine lv_aload_n jx jb dX8_told_64 rfl (lv_at hl 0 rfl) ?_
      refine w_getN X hW K3 (by omega) t1 2 (by decide) fn_X8_148 rfl dX8_told_65 ?_
      refine lv_if_eq (tgt := 75) jx jb dX8_told_68 (by decide) (fun c68 => ?_) (fun c68 => ?_)
      · refine lv_iconst (v := 0) jx jb dX8_told_75 (by decide) ?_
        exact ret _ _ _ _ _ _ dX8_told_76 hW ⟨(by unfold toldV; rw [eS]; exact bI_b0 c68), hX, fun k hk => rfl⟩
      · refine lv_iconst (v := 1) jx jb dX8_told_71 (by decide) ?_
        refine lv_goto (tgt := 76) jx jb dX8_told_72 (by decide) ?_
        exact ret _ _ _ _ _ _ dX8_told_76 hW ⟨(by unfold toldV; rw [eS]; exact bI_b1 c68), hX, fun k hk => rfl⟩
    · refine lv_tableIn (tgt := 77) (off := 61) jx jb dX8_told_16 (by rw [eS]; decide) (by rw [eS]; decide) (by rw [eS]; rfl) (by decide) ?_
      refine lv_aload_n jx jb dX8_told_77 rfl (lv_at hl 0 rfl) ?_
      refine w_getN X hW K3 (by omega) t1 3 (by decide) fn_X8_152 rfl dX8_told_78 ?_
      refine lv_if_eq (tgt := 88) jx jb dX8_told_81 (by decide) (fun c81 => ?_) (fun c81 => ?_)
      · refine lv_iconst (v := 0) jx jb dX8_told_88 (by decide) ?_
        exact ret _ _ _ _ _ _ dX8_told_89 hW ⟨(by unfold toldV; rw [eS]; exact bI_b0 c81), hX, fun k hk => rfl⟩
      · refine lv_iconst (v := 1) jx jb dX8_told_84 (by decide) ?_
        refine lv_goto (tgt := 89) jx jb dX8_told_85 (by decide) ?_
        exact ret _ _ _ _ _ _ dX8_told_89 hW ⟨(by unfold toldV; rw [eS]; exact bI_b1 c81), hX, fun k hk => rfl⟩
    · refine lv_tableIn (tgt := 90) (off := 74) jx jb dX8_told_16 (by rw [eS]; decide) (by rw [eS]; decide) (by rw [eS]; rfl) (by decide) ?_
      refine lv_aload_n jx jb dX8_told_90 rfl (lv_at hl 1 rfl) ?_
      refine lv_aload_n jx jb dX8_told_91 rfl (lv_at hl 0 rfl) ?_
      refine w_nV (As := [.ref (ad (12 + 4 * p j))]) X hW (c_xFirstDiff hX hj) (by omega) f0 rfl rfl ml_X8_155 mf_X8_firstDifference ⟨Nat.le_of_ble_eq_true rfl, Nat.le_of_ble_eq_true rfl⟩ hl.1 rfl (Nat.le_of_ble_eq_true rfl) ⟨Nat.le_of_ble_eq_true rfl, Nat.le_of_ble_eq_true rfl⟩ dX8_told_92 (fun r1 g1 H locs hp hW => ?_)
      obtain ⟨er, hX1, pfr⟩ := hp
      refine top_eq (y := fdT M (x (p j))) (er) ?_
      refine lv_iconst (v := -1) jx jb dX8_told_95 (by decide) ?_
      refine lv_icmp_ne (tgt := 103) jx jb dX8_told_96 (by decide) (fun c96 => ?_) (fun c96 => ?_)
      · refine lv_iconst (v := 1) jx jb dX8_told_103 (by decide) ?_
        exact ret _ _ _ _ _ _ dX8_told_104 hW ⟨(by unfold toldV; rw [eS]; exact bI_yes c96), hX1, pfr⟩
      · refine lv_iconst (v := 0) jx jb dX8_told_99 (by decide) ?_
        refine lv_goto (tgt := 104) jx jb dX8_told_100 (by decide) ?_
        exact ret _ _ _ _ _ _ dX8_told_104 hW ⟨(by unfold toldV; rw [eS]; exact bI_not c96), hX1, pfr⟩
    · refine lv_tableIn (tgt := 105) (off := 89) jx jb dX8_told_16 (by rw [eS]; decide) (by rw [eS]; decide) (by rw [eS]; rfl) (by decide) ?_
      refine lv_aload_n jx jb dX8_told_105 rfl (lv_at hl 0 rfl) ?_
      refine w_getN X hW K3 (by omega) t1 1 (by decide) fn_X8_159 rfl dX8_told_106 ?_
      exact ret _ _ _ _ _ _ dX8_told_109 hW ⟨(by unfold toldV; rw [eS]; rfl), hX, fun k hk => rfl⟩
    · refine lv_tableIn (tgt := 110) (off := 94) jx jb dX8_told_16 (by rw [eS]; decide) (by rw [eS]; decide) (by rw [eS]; rfl) (by decide) ?_
      refine lv_aload_n jx jb dX8_told_110 rfl (lv_at hl 1 rfl) ?_
      refine w_get X hW K8 (by omega) f0 3 (by decide) fl_X8_35 rfl dX8_told_111 ?_
      refine lv_aload_n jx jb dX8_told_114 rfl (lv_at hl 0 rfl) ?_
      refine w_getN X hW K3 (by omega) t1 0 (by decide) fn_X8_102 rfl dX8_told_115 ?_
      refine w_nV (As := [.ref (ad (13 + 4 * p j))]) X hW (c_meets hM hP tR (fun i hi => ⟨tc i hi, t96 _ (gl_mem hi)⟩) (by omega)) (by omega) f60 rfl rfl ml_X8_163 mf_X4_meets ⟨Nat.le_of_ble_eq_true rfl, Nat.le_of_ble_eq_true rfl⟩ hl.1 rfl (Nat.le_of_ble_eq_true rfl) ⟨Nat.le_of_ble_eq_true rfl, Nat.le_of_ble_eq_true rfl⟩ dX8_told_118 (fun r1 g1 H locs hp hW => ?_)
      obtain ⟨er, pf1, hP1, hres, pfr⟩ := hp
      refine top_eq (y := mtT M (x (p j))) (er) ?_
      exact ret _ _ _ _ _ _ dX8_told_121 hW ⟨(by unfold toldV; rw [eS]; rfl), ⟨((show g1 0 = g 0 from by rw [pfr _ (by simp only [List.mem_cons, List.not_mem_nil, or_false, not_or] <;> omega)]).trans f0), hM.fr (fun k hk => by show g1 k = _; rw [pfr k (by simp only [List.mem_cons, List.not_mem_nil, or_false, not_or] <;> omega)]), ⟨fc, hL.fr (fun k hk1 hk2 => by show g1 k = _; rw [pfr k (by simp only [List.mem_cons, List.not_mem_nil, or_false, not_or] <;> omega)]), hlc, hl96⟩, hS.fr (fun k hk1 hk2 => by show g1 k = _; rw [pfr k (by simp only [List.mem_cons, List.not_mem_nil, or_false, not_or] <;> omega)]), ⟨_, pf1, _, _, hP1⟩, ⟨w0, w1, (show g1 62 = g 62 from by rw [pfr _ (by simp only [List.mem_cons, List.not_mem_nil, or_false, not_or] <;> omega)]).trans f62⟩⟩, (fun k hk => by show g1 k = _; rw [pfr k (by simp only [List.mem_cons, List.not_mem_nil, or_false, not_or] <;> omega)])⟩
  · refine lv_tableOut (tgt := 122) jx jb dX8_told_16 eS (by decide) ?_
    refine lv_iconst (v := -1) jx jb dX8_told_122 (by decide) ?_
    exact ret _ _ _ _ _ _ dX8_told_123 hW ⟨by unfold toldV; rw [if_neg (show ¬ what = 0 from sw_out (k := 0) (by decide) eS (by decide)), if_neg (show ¬ what = 1 from sw_out (k := 1) (by decide) eS (by decide)), if_neg (show ¬ what = 2 from sw_out (k := 2) (by decide) eS (by decide)), if_neg (show ¬ what = 3 from sw_out (k := 3) (by decide) eS (by decide)), if_neg (show ¬ what = 4 from sw_out (k := 4) (by decide) eS (by decide)), if_neg (show ¬ what = 5 from sw_out (k := 5) (by decide) eS (by decide))], hX, fun k hk => rfl⟩

set_option maxHeartbeats 4000000 in
set_option maxRecDepth 100000 in
theorem c_rowNo {l : Launch} {G : va_G} {cy : Nat → ClassId} {N : Nat} {ad : Nat → Nat} {g : Nat → va_E} {M : M4} {lg : List Nat} {lr lt : Nat → Int32} {st T : Nat} {p : Nat → Nat} {x : Nat → TT} {i k what : Int32} (hX : XAt cy N ad g M lg lr lt st T p x) (hno : ¬ (0 ≤ i ∧ i < nI T)) : RI l G cy (N, ad, g) yX8_row cX8_row 5 (some .int) (rmN 5) [.ref (ad 0), .int i, .int k, .int what] (-1) := by
  refine RI.mk (by decide) (by first | rfl | exact bI_nar) (Nat.le_of_ble_eq_true rfl) ?_
  intro jp je js jm below meth jc A Q X hW ret ls hl
  have jx := X.hx
  have jb := X.hb
  have hl : lv_has ls 5 [(0, .ref (ad 0)), (1, .int i), (2, .int k), (3, .int what)] := hl
  have X : Cx G cy jp js jm _ jc cX8_row 5 RX8 A js.heap := X
  obtain ⟨f0, hM, ⟨fc, hL, hlc, hl96⟩, hS, ⟨psz, pf, mt, ltt, hP⟩, ⟨w0, w1, f62⟩⟩ := id hX
  obtain ⟨hok, h83, bc_, fs_, f1, -⟩ := id hM
  obtain ⟨-, hRL, hst, f4, f8⟩ := id hL
  have f5 := hRL.2.2.2.2.2.2.2.1
  have hlen := hRL.2.2.2.2.2.2.1
  obtain ⟨-, hT, hp12, hinj, ⟨ft, fm, f9, f10, f11, hft⟩, hx⟩ := id hS
  obtain ⟨-, hpsz, f60, f61⟩ := id hP
  refine lv_aload_n jx jb dX8_row_0 rfl (lv_at hl 0 rfl) ?_
  refine w_get X hW K8 (by omega) f0 2 (by decide) fl_X8_26 rfl dX8_row_1 ?_
  refine lv_iload_n jx jb dX8_row_4 rfl (lv_at hl 1 rfl) ?_
  refine w_rVr (As := [.int i]) X hW (c_at hS) (by omega) f9 rfl rfl ml_X8_143 mf_X7_at ⟨Nat.le_of_ble_eq_true rfl, Nat.le_of_ble_eq_true rfl⟩ hl.1 rfl (Nat.le_of_ble_eq_true rfl) ⟨Nat.le_of_ble_eq_true rfl, Nat.le_of_ble_eq_true rfl⟩ dX8_row_5 (fun H locs hW => ?_)
  refine top_q (y := none) (if_neg hno) ?_
  refine lv_astoreN (lv' := [(4, .null), (0, .ref (ad 0)), (1, .int i), (2, .int k), (3, .int what)]) jx jb dX8_row_8 hl (by decide) rfl (fun ls hl => ?_)
  refine lv_aloadN jx jb dX8_row_10 (lv_at hl 0 rfl) ?_
  refine lv_ifnullN (tgt := 30) jx jb dX8_row_12 (by decide) ?_
  refine lv_iconst (v := -1) jx jb dX8_row_30 (by decide) ?_
  exact ret _ _ _ _ _ dX8_row_31 hW rfl

set_option maxHeartbeats 4000000 in
set_option maxRecDepth 100000 in
theorem c_row {l : Launch} {G : va_G} {cy : Nat → ClassId} {N : Nat} {ad : Nat → Nat} {g : Nat → va_E} {M : M4} {lg : List Nat} {lr lt : Nat → Int32} {st T : Nat} {p : Nat → Nat} {x : Nat → TT} {j : Nat} {k what : Int32} (hX : XAt cy N ad g M lg lr lt st T p x) (hj : j < T) : MI l G cy (N, ad, g) yX8_row cX8_row 5 (some .int) (rmN 5) [.ref (ad 0), .int (nI j), .int k, .int what] (nA N ad (fun v g1 => v = rowV M (x (p j)) k what ∧ XAt cy N ad g1 M lg lr lt st T p x ∧ ∀ k, 63 ≤ k → g1 k = g k)) := by
  refine NI.mk (by decide) (by intros; first | rfl | (simp_all; done)) (Nat.le_of_ble_eq_true rfl) ?_
  intro jp je js jm below meth jc A Q X hW ret ls hl
  have jx := X.hx
  have jb := X.hb
  have hl : lv_has ls 5 [(0, .ref (ad 0)), (1, .int (nI j)), (2, .int k), (3, .int what)] := hl
  have X : Cx G cy jp js jm _ jc cX8_row 5 RX8 A js.heap := X
  obtain ⟨f0, hM, ⟨fc, hL, hlc, hl96⟩, hS, ⟨psz, pf, mt, ltt, hP⟩, ⟨w0, w1, f62⟩⟩ := id hX
  obtain ⟨hok, h83, bc_, fs_, f1, -⟩ := id hM
  obtain ⟨-, hRL, hst, f4, f8⟩ := id hL
  have f5 := hRL.2.2.2.2.2.2.2.1
  have hlen := hRL.2.2.2.2.2.2.1
  obtain ⟨-, hT, hp12, hinj, ⟨ft, fm, f9, f10, f11, hft⟩, hx⟩ := id hS
  obtain ⟨-, hpsz, f60, f61⟩ := id hP
  have hpj := hp12 j (by omega)
  obtain ⟨tfc, tfr, t1, tR, tc, t96, ta⟩ := hx (p j) hpj
  have htl := tR.2.2.2.2.2.2.1
  refine lv_aload_n jx jb dX8_row_0 rfl (lv_at hl 0 rfl) ?_
  refine w_get X hW K8 (by omega) f0 2 (by decide) fl_X8_26 rfl dX8_row_1 ?_
  refine lv_iload_n jx jb dX8_row_4 rfl (lv_at hl 1 rfl) ?_
  refine w_rVr (As := [.int (nI j)]) X hW (c_at hS) (by omega) f9 rfl rfl ml_X8_143 mf_X7_at ⟨Nat.le_of_ble_eq_true rfl, Nat.le_of_ble_eq_true rfl⟩ hl.1 rfl (Nat.le_of_ble_eq_true rfl) ⟨Nat.le_of_ble_eq_true rfl, Nat.le_of_ble_eq_true rfl⟩ dX8_row_5 (fun H locs hW => ?_)
  refine top_q (y := some (ad (12 + 4 * p j))) (by rw [if_pos ⟨i_0le (by omega), nI_lt hj (by omega)⟩, i_cl (by omega)]) ?_
  refine lv_astore (lv' := [(4, .ref (ad (12 + 4 * p j))), (0, .ref (ad 0)), (1, .int (nI j)), (2, .int k), (3, .int what)]) jx jb dX8_row_8 hl (by decide) rfl (fun ls hl => ?_)
  refine lv_aload jx jb dX8_row_10 (lv_at hl 0 rfl) ?_
  refine lv_ifnull jx jb dX8_row_12 ?_
  refine lv_iload_n jx jb dX8_row_15 rfl (lv_at hl 3 rfl) ?_
  refine lv_aload jx jb dX8_row_16 (lv_at hl 0 rfl) ?_
  refine w_getN X hW K3 (by omega) t1 0 (by decide) fn_X8_102 rfl dX8_row_18 ?_
  refine w_rV (As := []) X hW (c_rSize tR) tR.1 tR.2.2.2.2.2.2.2.1 rfl rfl ml_X8_147 mf_X5_size ⟨Nat.le_of_ble_eq_true rfl, Nat.le_of_ble_eq_true rfl⟩ hl.1 rfl (Nat.le_of_ble_eq_true rfl) ⟨Nat.le_of_ble_eq_true rfl, Nat.le_of_ble_eq_true rfl⟩ dX8_row_21 (fun H locs hW => ?_)
  refine w_rS (As := [.int k, .int (nI (x (p j)).1.length)]) X hW (c_isBelow) ml_X8_77 mf_X8_isBelow ⟨Nat.le_of_ble_eq_true rfl, Nat.le_of_ble_eq_true rfl⟩ hl.1 rfl (Nat.le_of_ble_eq_true rfl) ⟨Nat.le_of_ble_eq_true rfl, Nat.le_of_ble_eq_true rfl⟩ dX8_row_24 (fun H locs hW => ?_)
  refine lv_if_ne (tgt := 32) jx jb dX8_row_27 (by decide) (fun c27 => ?_) (fun c27 => ?_)
  · have hbe := bI_n0.mp c27
    obtain ⟨q, hq, eq⟩ := i_below (by omega) hbe
    have h96 := t96 _ (gl_mem hq)
    refine lv_iload_n jx jb dX8_row_32 rfl (lv_at hl 4 rfl) ?_
    rcases sw_cases what 4 (by decide) with ⟨kS, hkS, eS⟩ | eS
    · rcases (show kS = 0 ∨ kS = 1 ∨ kS = 2 ∨ kS = 3 by omega) with rfl | rfl | rfl | rfl
      · refine lv_tableIn (tgt := 64) (off := 31) jx jb dX8_row_33 (by rw [eS]; decide) (by rw [eS]; decide) (by rw [eS]; rfl) (by decide) ?_
        refine lv_aload jx jb dX8_row_64 (lv_at hl 0 rfl) ?_
        refine w_getN X hW K3 (by omega) t1 0 (by decide) fn_X8_102 rfl dX8_row_66 ?_
        refine lv_iload_n jx jb dX8_row_69 rfl (lv_at hl 3 rfl) ?_
        refine top_eq (y := nI q) eq ?_
        refine w_rV (As := [.int (nI q)]) X hW (c_callAt tR hq) tR.1 tR.2.2.2.2.2.2.2.1 rfl rfl ml_X8_167 mf_X5_callAt ⟨Nat.le_of_ble_eq_true rfl, Nat.le_of_ble_eq_true rfl⟩ hl.1 rfl (Nat.le_of_ble_eq_true rfl) ⟨Nat.le_of_ble_eq_true rfl, Nat.le_of_ble_eq_true rfl⟩ dX8_row_70 (fun H locs hW => ?_)
        refine top_eq (y := nI (gl (x (p j)).1 q)) (tc q hq) ?_
        refine w_rS (As := [.int (nI (gl (x (p j)).1 q))]) X hW (c_kindOf (by omega)) ml_X8_171 mf_X8_kindOf ⟨Nat.le_of_ble_eq_true rfl, Nat.le_of_ble_eq_true rfl⟩ hl.1 rfl (Nat.le_of_ble_eq_true rfl) ⟨Nat.le_of_ble_eq_true rfl, Nat.le_of_ble_eq_true rfl⟩ dX8_row_73 (fun H locs hW => ?_)
        exact ret _ _ _ _ _ _ dX8_row_76 hW ⟨(by unfold rowV; rw [if_pos hbe, eq, i_cl (by omega), eS]; rfl), hX, fun k hk => rfl⟩
      · refine lv_tableIn (tgt := 77) (off := 44) jx jb dX8_row_33 (by rw [eS]; decide) (by rw [eS]; decide) (by rw [eS]; rfl) (by decide) ?_
        refine lv_aload jx jb dX8_row_77 (lv_at hl 0 rfl) ?_
        refine w_getN X hW K3 (by omega) t1 0 (by decide) fn_X8_102 rfl dX8_row_79 ?_
        refine lv_iload_n jx jb dX8_row_82 rfl (lv_at hl 3 rfl) ?_
        refine top_eq (y := nI q) eq ?_
        refine w_rV (As := [.int (nI q)]) X hW (c_callAt tR hq) tR.1 tR.2.2.2.2.2.2.2.1 rfl rfl ml_X8_167 mf_X5_callAt ⟨Nat.le_of_ble_eq_true rfl, Nat.le_of_ble_eq_true rfl⟩ hl.1 rfl (Nat.le_of_ble_eq_true rfl) ⟨Nat.le_of_ble_eq_true rfl, Nat.le_of_ble_eq_true rfl⟩ dX8_row_83 (fun H locs hW => ?_)
        refine top_eq (y := nI (gl (x (p j)).1 q)) (tc q hq) ?_
        refine w_rS (As := [.int (nI (gl (x (p j)).1 q))]) X hW (c_numberOf (by omega)) ml_X8_174 mf_X8_numberOf ⟨Nat.le_of_ble_eq_true rfl, Nat.le_of_ble_eq_true rfl⟩ hl.1 rfl (Nat.le_of_ble_eq_true rfl) ⟨Nat.le_of_ble_eq_true rfl, Nat.le_of_ble_eq_true rfl⟩ dX8_row_86 (fun H locs hW => ?_)
        exact ret _ _ _ _ _ _ dX8_row_89 hW ⟨(by unfold rowV; rw [if_pos hbe, eq, i_cl (by omega), eS]; rfl), hX, fun k hk => rfl⟩
      · refine lv_tableIn (tgt := 90) (off := 57) jx jb dX8_row_33 (by rw [eS]; decide) (by rw [eS]; decide) (by rw [eS]; rfl) (by decide) ?_
        refine lv_aload jx jb dX8_row_90 (lv_at hl 0 rfl) ?_
        refine w_getN X hW K3 (by omega) t1 0 (by decide) fn_X8_102 rfl dX8_row_92 ?_
        refine lv_iload_n jx jb dX8_row_95 rfl (lv_at hl 3 rfl) ?_
        refine top_eq (y := nI q) eq ?_
        refine w_rV (As := [.int (nI q)]) X hW (c_resultAt tR hq) tR.1 tR.2.2.2.2.2.2.2.1 rfl rfl ml_X8_177 mf_X5_resultAt ⟨Nat.le_of_ble_eq_true rfl, Nat.le_of_ble_eq_true rfl⟩ hl.1 rfl (Nat.le_of_ble_eq_true rfl) ⟨Nat.le_of_ble_eq_true rfl, Nat.le_of_ble_eq_true rfl⟩ dX8_row_96 (fun H locs hW => ?_)
        refine top_eq (y := (x (p j)).2.1 q) (ta q hq) ?_
        exact ret _ _ _ _ _ _ dX8_row_99 hW ⟨(by unfold rowV; rw [if_pos hbe, eq, i_cl (by omega), eS]; rfl), hX, fun k hk => rfl⟩
      · refine lv_tableIn (tgt := 100) (off := 67) jx jb dX8_row_33 (by rw [eS]; decide) (by rw [eS]; decide) (by rw [eS]; rfl) (by decide) ?_
        refine lv_aload_n jx jb dX8_row_100 rfl (lv_at hl 1 rfl) ?_
        refine lv_aload jx jb dX8_row_101 (lv_at hl 0 rfl) ?_
        refine lv_iload_n jx jb dX8_row_103 rfl (lv_at hl 3 rfl) ?_
        refine top_eq (y := nI q) eq ?_
        refine w_nV (As := [.ref (ad (12 + 4 * p j)), .int (nI q)]) X hW (c_resultNow hX hj hq) (by omega) f0 rfl rfl ml_X8_180 mf_X8_resultNow ⟨Nat.le_of_ble_eq_true rfl, Nat.le_of_ble_eq_true rfl⟩ hl.1 rfl (Nat.le_of_ble_eq_true rfl) ⟨Nat.le_of_ble_eq_true rfl, Nat.le_of_ble_eq_true rfl⟩ dX8_row_104 (fun r1 g1 H locs hp hW => ?_)
        obtain ⟨er, hX1, pfr⟩ := hp
        refine top_eq (y := rsq M (gl (x (p j)).1) 0 q) (er) ?_
        exact ret _ _ _ _ _ _ dX8_row_107 hW ⟨(by unfold rowV; rw [if_pos hbe, eq, i_cl (by omega), eS]; rfl), hX1, pfr⟩
    · refine lv_tableOut (tgt := 108) jx jb dX8_row_33 eS (by decide) ?_
      refine lv_iconst (v := -1) jx jb dX8_row_108 (by decide) ?_
      exact ret _ _ _ _ _ _ dX8_row_109 hW ⟨by unfold rowV; rw [if_pos hbe, if_neg (show ¬ what = 0 from sw_out (k := 0) (by decide) eS (by decide)), if_neg (show ¬ what = 1 from sw_out (k := 1) (by decide) eS (by decide)), if_neg (show ¬ what = 2 from sw_out (k := 2) (by decide) eS (by decide)), if_neg (show ¬ what = 3 from sw_out (k := 3) (by decide) eS (by decide))], hX, fun k hk => rfl⟩
  · refine lv_iconst (v := -1) jx jb dX8_row_30 (by decide) ?_
    exact ret _ _ _ _ _ _ dX8_row_31 hW ⟨by unfold rowV; rw [if_neg (bI_0.mp c27)], hX, fun k hk => rfl⟩

theorem va_up_id {α : Type} {f : Nat → α} {k : Nat} : va_up f k (f k) = f := by
  funext j
  by_cases h : j = k
  · rw [h, va_up_s]
  · rw [va_up_n h]
theorem va_up_up {α : Type} {f : Nat → α} {k : Nat} {a b : α} : va_up (va_up f k a) k b = va_up f k b := by
  funext j
  by_cases h : j = k
  · rw [h, va_up_s, va_up_s]
  · rw [va_up_n h, va_up_n h, va_up_n h]
theorem XAt.putT {cy : Nat → ClassId} {N : Nat} {ad : Nat → Nat} {g g' : Nat → va_E} {M : M4} {lg : List Nat} {lr lt : Nat → Int32} {st T : Nat} {p : Nat → Nat} {x : Nat → TT} {q : Nat} {t : TT} (h : XAt cy N ad g M lg lr lt st T p x) (h1 : ∀ k, k ≠ 12 + 4 * q → k ≠ 13 + 4 * q → k ≠ 14 + 4 * q → k ≠ 15 + 4 * q → g' k = g k) (ht : TstAt cy N ad g' q t) (hq : q < 12 := by omega) : XAt cy N ad g' M lg lr lt st T p (va_up x q t) := by
  obtain ⟨a, b, ⟨fc, c1, c2, c3⟩, d, ⟨e1, e2, e3, e4, e5⟩, ⟨f1, f2, f3⟩⟩ := h
  exact ⟨(h1 0 (by omega) (by omega) (by omega) (by omega)).trans a, b.fr (fun k hk => h1 k (by omega) (by omega) (by omega) (by omega)), ⟨fc, c1.fr (fun k _ _ => h1 k (by omega) (by omega) (by omega) (by omega)), c2, c3⟩, d.put (fun k k1 k2 k3 k4 _ _ => h1 k k1 k2 k3 k4) ht, ⟨e1, e2, e3, e4, e5.1, e5.2.1, (h1 60 (by omega) (by omega) (by omega) (by omega)).trans e5.2.2.1, (h1 61 (by omega) (by omega) (by omega) (by omega)).trans e5.2.2.2⟩, ⟨f1, f2, (h1 62 (by omega) (by omega) (by omega) (by omega)).trans f3⟩⟩

set_option maxHeartbeats 4000000 in
set_option maxRecDepth 100000 in
theorem c_run {l : Launch} {G : va_G} {cy : Nat → ClassId} {N : Nat} {ad : Nat → Nat} {g : Nat → va_E} {M : M4} {lg : List Nat} {lr lt : Nat → Int32} {st T : Nat} {p : Nat → Nat} {x : Nat → TT} (hX : XAt cy N ad g M lg lr lt st T p x) : MI l G cy (N, ad, g) yX8_run cX8_run 4 (some .int) (rmN 5) [.ref (ad 0)] (nA N ad (fun v g1 => v = nI (cntB (fun i => rnB M (x (p i))) T) ∧ XAt cy N ad g1 M lg lr lt st T p (mapT p (rnT M) x T) ∧ ∀ k, 63 ≤ k → g1 k = g k)) := by
  refine NI.mk (by decide) (by intros; first | rfl | (simp_all; done)) (Nat.le_of_ble_eq_true rfl) ?_
  intro jp je js jm below meth jc A Q X hW ret ls hl
  have jx := X.hx
  have jb := X.hb
  have hl : lv_has ls 4 [(0, .ref (ad 0))] := hl
  have X : Cx G cy jp js jm _ jc cX8_run 4 RX8 A js.heap := X
  have hT : T ≤ 12 := hX.2.2.2.1.2.1
  refine lv_iconst (v := 0) jx jb dX8_run_0 (by decide) ?_
  refine lv_istore_n (lv' := [(1, .int 0), (0, .ref (ad 0))]) jx jb dX8_run_1 rfl hl (by decide) rfl (fun ls hl => ?_)
  refine lv_iconst (v := 0) jx jb dX8_run_2 (by decide) ?_
  refine lv_istore_n (lv' := [(2, .int 0), (1, .int 0), (0, .ref (ad 0))]) jx jb dX8_run_3 rfl hl (by decide) rfl (fun ls hl => ?_)
  have loop4 : ∀ (fuel4 : Nat) (k : Nat) (gL4 : Nat → va_E) (H : Heap) (locs : List Loc) (ls : Array Slot), (k ≤ T) → (XAt cy N ad gL4 M lg lr lt st T p (mapT p (rnT M) x k)) → (∀ k, 63 ≤ k → gL4 k = g k) → T - k < fuel4 → Wd G A js.heap (N, ad, gL4) H locs → lv_has ls 4 [(0, .ref (ad 0)), (1, .int (nI (cntB (fun i => rnB M (x (p i))) k))), (2, .int (nI k))] → W jp l je (rmN 5) js jm [.ref (ad 0)].toArray below meth jc H locs 0 0 Q (F0 jm 4 ls []) := by
    intro fuel4
    induction fuel4 with
    | zero => intro k gL4 H locs ls hk hX hfr  hm4; exact absurd hm4 (Nat.not_lt_zero _)
    | succ fuel4 ih4 =>
      intro k gL4 H locs ls hk hX hfr  hm4 hW hl
      obtain ⟨f0, hM, ⟨fc, hL, hlc, hl96⟩, hS, ⟨psz, pf, mt, ltt, hP⟩, ⟨w0, w1, f62⟩⟩ := id hX
      obtain ⟨hok, h83, bc_, fs_, f1, -⟩ := id hM
      obtain ⟨-, hRL, hst, f4, f8⟩ := id hL
      have f5 := hRL.2.2.2.2.2.2.2.1
      have hlen := hRL.2.2.2.2.2.2.1
      obtain ⟨-, hT, hp12, hinj, ⟨ft, fm, f9, f10, f11, hft⟩, hx⟩ := id hS
      obtain ⟨-, hpsz, f60, f61⟩ := id hP
      refine lv_iload_n jx jb dX8_run_4 rfl (lv_at hl 2 rfl) ?_
      refine lv_aload_n jx jb dX8_run_5 rfl (lv_at hl 0 rfl) ?_
      refine w_get X hW K8 (by omega) f0 2 (by decide) fl_X8_26 rfl dX8_run_6 ?_
      refine w_rV (As := []) X hW (c_sSize hS) (by omega) f9 rfl rfl ml_X8_184 mf_X7_size ⟨Nat.le_of_ble_eq_true rfl, Nat.le_of_ble_eq_true rfl⟩ hl.1 rfl (Nat.le_of_ble_eq_true rfl) ⟨Nat.le_of_ble_eq_true rfl, Nat.le_of_ble_eq_true rfl⟩ dX8_run_9 (fun H locs hW => ?_)
      refine lv_icmp_ge (tgt := 79) jx jb dX8_run_12 (by decide) (fun c12 => ?_) (fun c12 => ?_)
      · refine lv_iload_n jx jb dX8_run_79 rfl (lv_at hl 1 rfl) ?_
        exact ret _ _ _ _ _ _ dX8_run_80 hW (by have := n_le (by omega) (by omega) c12; have e : k = T := (by omega); subst e; exact ⟨rfl, hX, hfr⟩)
      · have hlt : k < T := n_nle (by omega) (by omega) c12
        have hpk := hp12 k (by omega)
        obtain ⟨tfc, tfr, t1, tR, tc, t96, ta⟩ := hx (p k) hpk
        have hxk : mapT p (rnT M) x k (p k) = x (p k) := mapT_out (fun i hi e => by have := hinj i k (by omega) (by omega) e; omega)
        rw [hxk] at t1 tR tc t96 ta
        refine lv_aload_n jx jb dX8_run_15 rfl (lv_at hl 0 rfl) ?_
        refine w_get X hW K8 (by omega) f0 2 (by decide) fl_X8_26 rfl dX8_run_16 ?_
        refine lv_iload_n jx jb dX8_run_19 rfl (lv_at hl 2 rfl) ?_
        refine w_rVr (As := [.int (nI k)]) X hW (c_at hS) (by omega) f9 rfl rfl ml_X8_143 mf_X7_at ⟨Nat.le_of_ble_eq_true rfl, Nat.le_of_ble_eq_true rfl⟩ hl.1 rfl (Nat.le_of_ble_eq_true rfl) ⟨Nat.le_of_ble_eq_true rfl, Nat.le_of_ble_eq_true rfl⟩ dX8_run_20 (fun H locs hW => ?_)
        refine top_q (y := some (ad (12 + 4 * p k))) (by rw [if_pos ⟨i_0le (by omega), nI_lt hlt (by omega)⟩, i_cl (by omega)]) ?_
        refine lv_astore_n (lv' := [(3, .ref (ad (12 + 4 * p k))), (0, .ref (ad 0)), (1, .int (nI (cntB (fun i => rnB M (x (p i))) k))), (2, .int (nI k))]) jx jb dX8_run_23 rfl hl (by decide) rfl (fun ls hl => ?_)
        refine lv_aload_n jx jb dX8_run_24 rfl (lv_at hl 0 rfl) ?_
        refine lv_ifnull jx jb dX8_run_25 ?_
        refine lv_aload_n jx jb dX8_run_28 rfl (lv_at hl 0 rfl) ?_
        refine w_getN X hW K3 (by omega) t1 2 (by decide) fn_X8_148 rfl dX8_run_29 ?_
        refine lv_if_eq (tgt := 73) jx jb dX8_run_32 (by decide) (fun c32 => ?_) (fun c32 => ?_)
        · have htou := bI_0.mp c32
          refine lv_iinc (v := nI (k + 1)) (lv' := [(2, .int (nI (k + 1))), (3, .ref (ad (12 + 4 * p k))), (0, .ref (ad 0)), (1, .int (nI (cntB (fun i => rnB M (x (p i))) k)))]) jx jb dX8_run_73 hl (k := 3) rfl (show nI k + 1 = nI (k + 1) from nI_1 _) (by decide) rfl (fun ls hl => ?_)
          refine lv_goto (tgt := 4) jx jb dX8_run_76 (by decide) ?_
          have hX5 : XAt cy N ad gL4 M lg lr lt st T p (mapT p (rnT M) x (k + 1)) := by rw [show mapT p (rnT M) x (k + 1) = va_up (mapT p (rnT M) x k) (p k) (rnT M (mapT p (rnT M) x k (p k))) from rfl, hxk, show rnT M (x (p k)) = x (p k) from if_neg htou, ← hxk, va_up_id]; exact hX
          have hl : lv_has ls 4 [(2, .int (nI (k + 1))), (3, .ref (ad (12 + 4 * p k))), (0, .ref (ad 0)), (1, .int (nI (cntB (fun i => rnB M (x (p i))) (k + 1))))] := by rw [show nI (cntB (fun i => rnB M (x (p i))) (k + 1)) = nI (cntB (fun i => rnB M (x (p i))) k) from by rw [show cntB (fun i => rnB M (x (p i))) (k + 1) = cntB (fun i => rnB M (x (p i))) k + (if rnB M (x (p k)) = true then 1 else 0) from rfl, if_neg (by unfold rnB; rw [Bool.and_eq_true]; exact fun z => htou z.1)]; rfl]; exact hl
          exact ih4 (k + 1) gL4 _ _ _ (by omega) hX5 hfr  (by omega) hW (lv_sub hl [2, 3, 0] rfl)
        · have htou := bI_n0.mp c32
          refine lv_aload_n jx jb dX8_run_35 rfl (lv_at hl 0 rfl) ?_
          refine lv_iconst (v := 0) jx jb dX8_run_36 (by decide) ?_
          refine w_putN X hW K3 (by omega) t1 2 (by decide) fn_X8_148 rfl rfl rfl (Nat.le_of_ble_eq_true rfl) dX8_run_37 (fun H locs hW => ?_)
          obtain ⟨g_1, eg_1⟩ : ∃ zz, zz = va_up gL4 (12 + 4 * p k) (.inr (3, [.ref (ad (13 + 4 * p k)), .int ((x (p k)).2.2.1), .int 0, .int (bI ((x (p k)).2.2.2.2 = true))])) := ⟨_, rfl⟩
          have hW : Wd G A js.heap (N, ad, g_1) H locs := by rw [eg_1]; exact hW
          have hf2 : g_1 0 = .inr (8, [.ref (ad 1), .ref (ad 4), .ref (ad 9), .ref (ad 60), .ref (ad 62)]) := by rw [eg_1]; exact (va_up_n (by omega)).trans f0
          have hf3 : g_1 9 = .inr (7, [.ref (ad 10), .ref (ad 11), .int (nI T)]) := by rw [eg_1]; exact (va_up_n (by omega)).trans f9
          have hf4 : g_1 (12 + 4 * p k) = .inr (3, [.ref (ad (13 + 4 * p k)), .int ((x (p k)).2.2.1), .int 0, .int (bI ((x (p k)).2.2.2.2 = true))]) := by rw [eg_1]; exact va_up_s
          have tR2 := tR.fr (show g_1 (13 + 4 * p k) = _ from by rw [eg_1, va_up_n (by omega)]) (show g_1 (14 + 4 * p k) = _ from by rw [eg_1, va_up_n (by omega)]) (show g_1 (15 + 4 * p k) = _ from by rw [eg_1, va_up_n (by omega)])
          have hX2 : XAt cy N ad g_1 M lg lr lt st T p (va_up (mapT p (rnT M) x k) (p k) ((x (p k)).1, (x (p k)).2.1, (x (p k)).2.2.1, false, (x (p k)).2.2.2.2)) := XAt.putT hX (fun k1 h1 h2 h3 h4 => by show g_1 k1 = _; rw [eg_1, va_up_n (by omega)]) ⟨tfc, tfr, hf4, tR2, tc, t96, ta⟩
          refine lv_aload_n jx jb dX8_run_40 rfl (lv_at hl 0 rfl) ?_
          refine lv_aload_n jx jb dX8_run_41 rfl (lv_at hl 1 rfl) ?_
          refine lv_aload_n jx jb dX8_run_42 rfl (lv_at hl 0 rfl) ?_
          refine w_nV (As := [.ref (ad (12 + 4 * p k))]) X hW (c_xFirstDiff hX2 hlt) (by omega) hf2 rfl rfl ml_X8_155 mf_X8_firstDifference ⟨Nat.le_of_ble_eq_true rfl, Nat.le_of_ble_eq_true rfl⟩ hl.1 rfl (Nat.le_of_ble_eq_true rfl) ⟨Nat.le_of_ble_eq_true rfl, Nat.le_of_ble_eq_true rfl⟩ dX8_run_43 (fun r1 g1 H locs hp hW => ?_)
          obtain ⟨er, hX3, pfr⟩ := hp
          rw [va_up_s] at er
          obtain ⟨f0z, -, -, ⟨-, -, -, -, -, hx3⟩, -, -⟩ := id hX3
          obtain ⟨ufc, ufr, u1, uR, uc, u96, ua⟩ := hx3 (p k) hpk
          rw [va_up_s] at u1 uR uc u96 ua
          refine top_eq (y := fdT M (x (p k))) (er) ?_
          refine lv_iconst (v := -1) jx jb dX8_run_46 (by decide) ?_
          refine lv_icmp_eq (tgt := 54) jx jb dX8_run_47 (by decide) (fun c47 => ?_) (fun c47 => ?_)
          · refine lv_iconst (v := 0) jx jb dX8_run_54 (by decide) ?_
            refine top_eq (y := bI (decide (¬ fdT M (x (p k)) = -1) = true)) ((bI_f (by rw [decide_eq_true_eq]; exact fun z => z c47)).symm) ?_
            refine w_putN X hW K3 (by omega) u1 3 (by decide) fn_X8_152 rfl bI_nar bI_fit (Nat.le_of_ble_eq_true rfl) dX8_run_55 (fun H locs hW => ?_)
            obtain ⟨g_5, eg_5⟩ : ∃ zz, zz = va_up g1 (12 + 4 * p k) (.inr (3, [.ref (ad (13 + 4 * p k)), .int ((x (p k)).2.2.1), .int (bI (false = true)), .int (bI (decide (¬ fdT M (x (p k)) = -1) = true))])) := ⟨_, rfl⟩
            have hW : Wd G A js.heap (N, ad, g_5) H locs := by rw [eg_5]; exact hW
            have hf6 : g_5 0 = .inr (8, [.ref (ad 1), .ref (ad 4), .ref (ad 9), .ref (ad 60), .ref (ad 62)]) := by rw [eg_5]; exact (va_up_n (by omega)).trans f0z
            have hf7 : g_5 (12 + 4 * p k) = .inr (3, [.ref (ad (13 + 4 * p k)), .int ((x (p k)).2.2.1), .int (bI (false = true)), .int (bI (decide (¬ fdT M (x (p k)) = -1) = true))]) := by rw [eg_5]; exact va_up_s
            have uR2 := uR.fr (show g_5 (13 + 4 * p k) = _ from by rw [eg_5, va_up_n (by omega)]) (show g_5 (14 + 4 * p k) = _ from by rw [eg_5, va_up_n (by omega)]) (show g_5 (15 + 4 * p k) = _ from by rw [eg_5, va_up_n (by omega)])
            have hrn : rnT M (x (p k)) = ((x (p k)).1, (x (p k)).2.1, (x (p k)).2.2.1, false, decide (¬ fdT M (x (p k)) = -1)) := if_pos htou
            have hX5 : XAt cy N ad g_5 M lg lr lt st T p (mapT p (rnT M) x (k + 1)) := by rw [show mapT p (rnT M) x (k + 1) = va_up (mapT p (rnT M) x k) (p k) (rnT M (mapT p (rnT M) x k (p k))) from rfl, hxk, hrn, ← va_up_up]; exact XAt.putT hX3 (fun k1 h1 h2 h3 h4 => by show g_5 k1 = _; rw [eg_5, va_up_n (by omega)]) ⟨ufc, ufr, hf7, uR2, uc, u96, ua⟩
            refine lv_iload_n jx jb dX8_run_58 rfl (lv_at hl 2 rfl) ?_
            refine lv_aload_n jx jb dX8_run_59 rfl (lv_at hl 0 rfl) ?_
            refine w_getN X hW K3 (by omega) hf7 3 (by decide) fn_X8_152 rfl dX8_run_60 ?_
            refine lv_if_eq (tgt := 70) jx jb dX8_run_63 (by decide) (fun c63 => ?_) (fun c63 => ?_)
            · refine lv_iconst (v := 0) jx jb dX8_run_70 (by decide) ?_
              refine lv_iadd jx jb dX8_run_71 ?_
              refine top_eq (y := nI (cntB (fun i => rnB M (x (p i))) (k + 1))) (by rw [show cntB (fun i => rnB M (x (p i))) (k + 1) = cntB (fun i => rnB M (x (p i))) k + (if rnB M (x (p k)) = true then 1 else 0) from rfl, if_neg (by unfold rnB; rw [Bool.and_eq_true]; exact fun z => bI_0.mp c63 z.2), ← nI_add]; rfl) ?_
              refine lv_istore_n (lv' := [(1, .int (nI (cntB (fun i => rnB M (x (p i))) (k + 1)))), (3, .ref (ad (12 + 4 * p k))), (0, .ref (ad 0)), (2, .int (nI k))]) jx jb dX8_run_72 rfl hl (by decide) rfl (fun ls hl => ?_)
              refine lv_iinc (v := nI (k + 1)) (lv' := [(2, .int (nI (k + 1))), (1, .int (nI (cntB (fun i => rnB M (x (p i))) (k + 1)))), (3, .ref (ad (12 + 4 * p k))), (0, .ref (ad 0))]) jx jb dX8_run_73 hl (k := 3) rfl (show nI k + 1 = nI (k + 1) from nI_1 _) (by decide) rfl (fun ls hl => ?_)
              refine lv_goto (tgt := 4) jx jb dX8_run_76 (by decide) ?_
              exact ih4 (k + 1) g_5 _ _ _ (by omega) hX5 (fun k hk => by show g_5 k = _; rw [eg_5, va_up_n (by omega), pfr k (by omega), eg_1, va_up_n (by omega), hfr k (by omega)])  (by omega) hW (lv_sub hl [3, 1, 0] rfl)
            · refine lv_iconst (v := 1) jx jb dX8_run_66 (by decide) ?_
              refine lv_goto (tgt := 71) jx jb dX8_run_67 (by decide) ?_
              refine lv_iadd jx jb dX8_run_71 ?_
              refine top_eq (y := nI (cntB (fun i => rnB M (x (p i))) (k + 1))) (by rw [show cntB (fun i => rnB M (x (p i))) (k + 1) = cntB (fun i => rnB M (x (p i))) k + (if rnB M (x (p k)) = true then 1 else 0) from rfl, if_pos (by unfold rnB; rw [Bool.and_eq_true]; exact ⟨htou, bI_n0.mp c63⟩), ← nI_add]; rfl) ?_
              refine lv_istore_n (lv' := [(1, .int (nI (cntB (fun i => rnB M (x (p i))) (k + 1)))), (3, .ref (ad (12 + 4 * p k))), (0, .ref (ad 0)), (2, .int (nI k))]) jx jb dX8_run_72 rfl hl (by decide) rfl (fun ls hl => ?_)
              refine lv_iinc (v := nI (k + 1)) (lv' := [(2, .int (nI (k + 1))), (1, .int (nI (cntB (fun i => rnB M (x (p i))) (k + 1)))), (3, .ref (ad (12 + 4 * p k))), (0, .ref (ad 0))]) jx jb dX8_run_73 hl (k := 3) rfl (show nI k + 1 = nI (k + 1) from nI_1 _) (by decide) rfl (fun ls hl => ?_)
              refine lv_goto (tgt := 4) jx jb dX8_run_76 (by decide) ?_
              exact ih4 (k + 1) g_5 _ _ _ (by omega) hX5 (fun k hk => by show g_5 k = _; rw [eg_5, va_up_n (by omega), pfr k (by omega), eg_1, va_up_n (by omega), hfr k (by omega)])  (by omega) hW (lv_sub hl [3, 1, 0] rfl)
          · refine lv_iconst (v := 1) jx jb dX8_run_50 (by decide) ?_
            refine lv_goto (tgt := 55) jx jb dX8_run_51 (by decide) ?_
            refine top_eq (y := bI (decide (¬ fdT M (x (p k)) = -1) = true)) ((bI_t (by rw [decide_eq_true_eq]; exact c47)).symm) ?_
            refine w_putN X hW K3 (by omega) u1 3 (by decide) fn_X8_152 rfl bI_nar bI_fit (Nat.le_of_ble_eq_true rfl) dX8_run_55 (fun H locs hW => ?_)
            obtain ⟨g_8, eg_8⟩ : ∃ zz, zz = va_up g1 (12 + 4 * p k) (.inr (3, [.ref (ad (13 + 4 * p k)), .int ((x (p k)).2.2.1), .int (bI (false = true)), .int (bI (decide (¬ fdT M (x (p k)) = -1) = true))])) := ⟨_, rfl⟩
            have hW : Wd G A js.heap (N, ad, g_8) H locs := by rw [eg_8]; exact hW
            have hf9 : g_8 0 = .inr (8, [.ref (ad 1), .ref (ad 4), .ref (ad 9), .ref (ad 60), .ref (ad 62)]) := by rw [eg_8]; exact (va_up_n (by omega)).trans f0z
            have hf10 : g_8 (12 + 4 * p k) = .inr (3, [.ref (ad (13 + 4 * p k)), .int ((x (p k)).2.2.1), .int (bI (false = true)), .int (bI (decide (¬ fdT M (x (p k)) = -1) = true))]) := by rw [eg_8]; exact va_up_s
            have uR2 := uR.fr (show g_8 (13 + 4 * p k) = _ from by rw [eg_8, va_up_n (by omega)]) (show g_8 (14 + 4 * p k) = _ from by rw [eg_8, va_up_n (by omega)]) (show g_8 (15 + 4 * p k) = _ from by rw [eg_8, va_up_n (by omega)])
            have hrn : rnT M (x (p k)) = ((x (p k)).1, (x (p k)).2.1, (x (p k)).2.2.1, false, decide (¬ fdT M (x (p k)) = -1)) := if_pos htou
            have hX5 : XAt cy N ad g_8 M lg lr lt st T p (mapT p (rnT M) x (k + 1)) := by rw [show mapT p (rnT M) x (k + 1) = va_up (mapT p (rnT M) x k) (p k) (rnT M (mapT p (rnT M) x k (p k))) from rfl, hxk, hrn, ← va_up_up]; exact XAt.putT hX3 (fun k1 h1 h2 h3 h4 => by show g_8 k1 = _; rw [eg_8, va_up_n (by omega)]) ⟨ufc, ufr, hf10, uR2, uc, u96, ua⟩
            refine lv_iload_n jx jb dX8_run_58 rfl (lv_at hl 2 rfl) ?_
            refine lv_aload_n jx jb dX8_run_59 rfl (lv_at hl 0 rfl) ?_
            refine w_getN X hW K3 (by omega) hf10 3 (by decide) fn_X8_152 rfl dX8_run_60 ?_
            refine lv_if_eq (tgt := 70) jx jb dX8_run_63 (by decide) (fun c63 => ?_) (fun c63 => ?_)
            · refine lv_iconst (v := 0) jx jb dX8_run_70 (by decide) ?_
              refine lv_iadd jx jb dX8_run_71 ?_
              refine top_eq (y := nI (cntB (fun i => rnB M (x (p i))) (k + 1))) (by rw [show cntB (fun i => rnB M (x (p i))) (k + 1) = cntB (fun i => rnB M (x (p i))) k + (if rnB M (x (p k)) = true then 1 else 0) from rfl, if_neg (by unfold rnB; rw [Bool.and_eq_true]; exact fun z => bI_0.mp c63 z.2), ← nI_add]; rfl) ?_
              refine lv_istore_n (lv' := [(1, .int (nI (cntB (fun i => rnB M (x (p i))) (k + 1)))), (3, .ref (ad (12 + 4 * p k))), (0, .ref (ad 0)), (2, .int (nI k))]) jx jb dX8_run_72 rfl hl (by decide) rfl (fun ls hl => ?_)
              refine lv_iinc (v := nI (k + 1)) (lv' := [(2, .int (nI (k + 1))), (1, .int (nI (cntB (fun i => rnB M (x (p i))) (k + 1)))), (3, .ref (ad (12 + 4 * p k))), (0, .ref (ad 0))]) jx jb dX8_run_73 hl (k := 3) rfl (show nI k + 1 = nI (k + 1) from nI_1 _) (by decide) rfl (fun ls hl => ?_)
              refine lv_goto (tgt := 4) jx jb dX8_run_76 (by decide) ?_
              exact ih4 (k + 1) g_8 _ _ _ (by omega) hX5 (fun k hk => by show g_8 k = _; rw [eg_8, va_up_n (by omega), pfr k (by omega), eg_1, va_up_n (by omega), hfr k (by omega)])  (by omega) hW (lv_sub hl [3, 1, 0] rfl)
            · refine lv_iconst (v := 1) jx jb dX8_run_66 (by decide) ?_
              refine lv_goto (tgt := 71) jx jb dX8_run_67 (by decide) ?_
              refine lv_iadd jx jb dX8_run_71 ?_
              refine top_eq (y := nI (cntB (fun i => rnB M (x (p i))) (k + 1))) (by rw [show cntB (fun i => rnB M (x (p i))) (k + 1) = cntB (fun i => rnB M (x (p i))) k + (if rnB M (x (p k)) = true then 1 else 0) from rfl, if_pos (by unfold rnB; rw [Bool.and_eq_true]; exact ⟨htou, bI_n0.mp c63⟩), ← nI_add]; rfl) ?_
              refine lv_istore_n (lv' := [(1, .int (nI (cntB (fun i => rnB M (x (p i))) (k + 1)))), (3, .ref (ad (12 + 4 * p k))), (0, .ref (ad 0)), (2, .int (nI k))]) jx jb dX8_run_72 rfl hl (by decide) rfl (fun ls hl => ?_)
              refine lv_iinc (v := nI (k + 1)) (lv' := [(2, .int (nI (k + 1))), (1, .int (nI (cntB (fun i => rnB M (x (p i))) (k + 1)))), (3, .ref (ad (12 + 4 * p k))), (0, .ref (ad 0))]) jx jb dX8_run_73 hl (k := 3) rfl (show nI k + 1 = nI (k + 1) from nI_1 _) (by decide) rfl (fun ls hl => ?_)
              refine lv_goto (tgt := 4) jx jb dX8_run_76 (by decide) ?_
              exact ih4 (k + 1) g_8 _ _ _ (by omega) hX5 (fun k hk => by show g_8 k = _; rw [eg_8, va_up_n (by omega), pfr k (by omega), eg_1, va_up_n (by omega), hfr k (by omega)])  (by omega) hW (lv_sub hl [3, 1, 0] rfl)
  exact loop4 _ 0 g _ _ _ (by omega) hX (fun k hk => rfl)  (Nat.lt_succ_self _) hW (lv_sub hl [2, 1, 0] rfl)

set_option maxHeartbeats 4000000 in
set_option maxRecDepth 100000 in
theorem c_callNo {l : Launch} {G : va_G} {cy : Nat → ClassId} {N : Nat} {ad : Nat → Nat} {g : Nat → va_E} {M : M4} {lg : List Nat} {lr lt : Nat → Int32} {st T : Nat} {p : Nat → Nat} {x : Nat → TT} {a b : Int32} (hX : XAt cy N ad g M lg lr lt st T p x) (hno : ¬ ((0 ≤ a ∧ a < 6) ∧ 0 ≤ b ∧ b < 16)) : RI l G cy (N, ad, g) yX8_call cX8_call 3 (some .int) (rmN 4) [.ref (ad 0), .int a, .int b] (-1) := by
  refine RI.mk (by decide) (by first | rfl | exact bI_nar) (Nat.le_of_ble_eq_true rfl) ?_
  intro jp je js jm below meth jc A Q X hW ret ls hl
  have jx := X.hx
  have jb := X.hb
  have hl : lv_has ls 3 [(0, .ref (ad 0)), (1, .int a), (2, .int b)] := hl
  have X : Cx G cy jp js jm _ jc cX8_call 3 RX8 A js.heap := X
  obtain ⟨f0, hM, ⟨fc, hL, hlc, hl96⟩, hS, ⟨psz, pf, mt, ltt, hP⟩, ⟨w0, w1, f62⟩⟩ := id hX
  obtain ⟨hok, h83, bc_, fs_, f1, -⟩ := id hM
  obtain ⟨-, hRL, hst, f4, f8⟩ := id hL
  have f5 := hRL.2.2.2.2.2.2.2.1
  have hlen := hRL.2.2.2.2.2.2.1
  obtain ⟨-, hT, hp12, hinj, ⟨ft, fm, f9, f10, f11, hft⟩, hx⟩ := id hS
  obtain ⟨-, hpsz, f60, f61⟩ := id hP
  refine lv_iload_n jx jb dX8_call_0 rfl (lv_at hl 1 rfl) ?_
  refine lv_bipush (v := 6) jx jb dX8_call_1 (by decide) ?_
  refine w_rS (As := [.int a, .int 6]) X hW (c_isBelow) ml_X8_77 mf_X8_isBelow ⟨Nat.le_of_ble_eq_true rfl, Nat.le_of_ble_eq_true rfl⟩ hl.1 rfl (Nat.le_of_ble_eq_true rfl) ⟨Nat.le_of_ble_eq_true rfl, Nat.le_of_ble_eq_true rfl⟩ dX8_call_3 (fun H locs hW => ?_)
  refine lv_if_eq (tgt := 18) jx jb dX8_call_6 (by decide) (fun c6 => ?_) (fun c6 => ?_)
  · refine lv_iconst (v := -1) jx jb dX8_call_18 (by decide) ?_
    exact ret _ _ _ _ _ dX8_call_19 hW rfl
  · refine lv_iload_n jx jb dX8_call_9 rfl (lv_at hl 2 rfl) ?_
    refine lv_bipush (v := 16) jx jb dX8_call_10 (by decide) ?_
    refine w_rS (As := [.int b, .int 16]) X hW (c_isBelow) ml_X8_77 mf_X8_isBelow ⟨Nat.le_of_ble_eq_true rfl, Nat.le_of_ble_eq_true rfl⟩ hl.1 rfl (Nat.le_of_ble_eq_true rfl) ⟨Nat.le_of_ble_eq_true rfl, Nat.le_of_ble_eq_true rfl⟩ dX8_call_12 (fun H locs hW => ?_)
    refine lv_if_ne (tgt := 20) jx jb dX8_call_15 (by decide) (fun c15 => ?_) (fun c15 => ?_)
    · exact absurd ⟨bI_n0.mp c6, bI_n0.mp c15⟩ hno
    · refine lv_iconst (v := -1) jx jb dX8_call_18 (by decide) ?_
      exact ret _ _ _ _ _ dX8_call_19 hW rfl

set_option maxHeartbeats 4000000 in
set_option maxRecDepth 100000 in
theorem c_callFull {l : Launch} {G : va_G} {cy : Nat → ClassId} {N : Nat} {ad : Nat → Nat} {g : Nat → va_E} {M : M4} {lg : List Nat} {lr lt : Nat → Int32} {st T : Nat} {p : Nat → Nat} {x : Nat → TT} {k q : Nat} (hX : XAt cy N ad g M lg lr lt st T p x) (hk : k < 6) (hq : q < 16) (h200 : lg.length = 200) : RI l G cy (N, ad, g) yX8_call cX8_call 3 (some .int) (rmN 4) [.ref (ad 0), .int (nI k), .int (nI q)] (-1) := by
  refine RI.mk (by decide) (by first | rfl | exact bI_nar) (Nat.le_of_ble_eq_true rfl) ?_
  intro jp je js jm below meth jc A Q X hW ret ls hl
  have jx := X.hx
  have jb := X.hb
  have hl : lv_has ls 3 [(0, .ref (ad 0)), (1, .int (nI k)), (2, .int (nI q))] := hl
  have X : Cx G cy jp js jm _ jc cX8_call 3 RX8 A js.heap := X
  obtain ⟨f0, hM, ⟨fc, hL, hlc, hl96⟩, hS, ⟨psz, pf, mt, ltt, hP⟩, ⟨w0, w1, f62⟩⟩ := id hX
  obtain ⟨hok, h83, bc_, fs_, f1, -⟩ := id hM
  obtain ⟨-, hRL, hst, f4, f8⟩ := id hL
  have f5 := hRL.2.2.2.2.2.2.2.1
  have hlen := hRL.2.2.2.2.2.2.1
  obtain ⟨-, hT, hp12, hinj, ⟨ft, fm, f9, f10, f11, hft⟩, hx⟩ := id hS
  obtain ⟨-, hpsz, f60, f61⟩ := id hP
  refine lv_iload_n jx jb dX8_call_0 rfl (lv_at hl 1 rfl) ?_
  refine lv_bipush (v := 6) jx jb dX8_call_1 (by decide) ?_
  refine w_rS (As := [.int (nI k), .int 6]) X hW (c_isBelow) ml_X8_77 mf_X8_isBelow ⟨Nat.le_of_ble_eq_true rfl, Nat.le_of_ble_eq_true rfl⟩ hl.1 rfl (Nat.le_of_ble_eq_true rfl) ⟨Nat.le_of_ble_eq_true rfl, Nat.le_of_ble_eq_true rfl⟩ dX8_call_3 (fun H locs hW => ?_)
  refine lv_if_eq (tgt := 18) jx jb dX8_call_6 (by decide) (fun c6 => ?_) (fun c6 => ?_)
  · exact absurd (c6.symm.trans (bel_t (b := 6) hk (by decide))) (by decide)
  · refine lv_iload_n jx jb dX8_call_9 rfl (lv_at hl 2 rfl) ?_
    refine lv_bipush (v := 16) jx jb dX8_call_10 (by decide) ?_
    refine w_rS (As := [.int (nI q), .int 16]) X hW (c_isBelow) ml_X8_77 mf_X8_isBelow ⟨Nat.le_of_ble_eq_true rfl, Nat.le_of_ble_eq_true rfl⟩ hl.1 rfl (Nat.le_of_ble_eq_true rfl) ⟨Nat.le_of_ble_eq_true rfl, Nat.le_of_ble_eq_true rfl⟩ dX8_call_12 (fun H locs hW => ?_)
    refine lv_if_ne (tgt := 20) jx jb dX8_call_15 (by decide) (fun c15 => ?_) (fun c15 => ?_)
    · refine lv_aload_n jx jb dX8_call_20 rfl (lv_at hl 0 rfl) ?_
      refine w_get X hW K8 (by omega) f0 1 (by decide) fl_X8_19 rfl dX8_call_21 ?_
      refine lv_iload_n jx jb dX8_call_24 rfl (lv_at hl 1 rfl) ?_
      refine lv_iload_n jx jb dX8_call_25 rfl (lv_at hl 2 rfl) ?_
      refine w_rS (As := [.int (nI k), .int (nI q)]) X hW (c_callOf) ml_X8_81 mf_X8_callOf ⟨Nat.le_of_ble_eq_true rfl, Nat.le_of_ble_eq_true rfl⟩ hl.1 rfl (Nat.le_of_ble_eq_true rfl) ⟨Nat.le_of_ble_eq_true rfl, Nat.le_of_ble_eq_true rfl⟩ dX8_call_26 (fun H locs hW => ?_)
      refine lv_aload_n jx jb dX8_call_29 rfl (lv_at hl 0 rfl) ?_
      refine w_get X hW K8 (by omega) f0 0 (by decide) fl_X8_12 rfl dX8_call_30 ?_
      refine w_rV (As := [.int (nI (k * 16 + q)), .ref (ad 1)]) X hW (c_logFull hL h200) (by omega) f4 rfl rfl ml_X8_85 mf_X1_add ⟨Nat.le_of_ble_eq_true rfl, Nat.le_of_ble_eq_true rfl⟩ hl.1 rfl (Nat.le_of_ble_eq_true rfl) ⟨Nat.le_of_ble_eq_true rfl, Nat.le_of_ble_eq_true rfl⟩ dX8_call_33 (fun H locs hW => ?_)
      exact ret _ _ _ _ _ dX8_call_36 hW rfl
    · exact absurd (c15.symm.trans (bel_t (b := 16) hq (by decide))) (by decide)

set_option maxHeartbeats 4000000 in
set_option maxRecDepth 100000 in
theorem c_call {l : Launch} {G : va_G} {cy : Nat → ClassId} {N : Nat} {ad : Nat → Nat} {g : Nat → va_E} {M : M4} {lg : List Nat} {lr lt : Nat → Int32} {st T : Nat} {p : Nat → Nat} {x : Nat → TT} {k q : Nat} (hX : XAt cy N ad g M lg lr lt st T p x) (hk : k < 6) (hq : q < 16) (hs : lg.length < 200) : MI l G cy (N, ad, g) yX8_call cX8_call 3 (some .int) (rmN 4) [.ref (ad 0), .int (nI k), .int (nI q)] (nA N ad (fun v g1 => v = rs M (tk M ((k * 16 + q) / 16) st) (stp M (k * 16 + q) st) ∧ XAt cy N ad g1 M (lg ++ [(k * 16 + q)]) (upd lr lg.length (rs M (tk M ((k * 16 + q) / 16) st) (stp M (k * 16 + q) st))) (upd lt lg.length (tI (tk M ((k * 16 + q) / 16) st))) (stp M (k * 16 + q) st) T p x ∧ ∀ k, 63 ≤ k → g1 k = g k)) := by
  refine NI.mk (by decide) (by intros; first | rfl | (simp_all; done)) (Nat.le_of_ble_eq_true rfl) ?_
  intro jp je js jm below meth jc A Q X hW ret ls hl
  have jx := X.hx
  have jb := X.hb
  have hl : lv_has ls 3 [(0, .ref (ad 0)), (1, .int (nI k)), (2, .int (nI q))] := hl
  have X : Cx G cy jp js jm _ jc cX8_call 3 RX8 A js.heap := X
  obtain ⟨f0, hM, ⟨fc, hL, hlc, hl96⟩, hS, ⟨psz, pf, mt, ltt, hP⟩, ⟨w0, w1, f62⟩⟩ := id hX
  obtain ⟨hok, h83, bc_, fs_, f1, -⟩ := id hM
  obtain ⟨-, hRL, hst, f4, f8⟩ := id hL
  have f5 := hRL.2.2.2.2.2.2.2.1
  have hlen := hRL.2.2.2.2.2.2.1
  obtain ⟨-, hT, hp12, hinj, ⟨ft, fm, f9, f10, f11, hft⟩, hx⟩ := id hS
  obtain ⟨-, hpsz, f60, f61⟩ := id hP
  refine lv_iload_n jx jb dX8_call_0 rfl (lv_at hl 1 rfl) ?_
  refine lv_bipush (v := 6) jx jb dX8_call_1 (by decide) ?_
  refine w_rS (As := [.int (nI k), .int 6]) X hW (c_isBelow) ml_X8_77 mf_X8_isBelow ⟨Nat.le_of_ble_eq_true rfl, Nat.le_of_ble_eq_true rfl⟩ hl.1 rfl (Nat.le_of_ble_eq_true rfl) ⟨Nat.le_of_ble_eq_true rfl, Nat.le_of_ble_eq_true rfl⟩ dX8_call_3 (fun H locs hW => ?_)
  refine lv_if_eq (tgt := 18) jx jb dX8_call_6 (by decide) (fun c6 => ?_) (fun c6 => ?_)
  · exact absurd (c6.symm.trans (bel_t (b := 6) hk (by decide))) (by decide)
  · refine lv_iload_n jx jb dX8_call_9 rfl (lv_at hl 2 rfl) ?_
    refine lv_bipush (v := 16) jx jb dX8_call_10 (by decide) ?_
    refine w_rS (As := [.int (nI q), .int 16]) X hW (c_isBelow) ml_X8_77 mf_X8_isBelow ⟨Nat.le_of_ble_eq_true rfl, Nat.le_of_ble_eq_true rfl⟩ hl.1 rfl (Nat.le_of_ble_eq_true rfl) ⟨Nat.le_of_ble_eq_true rfl, Nat.le_of_ble_eq_true rfl⟩ dX8_call_12 (fun H locs hW => ?_)
    refine lv_if_ne (tgt := 20) jx jb dX8_call_15 (by decide) (fun c15 => ?_) (fun c15 => ?_)
    · refine lv_aload_n jx jb dX8_call_20 rfl (lv_at hl 0 rfl) ?_
      refine w_get X hW K8 (by omega) f0 1 (by decide) fl_X8_19 rfl dX8_call_21 ?_
      refine lv_iload_n jx jb dX8_call_24 rfl (lv_at hl 1 rfl) ?_
      refine lv_iload_n jx jb dX8_call_25 rfl (lv_at hl 2 rfl) ?_
      refine w_rS (As := [.int (nI k), .int (nI q)]) X hW (c_callOf) ml_X8_81 mf_X8_callOf ⟨Nat.le_of_ble_eq_true rfl, Nat.le_of_ble_eq_true rfl⟩ hl.1 rfl (Nat.le_of_ble_eq_true rfl) ⟨Nat.le_of_ble_eq_true rfl, Nat.le_of_ble_eq_true rfl⟩ dX8_call_26 (fun H locs hW => ?_)
      refine lv_aload_n jx jb dX8_call_29 rfl (lv_at hl 0 rfl) ?_
      refine w_get X hW K8 (by omega) f0 0 (by decide) fl_X8_12 rfl dX8_call_30 ?_
      refine w_nV (As := [.int (nI (k * 16 + q)), .ref (ad 1)]) X hW (c_logAdd hM hL (by omega) hs) (by omega) f4 rfl rfl ml_X8_85 mf_X1_add ⟨Nat.le_of_ble_eq_true rfl, Nat.le_of_ble_eq_true rfl⟩ hl.1 rfl (Nat.le_of_ble_eq_true rfl) ⟨Nat.le_of_ble_eq_true rfl, Nat.le_of_ble_eq_true rfl⟩ dX8_call_33 (fun r1 g1 H locs hp hW => ?_)
      obtain ⟨er, hL1, pfr⟩ := hp
      exact ret _ _ _ _ _ _ dX8_call_36 hW ⟨er, ⟨((show g1 0 = g 0 from by rw [pfr _ (by simp only [List.mem_cons, List.not_mem_nil, or_false, not_or] <;> omega)]).trans f0), hM.fr (fun k hk => by show g1 k = _; rw [pfr k (by simp only [List.mem_cons, List.not_mem_nil, or_false, not_or] <;> omega)]), ⟨_, (by rw [List.length_append]; exact hL1), (fun i hi => by simp at hi; by_cases e : i = lg.length; (rw [e, pk_us, show gl (lg ++ [(k * 16 + q)]) lg.length = (k * 16 + q) from gl_app_r (i := 0)]); (rw [pk_un e, gl_app_l (by omega)]; exact hlc i (by omega))), (fun z hz => by rcases List.mem_append.mp hz with h | h; exact hl96 z h; (simp at h; omega))⟩, hS.fr (fun k hk1 hk2 => by show g1 k = _; rw [pfr k (by simp only [List.mem_cons, List.not_mem_nil, or_false, not_or] <;> omega)]), ⟨psz, pf, mt, ltt, h83, hpsz, (show g1 60 = g 60 from by rw [pfr _ (by simp only [List.mem_cons, List.not_mem_nil, or_false, not_or] <;> omega)]).trans f60, (show g1 61 = g 61 from by rw [pfr _ (by simp only [List.mem_cons, List.not_mem_nil, or_false, not_or] <;> omega)]).trans f61⟩, ⟨w0, w1, (show g1 62 = g 62 from by rw [pfr _ (by simp only [List.mem_cons, List.not_mem_nil, or_false, not_or] <;> omega)]).trans f62⟩⟩, (fun k hk => by show g1 k = _; rw [pfr k (by simp only [List.mem_cons, List.not_mem_nil, or_false, not_or] <;> omega)])⟩
    · exact absurd (c15.symm.trans (bel_t (b := 16) hq (by decide))) (by decide)
end
section
set_option maxHeartbeats 4000000 in
set_option maxRecDepth 100000 in
theorem c_makeNo {l : Launch} {G : va_G} {cy : Nat → ClassId} {N : Nat} {ad : Nat → Nat} {g : Nat → va_E} {M : M4} {lg : List Nat} {lr lt : Nat → Int32} {st T : Nat} {p : Nat → Nat} {x : Nat → TT} {i : Int32} (hX : XAt cy N ad g M lg lr lt st T p x) (hno : ¬ (T < 12 ∧ 0 ≤ i ∧ i < nI lg.length)) : RI l G cy (N, ad, g) yX8_make cX8_make 3 (some .int) (rmN 6) [.ref (ad 0), .int i] (-1) := by
  refine RI.mk (by decide) (by first | rfl | exact bI_nar) (Nat.le_of_ble_eq_true rfl) ?_
  intro jp je js jm below meth jc A Q X hW ret ls hl
  have jx := X.hx
  have jb := X.hb
  have hl : lv_has ls 3 [(0, .ref (ad 0)), (1, .int i)] := hl
  have X : Cx G cy jp js jm _ jc cX8_make 3 RX8 A js.heap := X
  obtain ⟨f0, hM, ⟨fc, hL, hlc, hl96⟩, hS, ⟨psz, pf, mt, ltt, hP⟩, ⟨w0, w1, f62⟩⟩ := id hX
  obtain ⟨hok, h83, bc_, fs_, f1, -⟩ := id hM
  obtain ⟨-, hRL, hst, f4, f8⟩ := id hL
  have f5 := hRL.2.2.2.2.2.2.2.1
  have hlen := hRL.2.2.2.2.2.2.1
  obtain ⟨-, hT, hp12, hinj, ⟨ft, fm, f9, f10, f11, hft⟩, hx⟩ := id hS
  obtain ⟨-, hpsz, f60, f61⟩ := id hP
  refine lv_aload_n jx jb dX8_make_0 rfl (lv_at hl 0 rfl) ?_
  refine w_get X hW K8 (by omega) f0 2 (by decide) fl_X8_26 rfl dX8_make_1 ?_
  refine w_rVr (As := []) X hW (c_spare hS) (by omega) f9 rfl rfl ml_X8_95 mf_X7_spare ⟨Nat.le_of_ble_eq_true rfl, Nat.le_of_ble_eq_true rfl⟩ hl.1 rfl (Nat.le_of_ble_eq_true rfl) ⟨Nat.le_of_ble_eq_true rfl, Nat.le_of_ble_eq_true rfl⟩ dX8_make_4 (fun H locs hW => ?_)
  by_cases hTT : T < 12
  · refine top_q (y := some (ad (12 + 4 * p T))) (if_pos hTT) ?_
    refine lv_astore_n (lv' := [(2, .ref (ad (12 + 4 * p T))), (0, .ref (ad 0)), (1, .int i)]) jx jb dX8_make_7 rfl hl (by decide) rfl (fun ls hl => ?_)
    refine lv_aload_n jx jb dX8_make_8 rfl (lv_at hl 0 rfl) ?_
    refine lv_ifnull jx jb dX8_make_9 ?_
    refine lv_iload_n jx jb dX8_make_12 rfl (lv_at hl 2 rfl) ?_
    refine lv_aload_n jx jb dX8_make_13 rfl (lv_at hl 1 rfl) ?_
    refine w_get X hW K8 (by omega) f0 1 (by decide) fl_X8_19 rfl dX8_make_14 ?_
    refine w_rV (As := []) X hW (c_lSize hL) (by omega) f4 rfl rfl ml_X8_99 mf_X1_size ⟨Nat.le_of_ble_eq_true rfl, Nat.le_of_ble_eq_true rfl⟩ hl.1 rfl (Nat.le_of_ble_eq_true rfl) ⟨Nat.le_of_ble_eq_true rfl, Nat.le_of_ble_eq_true rfl⟩ dX8_make_17 (fun H locs hW => ?_)
    refine w_rS (As := [.int i, .int (nI lg.length)]) X hW (c_isBelow) ml_X8_77 mf_X8_isBelow ⟨Nat.le_of_ble_eq_true rfl, Nat.le_of_ble_eq_true rfl⟩ hl.1 rfl (Nat.le_of_ble_eq_true rfl) ⟨Nat.le_of_ble_eq_true rfl, Nat.le_of_ble_eq_true rfl⟩ dX8_make_20 (fun H locs hW => ?_)
    refine lv_if_ne (tgt := 28) jx jb dX8_make_23 (by decide) (fun c23 => ?_) (fun c23 => ?_)
    · exact absurd ⟨hTT, bI_n0.mp c23⟩ hno
    · refine lv_iconst (v := -1) jx jb dX8_make_26 (by decide) ?_
      exact ret _ _ _ _ _ dX8_make_27 hW rfl
  · refine top_q (y := none) (if_neg hTT) ?_
    refine lv_astore_nN (lv' := [(2, .null), (0, .ref (ad 0)), (1, .int i)]) jx jb dX8_make_7 rfl hl (by decide) rfl (fun ls hl => ?_)
    refine lv_aload_nN jx jb dX8_make_8 rfl (lv_at hl 0 rfl) ?_
    refine lv_ifnullN (tgt := 26) jx jb dX8_make_9 (by decide) ?_
    refine lv_iconst (v := -1) jx jb dX8_make_26 (by decide) ?_
    exact ret _ _ _ _ _ dX8_make_27 hW rfl

/-- the row that a test of call j of the log has -/
def mkRow (M : M4) (lg : List Nat) (j : Nat) : List Nat := shrL M (tI (tkq M (gl (lg.take (j + 1))) 0 j)) (rsq M (gl (lg.take (j + 1))) 0 j) 201 (lg.take (j + 1))
theorem gl_take {l : List Nat} {n i : Nat} (h : i < n) : gl (l.take n) i = gl l i := by
  simp [gl, List.getD, List.getElem?_take, h]

theorem likeK_congr {y z : Nat → TT} {row : List Nat} : ∀ {n : Nat}, (∀ i, i < n → y i = z i) → likeK y row n = likeK z row n
  | 0, _ => rfl
  | n + 1, h => by
    unfold likeK
    rw [h n (by omega), likeK_congr (fun i hi => h i (by omega))]
theorem XAt.putP {cy : Nat → ClassId} {N : Nat} {ad : Nat → Nat} {g g' : Nat → va_E} {M : M4} {lg : List Nat} {lr lt : Nat → Int32} {st T : Nat} {p : Nat → Nat} {x : Nat → TT} {q : Nat} {t : TT} (h : XAt cy N ad g M lg lr lt st T p x) (h1 : ∀ k, k ≠ 12 + 4 * q → k ≠ 13 + 4 * q → k ≠ 14 + 4 * q → k ≠ 15 + 4 * q → k ≠ 60 → k ≠ 61 → g' k = g k) (ht : TstAt cy N ad g' q t) (hP : ∃ psz pf mt lt, RepAt cy N ad g' psz pf mt lt) (hq : q < 12) : XAt cy N ad g' M lg lr lt st T p (va_up x q t) := by
  obtain ⟨a, b, ⟨fc, c1, c2, c3⟩, d, -, ⟨f1, f2, f3⟩⟩ := h
  exact ⟨(h1 0 (by omega) (by omega) (by omega) (by omega) (by omega) (by omega)).trans a, b.fr (fun k hk => h1 k (by omega) (by omega) (by omega) (by omega) (by omega) (by omega)), ⟨fc, c1.fr (fun k _ _ => h1 k (by omega) (by omega) (by omega) (by omega) (by omega) (by omega)), c2, c3⟩, d.put (fun k k1 k2 k3 k4 k5 k6 => h1 k k1 k2 k3 k4 (by omega) (by omega)) ht, hP, ⟨f1, f2, (h1 62 (by omega) (by omega) (by omega) (by omega) (by omega) (by omega)).trans f3⟩⟩
theorem XAt.keep {cy : Nat → ClassId} {N : Nat} {ad : Nat → Nat} {g g' : Nat → va_E} {M : M4} {lg : List Nat} {lr lt : Nat → Int32} {st T T' : Nat} {p p' : Nat → Nat} {x x' : Nat → TT} (h : XAt cy N ad g M lg lr lt st T p x) (h1 : ∀ k, ¬ (9 ≤ k ∧ k < 60) → g' k = g k) (hS : SuAt cy N ad g' T' p' x') : XAt cy N ad g' M lg lr lt st T' p' x' := by
  obtain ⟨a, b, ⟨fc, c1, c2, c3⟩, d, ⟨e1, e2, e3, e4, e5⟩, ⟨f1, f2, f3⟩⟩ := h
  exact ⟨(h1 0 (by omega)).trans a, b.fr (fun k hk => h1 k (by omega)), ⟨fc, c1.fr (fun k _ _ => h1 k (by omega)), c2, c3⟩, hS, ⟨e1, e2, e3, e4, e5.1, e5.2.1, (h1 60 (by omega)).trans e5.2.2.1, (h1 61 (by omega)).trans e5.2.2.2⟩, ⟨f1, f2, (h1 62 (by omega)).trans f3⟩⟩

set_option maxHeartbeats 4000000 in
set_option maxRecDepth 100000 in
theorem c_make {l : Launch} {G : va_G} {cy : Nat → ClassId} {N : Nat} {ad : Nat → Nat} {g : Nat → va_E} {M : M4} {lg : List Nat} {lr lt : Nat → Int32} {st T : Nat} {p : Nat → Nat} {x : Nat → TT} {j : Nat} (hX : XAt cy N ad g M lg lr lt st T p x) (hTT : T < 12) (hj : j < lg.length) : MI l G cy (N, ad, g) yX8_make cX8_make 3 (some .int) (rmN 6) [.ref (ad 0), .int (nI j)] (nA N ad (fun v g1 => if likeK (fun i => x (p i)) (mkRow M lg j) T = true then v = -1 ∧ ∃ t, XAt cy N ad g1 M lg lr lt st T p (va_up x (p T) t) ∧ ∀ k, 63 ≤ k → g1 k = g k else v = nI T ∧ XAt cy N ad g1 M lg lr lt st (T + 1) p (va_up x (p T) (nwT M (mkRow M lg j))) ∧ ∀ k, 63 ≤ k → g1 k = g k)) := by
  refine NI.mk (by decide) (by intros; first | rfl | (simp_all; done)) (Nat.le_of_ble_eq_true rfl) ?_
  intro jp je js jm below meth jc A Q X hW ret ls hl
  have jx := X.hx
  have jb := X.hb
  have hl : lv_has ls 3 [(0, .ref (ad 0)), (1, .int (nI j))] := hl
  have X : Cx G cy jp js jm _ jc cX8_make 3 RX8 A js.heap := X
  obtain ⟨f0, hM, ⟨fc, hL, hlc, hl96⟩, hS, ⟨psz, pf, mt, ltt, hP⟩, ⟨w0, w1, f62⟩⟩ := id hX
  obtain ⟨hok, h83, bc_, fs_, f1, -⟩ := id hM
  obtain ⟨-, hRL, hst, f4, f8⟩ := id hL
  have f5 := hRL.2.2.2.2.2.2.2.1
  have hlen := hRL.2.2.2.2.2.2.1
  obtain ⟨-, hT, hp12, hinj, ⟨ft, fm, f9, f10, f11, hft⟩, hx⟩ := id hS
  obtain ⟨-, hpsz, f60, f61⟩ := id hP
  have hq12 := hp12 T hTT
  obtain ⟨tfc, tfr, t1, tR, tc, t96, ta⟩ := hx (p T) hq12
  have htl := tR.2.2.2.2.2.2.1
  refine lv_aload_n jx jb dX8_make_0 rfl (lv_at hl 0 rfl) ?_
  refine w_get X hW K8 (by omega) f0 2 (by decide) fl_X8_26 rfl dX8_make_1 ?_
  refine w_rVr (As := []) X hW (c_spare hS) (by omega) f9 rfl rfl ml_X8_95 mf_X7_spare ⟨Nat.le_of_ble_eq_true rfl, Nat.le_of_ble_eq_true rfl⟩ hl.1 rfl (Nat.le_of_ble_eq_true rfl) ⟨Nat.le_of_ble_eq_true rfl, Nat.le_of_ble_eq_true rfl⟩ dX8_make_4 (fun H locs hW => ?_)
  refine top_q (y := some (ad (12 + 4 * p T))) (if_pos hTT) ?_
  refine lv_astore_n (lv' := [(2, .ref (ad (12 + 4 * p T))), (0, .ref (ad 0)), (1, .int (nI j))]) jx jb dX8_make_7 rfl hl (by decide) rfl (fun ls hl => ?_)
  refine lv_aload_n jx jb dX8_make_8 rfl (lv_at hl 0 rfl) ?_
  refine lv_ifnull jx jb dX8_make_9 ?_
  refine lv_iload_n jx jb dX8_make_12 rfl (lv_at hl 2 rfl) ?_
  refine lv_aload_n jx jb dX8_make_13 rfl (lv_at hl 1 rfl) ?_
  refine w_get X hW K8 (by omega) f0 1 (by decide) fl_X8_19 rfl dX8_make_14 ?_
  refine w_rV (As := []) X hW (c_lSize hL) (by omega) f4 rfl rfl ml_X8_99 mf_X1_size ⟨Nat.le_of_ble_eq_true rfl, Nat.le_of_ble_eq_true rfl⟩ hl.1 rfl (Nat.le_of_ble_eq_true rfl) ⟨Nat.le_of_ble_eq_true rfl, Nat.le_of_ble_eq_true rfl⟩ dX8_make_17 (fun H locs hW => ?_)
  refine w_rS (As := [.int (nI j), .int (nI lg.length)]) X hW (c_isBelow) ml_X8_77 mf_X8_isBelow ⟨Nat.le_of_ble_eq_true rfl, Nat.le_of_ble_eq_true rfl⟩ hl.1 rfl (Nat.le_of_ble_eq_true rfl) ⟨Nat.le_of_ble_eq_true rfl, Nat.le_of_ble_eq_true rfl⟩ dX8_make_20 (fun H locs hW => ?_)
  refine lv_if_ne (tgt := 28) jx jb dX8_make_23 (by decide) (fun c23 => ?_) (fun c23 => ?_)
  · refine lv_aload_n jx jb dX8_make_28 rfl (lv_at hl 0 rfl) ?_
    refine w_getN X hW K3 (by omega) t1 0 (by decide) fn_X8_102 rfl dX8_make_29 ?_
    refine lv_aload_n jx jb dX8_make_32 rfl (lv_at hl 1 rfl) ?_
    refine w_get X hW K8 (by omega) f0 1 (by decide) fl_X8_19 rfl dX8_make_33 ?_
    refine w_getN X hW K1 (by omega) f4 0 (by decide) fn_X8_108 rfl dX8_make_36 ?_
    refine lv_iload_n jx jb dX8_make_39 rfl (lv_at hl 2 rfl) ?_
    refine lv_iconst (v := 1) jx jb dX8_make_40 (by decide) ?_
    refine lv_iadd jx jb dX8_make_41 ?_
    refine top_eq (y := nI (j + 1)) (nI_1 _) ?_
    refine w_nVv (As := [.ref (ad 5), .int (nI (j + 1))]) X hW (c_copyStart tR hRL (by omega) (by omega)) (by omega) tR.2.2.2.2.2.2.2.1 rfl rfl ml_X8_109 mf_X5_copyStart ⟨Nat.le_of_ble_eq_true rfl, Nat.le_of_ble_eq_true rfl⟩ hl.1 rfl (Nat.le_of_ble_eq_true rfl) ⟨Nat.le_of_ble_eq_true rfl, Nat.le_of_ble_eq_true rfl⟩ dX8_make_42 (fun ga H locs hp hW => ?_)
    obtain ⟨fk, fq, aR, acp, afr⟩ := hp
    have hr0 : (lg.take (j + 1)).length = j + 1 := by rw [List.length_take]; omega
    have hf1 : ga 0 = .inr (8, [.ref (ad 1), .ref (ad 4), .ref (ad 9), .ref (ad 60), .ref (ad 62)]) := (afr 0 (by simp only [List.mem_cons, List.not_mem_nil, or_false, not_or] <;> omega)).trans f0
    have hf2 : ga 9 = .inr (7, [.ref (ad 10), .ref (ad 11), .int (nI T)]) := (afr 9 (by simp only [List.mem_cons, List.not_mem_nil, or_false, not_or] <;> omega)).trans f9
    have hf3 : ga 4 = .inr (1, [.ref (ad 5), .ref (ad 8), .int (nI st)]) := (afr 4 (by simp only [List.mem_cons, List.not_mem_nil, or_false, not_or] <;> omega)).trans f4
    have hf4 : ga 5 = .inr (5, [.ref (ad 6), .ref (ad 7), .int (nI lg.length)]) := (afr 5 (by simp only [List.mem_cons, List.not_mem_nil, or_false, not_or] <;> omega)).trans f5
    have hf5 : ga 60 = .inr (4, [.ref (ad 1), .ref (ad 61), .int (nI psz), .int mt, .int ltt]) := (afr 60 (by simp only [List.mem_cons, List.not_mem_nil, or_false, not_or] <;> omega)).trans f60
    have hf6 : ga 62 = .inr (6, [.ref (ad 1), .int w0, .int w1]) := (afr 62 (by simp only [List.mem_cons, List.not_mem_nil, or_false, not_or] <;> omega)).trans f62
    have hf7 : ga (12 + 4 * p T) = .inr (3, [.ref (ad (13 + 4 * p T)), .int ((x (p T)).2.2.1), .int (bI ((x (p T)).2.2.2.1 = true)), .int (bI ((x (p T)).2.2.2.2 = true))]) := (afr (12 + 4 * p T) (by simp only [List.mem_cons, List.not_mem_nil, or_false, not_or] <;> omega)).trans t1
    have aRc : ∀ i, i < j + 1 → fk i = nI (gl (lg.take (j + 1)) i) := fun i hi => by rw [acp i hi, hlc i (by omega), gl_take hi]
    have a96 : ∀ x, x ∈ (lg.take (j + 1)) → x < 96 := fun x hx => hl96 x (List.mem_of_mem_take hx)
    have hMa : MachAt cy N ad ga M := hM.fr (fun k hk => by show ga k = _; rw [afr k (by simp only [List.mem_cons, List.not_mem_nil, or_false, not_or] <;> omega)])
    have hPa : RepAt cy N ad ga psz pf mt ltt := ⟨h83, hpsz, (afr 60 (by simp only [List.mem_cons, List.not_mem_nil, or_false, not_or] <;> omega)).trans f60, (afr 61 (by simp only [List.mem_cons, List.not_mem_nil, or_false, not_or] <;> omega)).trans f61⟩
    refine lv_aload_n jx jb dX8_make_45 rfl (lv_at hl 1 rfl) ?_
    refine w_get X hW K8 (by omega) hf1 3 (by decide) fl_X8_35 rfl dX8_make_46 ?_
    refine lv_aload_n jx jb dX8_make_49 rfl (lv_at hl 0 rfl) ?_
    refine w_getN X hW K3 (by omega) hf7 0 (by decide) fn_X8_102 rfl dX8_make_50 ?_
    refine w_nVv (As := [.ref (ad (13 + 4 * p T))]) X hW (c_play hMa hPa aR (fun i hi => ⟨aRc i hi, a96 _ (gl_mem (by omega))⟩) (by omega)) (by omega) hf5 rfl rfl ml_X8_115 mf_X4_play ⟨Nat.le_of_ble_eq_true rfl, Nat.le_of_ble_eq_true rfl⟩ hl.1 rfl (Nat.le_of_ble_eq_true rfl) ⟨Nat.le_of_ble_eq_true rfl, Nat.le_of_ble_eq_true rfl⟩ dX8_make_53 (fun gb H locs hp hW => ?_)
    obtain ⟨pb, bP, bres, bfr⟩ := hp
    have hf8 : gb 0 = .inr (8, [.ref (ad 1), .ref (ad 4), .ref (ad 9), .ref (ad 60), .ref (ad 62)]) := (bfr 0 (by simp only [List.mem_cons, List.not_mem_nil, or_false, not_or] <;> omega)).trans hf1
    have hf9 : gb 9 = .inr (7, [.ref (ad 10), .ref (ad 11), .int (nI T)]) := (bfr 9 (by simp only [List.mem_cons, List.not_mem_nil, or_false, not_or] <;> omega)).trans hf2
    have hf10 : gb 4 = .inr (1, [.ref (ad 5), .ref (ad 8), .int (nI st)]) := (bfr 4 (by simp only [List.mem_cons, List.not_mem_nil, or_false, not_or] <;> omega)).trans hf3
    have hf11 : gb 5 = .inr (5, [.ref (ad 6), .ref (ad 7), .int (nI lg.length)]) := (bfr 5 (by simp only [List.mem_cons, List.not_mem_nil, or_false, not_or] <;> omega)).trans hf4
    have hf12 : gb 62 = .inr (6, [.ref (ad 1), .int w0, .int w1]) := (bfr 62 (by simp only [List.mem_cons, List.not_mem_nil, or_false, not_or] <;> omega)).trans hf6
    have hf13 : gb (12 + 4 * p T) = .inr (3, [.ref (ad (13 + 4 * p T)), .int ((x (p T)).2.2.1), .int (bI ((x (p T)).2.2.2.1 = true)), .int (bI ((x (p T)).2.2.2.2 = true))]) := (bfr (12 + 4 * p T) (by simp only [List.mem_cons, List.not_mem_nil, or_false, not_or] <;> omega)).trans hf7
    have hf14 : gb (13 + 4 * p T) = .inr (5, [.ref (ad (14 + 4 * p T)), .ref (ad (15 + 4 * p T)), .int (nI (j + 1))]) := (bfr (13 + 4 * p T) (by simp only [List.mem_cons, List.not_mem_nil, or_false, not_or] <;> omega)).trans aR.2.2.2.2.2.2.2.1
    have bR := aR.fr (bfr (13 + 4 * p T) (by simp only [List.mem_cons, List.not_mem_nil, or_false, not_or] <;> omega)) (bfr (14 + 4 * p T) (by simp only [List.mem_cons, List.not_mem_nil, or_false, not_or] <;> omega)) (bfr (15 + 4 * p T) (by simp only [List.mem_cons, List.not_mem_nil, or_false, not_or] <;> omega))
    have hMb : MachAt cy N ad gb M := hM.fr (fun k hk => by show gb k = _; rw [bfr k (by simp only [List.mem_cons, List.not_mem_nil, or_false, not_or] <;> omega), afr k (by simp only [List.mem_cons, List.not_mem_nil, or_false, not_or] <;> omega)])
    have b62 : gb 62 = _ := (show gb 62 = g 62 from by rw [bfr _ (by simp only [List.mem_cons, List.not_mem_nil, or_false, not_or] <;> omega), afr _ (by simp only [List.mem_cons, List.not_mem_nil, or_false, not_or] <;> omega)]).trans f62
    refine lv_aload_n jx jb dX8_make_56 rfl (lv_at hl 1 rfl) ?_
    refine w_get X hW K8 (by omega) hf8 4 (by decide) fl_X8_42 rfl dX8_make_57 ?_
    refine lv_aload_n jx jb dX8_make_60 rfl (lv_at hl 0 rfl) ?_
    refine w_getN X hW K3 (by omega) hf13 0 (by decide) fn_X8_102 rfl dX8_make_61 ?_
    refine lv_aload_n jx jb dX8_make_64 rfl (lv_at hl 1 rfl) ?_
    refine w_get X hW K8 (by omega) hf8 3 (by decide) fl_X8_35 rfl dX8_make_65 ?_
    refine w_rV (As := []) X hW (c_lastTaken bP) (by omega) bP.2.2.1 rfl rfl ml_X8_119 mf_X4_lastTaken ⟨Nat.le_of_ble_eq_true rfl, Nat.le_of_ble_eq_true rfl⟩ hl.1 rfl (Nat.le_of_ble_eq_true rfl) ⟨Nat.le_of_ble_eq_true rfl, Nat.le_of_ble_eq_true rfl⟩ dX8_make_68 (fun H locs hW => ?_)
    refine top_eq (y := (tI (tkq M (gl (lg.take (j + 1))) 0 j))) (rfl) ?_
    refine lv_aload_n jx jb dX8_make_71 rfl (lv_at hl 1 rfl) ?_
    refine w_get X hW K8 (by omega) hf8 3 (by decide) fl_X8_35 rfl dX8_make_72 ?_
    refine w_rV (As := []) X hW (c_lastResult bP (by omega)) (by omega) bP.2.2.1 rfl rfl ml_X8_122 mf_X4_lastResult ⟨Nat.le_of_ble_eq_true rfl, Nat.le_of_ble_eq_true rfl⟩ hl.1 rfl (Nat.le_of_ble_eq_true rfl) ⟨Nat.le_of_ble_eq_true rfl, Nat.le_of_ble_eq_true rfl⟩ dX8_make_75 (fun H locs hW => ?_)
    refine top_eq (y := (rsq M (gl (lg.take (j + 1))) 0 j)) (bres j (by omega)) ?_
    refine w_nVv (As := [.ref (ad (13 + 4 * p T)), .int (tI (tkq M (gl (lg.take (j + 1))) 0 j)), .int (rsq M (gl (lg.take (j + 1))) 0 j)]) X hW (c_shorten (row := (lg.take (j + 1))) hMb b62 (by rw [hr0]; exact bR) (by omega) a96 (fun i hi => aRc i (by omega)) (by omega)) (by omega) hf12 rfl rfl ml_X8_125 mf_X6_shorten ⟨Nat.le_of_ble_eq_true rfl, Nat.le_of_ble_eq_true rfl⟩ hl.1 rfl (Nat.le_of_ble_eq_true rfl) ⟨Nat.le_of_ble_eq_true rfl, Nat.le_of_ble_eq_true rfl⟩ dX8_make_78 (fun gc H locs hp hW => ?_)
    obtain ⟨fs, cR, ccr, c62, cfr⟩ := hp
    have cpos : 1 ≤ (mkRow M lg j).length := shrL_pos (by omega)
    have c96 : ∀ x, x ∈ (mkRow M lg j) → x < 96 := fun x hx => a96 x (shrL_mem hx)
    have cR : RowAt cy N ad gc (13 + 4 * p T) (14 + 4 * p T) (15 + 4 * p T) (mkRow M lg j).length fs fq := cR
    have ccr : ∀ i, i < (mkRow M lg j).length → fs i = nI (gl (mkRow M lg j) i) := ccr
    have hf15 : gc 0 = .inr (8, [.ref (ad 1), .ref (ad 4), .ref (ad 9), .ref (ad 60), .ref (ad 62)]) := (cfr 0 (by simp only [List.mem_cons, List.not_mem_nil, or_false, not_or] <;> omega)).trans hf8
    have hf16 : gc 9 = .inr (7, [.ref (ad 10), .ref (ad 11), .int (nI T)]) := (cfr 9 (by simp only [List.mem_cons, List.not_mem_nil, or_false, not_or] <;> omega)).trans hf9
    have hf17 : gc 4 = .inr (1, [.ref (ad 5), .ref (ad 8), .int (nI st)]) := (cfr 4 (by simp only [List.mem_cons, List.not_mem_nil, or_false, not_or] <;> omega)).trans hf10
    have hf18 : gc 5 = .inr (5, [.ref (ad 6), .ref (ad 7), .int (nI lg.length)]) := (cfr 5 (by simp only [List.mem_cons, List.not_mem_nil, or_false, not_or] <;> omega)).trans hf11
    have hf19 : gc 60 = .inr (4, [.ref (ad 1), .ref (ad 61), .int (nI (j + 1)), .int (mtq M (gl (lg.take (j + 1))) (j + 1)), .int (ltq M (gl (lg.take (j + 1))) (j + 1))]) := (cfr 60 (by simp only [List.mem_cons, List.not_mem_nil, or_false, not_or] <;> omega)).trans bP.2.2.1
    have hf20 : gc (12 + 4 * p T) = .inr (3, [.ref (ad (13 + 4 * p T)), .int ((x (p T)).2.2.1), .int (bI ((x (p T)).2.2.2.1 = true)), .int (bI ((x (p T)).2.2.2.2 = true))]) := (cfr (12 + 4 * p T) (by simp only [List.mem_cons, List.not_mem_nil, or_false, not_or] <;> omega)).trans hf13
    have cS : SuAt cy N ad gc T p (va_up x (p T) ((mkRow M lg j), fq, (x (p T)).2.2)) := hS.put (fun k k1 k2 k3 k4 k5 k6 => by show gc k = _; rw [cfr k (by simp only [List.mem_cons, List.not_mem_nil, or_false, not_or]; omega), bfr k (by simp only [List.mem_cons, List.not_mem_nil, or_false, not_or]; omega), afr k (by simp only [List.mem_cons, List.not_mem_nil, or_false, not_or]; omega)]) ⟨fs, fq, hf20, cR, ccr, c96, fun i hi => rfl⟩
    have cX : XAt cy N ad gc M lg lr lt st T p (va_up x (p T) ((mkRow M lg j), fq, (x (p T)).2.2)) := ⟨hf15, hM.fr (fun k hk => by show gc k = _; rw [cfr k (by simp only [List.mem_cons, List.not_mem_nil, or_false, not_or] <;> omega), bfr k (by simp only [List.mem_cons, List.not_mem_nil, or_false, not_or] <;> omega), afr k (by simp only [List.mem_cons, List.not_mem_nil, or_false, not_or] <;> omega)]), ⟨fc, hL.fr (fun k hk1 hk2 => by show gc k = _; rw [cfr k (by simp only [List.mem_cons, List.not_mem_nil, or_false, not_or] <;> omega), bfr k (by simp only [List.mem_cons, List.not_mem_nil, or_false, not_or] <;> omega), afr k (by simp only [List.mem_cons, List.not_mem_nil, or_false, not_or] <;> omega)]), hlc, hl96⟩, cS, ⟨_, pb, _, _, bP.1, bP.2.1, (cfr 60 (by simp only [List.mem_cons, List.not_mem_nil, or_false, not_or] <;> omega)).trans bP.2.2.1, (cfr 61 (by simp only [List.mem_cons, List.not_mem_nil, or_false, not_or] <;> omega)).trans bP.2.2.2⟩, ⟨_, _, c62⟩⟩
    have cfr63 : ∀ k, 63 ≤ k → gc k = g k := (fun k hk => by show gc k = _; rw [cfr k (by simp only [List.mem_cons, List.not_mem_nil, or_false, not_or] <;> omega), bfr k (by simp only [List.mem_cons, List.not_mem_nil, or_false, not_or] <;> omega), afr k (by simp only [List.mem_cons, List.not_mem_nil, or_false, not_or] <;> omega)])
    have hlk : likeK (fun i => va_up x (p T) ((mkRow M lg j), fq, (x (p T)).2.2) (p i)) (va_up x (p T) ((mkRow M lg j), fq, (x (p T)).2.2) (p T)).1 T = likeK (fun i => x (p i)) (mkRow M lg j) T := by rw [va_up_s]; exact likeK_congr (fun i hi => by rw [va_up_n (fun e => by have := hinj i T (by omega) hTT e; omega)])
    refine lv_aload_n jx jb dX8_make_81 rfl (lv_at hl 1 rfl) ?_
    refine w_get X hW K8 (by omega) hf15 2 (by decide) fl_X8_26 rfl dX8_make_82 ?_
    refine lv_aload_n jx jb dX8_make_85 rfl (lv_at hl 0 rfl) ?_
    refine w_rV (As := [.ref (ad (12 + 4 * p T))]) X hW (c_hasLike cS hq12) (by omega) hf16 rfl rfl ml_X8_129 mf_X7_hasLike ⟨Nat.le_of_ble_eq_true rfl, Nat.le_of_ble_eq_true rfl⟩ hl.1 rfl (Nat.le_of_ble_eq_true rfl) ⟨Nat.le_of_ble_eq_true rfl, Nat.le_of_ble_eq_true rfl⟩ dX8_make_86 (fun H locs hW => ?_)
    refine top_eq (y := bI (likeK (fun i => x (p i)) (mkRow M lg j) T = true)) (congrArg (fun b : Bool => bI (b = true)) hlk) ?_
    refine lv_if_eq (tgt := 94) jx jb dX8_make_89 (by decide) (fun c89 => ?_) (fun c89 => ?_)
    · obtain ⟨-, -, -, -, ⟨zz1, zz2, zz3, zz4, cX60⟩, -⟩ := id cX
      refine lv_aload_n jx jb dX8_make_94 rfl (lv_at hl 1 rfl) ?_
      refine w_get X hW K8 (by omega) hf15 3 (by decide) fl_X8_35 rfl dX8_make_95 ?_
      refine lv_aload_n jx jb dX8_make_98 rfl (lv_at hl 0 rfl) ?_
      refine w_getN X hW K3 (by omega) hf20 0 (by decide) fn_X8_102 rfl dX8_make_99 ?_
      refine w_nVv (As := [.ref (ad (13 + 4 * p T))]) X hW (c_play cX.2.1 ⟨h83, cX60.2.1, cX60.2.2⟩ cR (fun i hi => ⟨ccr i hi, c96 _ (gl_mem hi)⟩) (by omega)) (by omega) hf19 rfl rfl ml_X8_115 mf_X4_play ⟨Nat.le_of_ble_eq_true rfl, Nat.le_of_ble_eq_true rfl⟩ hl.1 rfl (Nat.le_of_ble_eq_true rfl) ⟨Nat.le_of_ble_eq_true rfl, Nat.le_of_ble_eq_true rfl⟩ dX8_make_102 (fun gd H locs hp hW => ?_)
      obtain ⟨pd, dP, dres, dfr⟩ := hp
      have hf21 : gd 0 = .inr (8, [.ref (ad 1), .ref (ad 4), .ref (ad 9), .ref (ad 60), .ref (ad 62)]) := (dfr 0 (by simp only [List.mem_cons, List.not_mem_nil, or_false, not_or] <;> omega)).trans hf15
      have hf22 : gd 9 = .inr (7, [.ref (ad 10), .ref (ad 11), .int (nI T)]) := (dfr 9 (by simp only [List.mem_cons, List.not_mem_nil, or_false, not_or] <;> omega)).trans hf16
      have hf23 : gd 4 = .inr (1, [.ref (ad 5), .ref (ad 8), .int (nI st)]) := (dfr 4 (by simp only [List.mem_cons, List.not_mem_nil, or_false, not_or] <;> omega)).trans hf17
      have hf24 : gd 5 = .inr (5, [.ref (ad 6), .ref (ad 7), .int (nI lg.length)]) := (dfr 5 (by simp only [List.mem_cons, List.not_mem_nil, or_false, not_or] <;> omega)).trans hf18
      have hf25 : gd 62 = .inr (6, [.ref (ad 1), .int (tI (tkq M (gl (lg.take (j + 1))) 0 j)), .int (rsq M (gl (lg.take (j + 1))) 0 j)]) := (dfr 62 (by simp only [List.mem_cons, List.not_mem_nil, or_false, not_or] <;> omega)).trans c62
      have hf26 : gd (12 + 4 * p T) = .inr (3, [.ref (ad (13 + 4 * p T)), .int ((x (p T)).2.2.1), .int (bI ((x (p T)).2.2.2.1 = true)), .int (bI ((x (p T)).2.2.2.2 = true))]) := (dfr (12 + 4 * p T) (by simp only [List.mem_cons, List.not_mem_nil, or_false, not_or] <;> omega)).trans hf20
      have hf27 : gd (13 + 4 * p T) = .inr (5, [.ref (ad (14 + 4 * p T)), .ref (ad (15 + 4 * p T)), .int (nI (mkRow M lg j).length)]) := (dfr (13 + 4 * p T) (by simp only [List.mem_cons, List.not_mem_nil, or_false, not_or] <;> omega)).trans cR.2.2.2.2.2.2.2.1
      have dR := cR.fr (dfr (13 + 4 * p T) (by simp only [List.mem_cons, List.not_mem_nil, or_false, not_or] <;> omega)) (dfr (14 + 4 * p T) (by simp only [List.mem_cons, List.not_mem_nil, or_false, not_or] <;> omega)) (dfr (15 + 4 * p T) (by simp only [List.mem_cons, List.not_mem_nil, or_false, not_or] <;> omega))
      refine lv_aload_n jx jb dX8_make_105 rfl (lv_at hl 0 rfl) ?_
      refine lv_aload_n jx jb dX8_make_106 rfl (lv_at hl 1 rfl) ?_
      refine w_get X hW K8 (by omega) hf21 3 (by decide) fl_X8_35 rfl dX8_make_107 ?_
      refine w_nVv (As := [.ref (ad 60)]) X hW (c_settle dP dR (by omega) (by omega) hf26 (by omega)) (by omega) hf26 rfl rfl ml_X8_133 mf_X3_settle ⟨Nat.le_of_ble_eq_true rfl, Nat.le_of_ble_eq_true rfl⟩ hl.1 rfl (Nat.le_of_ble_eq_true rfl) ⟨Nat.le_of_ble_eq_true rfl, Nat.le_of_ble_eq_true rfl⟩ dX8_make_110 (fun ge H locs hp hW => ?_)
      obtain ⟨fe, e1, eR, eres, efr⟩ := hp
      have eX : XAt cy N ad ge M lg lr lt st T p (va_up x (p T) (nwT M (mkRow M lg j))) := by rw [← va_up_up (a := ((mkRow M lg j), fq, (x (p T)).2.2))]; exact XAt.putP cX (fun k k1 k2 k3 k4 k5 k6 => by show ge k = _; rw [efr k (by simp only [List.mem_cons, List.not_mem_nil, or_false, not_or]; omega), dfr k (by simp only [List.mem_cons, List.not_mem_nil, or_false, not_or]; omega)]) ⟨fs, fe, e1, eR, ccr, c96, fun i hi => by rw [eres i hi, dres i hi]; rfl⟩ ⟨_, pd, _, _, dP.1, dP.2.1, (efr 60 (by simp only [List.mem_cons, List.not_mem_nil, or_false, not_or] <;> omega)).trans dP.2.2.1, (efr 61 (by simp only [List.mem_cons, List.not_mem_nil, or_false, not_or] <;> omega)).trans dP.2.2.2⟩ hq12
      obtain ⟨e0, -, -, eS_, -, -⟩ := id eX
      obtain ⟨-, -, -, -, ⟨-, -, e9, -, -, -⟩, -⟩ := id eS_
      have efr63 : ∀ k, 63 ≤ k → ge k = g k := fun k hk => by show ge k = _; rw [efr k (by simp only [List.mem_cons, List.not_mem_nil, or_false, not_or]; omega), dfr k (by simp only [List.mem_cons, List.not_mem_nil, or_false, not_or]; omega), cfr63 k hk]
      refine lv_aload_n jx jb dX8_make_113 rfl (lv_at hl 1 rfl) ?_
      refine w_get X hW K8 (by omega) e0 2 (by decide) fl_X8_26 rfl dX8_make_114 ?_
      refine w_nV (As := []) X hW (c_keepSpare eS_ hTT) (by omega) e9 rfl rfl ml_X8_137 mf_X7_keepSpare ⟨Nat.le_of_ble_eq_true rfl, Nat.le_of_ble_eq_true rfl⟩ hl.1 rfl (Nat.le_of_ble_eq_true rfl) ⟨Nat.le_of_ble_eq_true rfl, Nat.le_of_ble_eq_true rfl⟩ dX8_make_117 (fun r1 gf H locs hp hW => ?_)
      obtain ⟨er, fS, ffr⟩ := hp
      exact ret _ _ _ _ _ _ dX8_make_120 hW (by rw [if_neg (bI_0.mp c89)]; exact ⟨er, eX.keep ffr fS, fun k hk => by show gf k = _; rw [ffr k (by omega), efr63 k hk]⟩)
    · refine lv_iconst (v := -1) jx jb dX8_make_92 (by decide) ?_
      exact ret _ _ _ _ _ _ dX8_make_93 hW (by rw [if_pos (bI_n0.mp c89)]; exact ⟨rfl, _, cX, cfr63⟩)
  · exact absurd (c23.symm.trans (bel_t hj (by omega))) (by decide)
end
section
/-! worlds that grow -/
theorem MachAt.grow {cy : Nat → ClassId} {N N' : Nat} {ad ad' : Nat → Nat} {g g' : Nat → va_E} {M : M4} (h : MachAt cy N ad g M) (hN : N ≤ N') (ha : ∀ k, k < N → ad' k = ad k) (hg : ∀ k, k < N → g' k = g k) : MachAt cy N' ad' g' M := by
  obtain ⟨a, b, bc, fs, e1, ⟨fb, e2, e2b⟩, e3, e4, e5, e6⟩ := h
  refine ⟨a, by omega, bc, fs, ?_, ⟨fb, (hg 2 (by omega)).trans e2, fun b hb => ?_⟩, (hg 3 (by omega)).trans e3, e4, fun b hb hq => ?_, e6⟩
  · rw [hg 1 (by omega), e1, ha 2 (by omega), ha 3 (by omega)]
  · rw [e2b b hb]
    by_cases hq : b % 4 < M.1 (b / 4)
    · obtain ⟨n, n1, -, n3, -⟩ := e5 b hb hq
      rw [n1]
      show some (ad n) = some (ad' n)
      rw [ha n n3]
    · rw [e6 b hb hq]
      rfl
  · obtain ⟨n, n1, n2, n3, n4⟩ := e5 b hb hq
    exact ⟨n, n1, n2, by omega, (hg n n3).trans n4⟩
theorem RowAt.grow {cy : Nat → ClassId} {N N' : Nat} {ad ad' : Nat → Nat} {g g' : Nat → va_E} {n c r sz : Nat} {fc fr : Nat → Int32} (h : RowAt cy N ad g n c r sz fc fr) (hN : N ≤ N') (ha : ∀ k, k < N → ad' k = ad k) (hg : ∀ k, k < N → g' k = g k) : RowAt cy N' ad' g' n c r sz fc fr := by
  obtain ⟨a1, a2, a3, a4, a5, a6, a7, a8, a9, a10⟩ := h
  exact ⟨by omega, by omega, by omega, a4, a5, a6, a7, by rw [hg n a1, a8, ha c a2, ha r a3], (hg c a2).trans a9, (hg r a3).trans a10⟩
theorem LogAt.grow {cy : Nat → ClassId} {N N' : Nat} {ad ad' : Nat → Nat} {g g' : Nat → va_E} {sz : Nat} {fc fr ft : Nat → Int32} {st : Nat} (h : LogAt cy N ad g sz fc fr ft st) (hN : N ≤ N') (ha : ∀ k, k < N → ad' k = ad k) (hg : ∀ k, k < N → g' k = g k) : LogAt cy N' ad' g' sz fc fr ft st := by
  obtain ⟨a, b, b2, c, d⟩ := h
  exact ⟨by omega, b.grow hN ha hg, b2, by rw [hg 4 (by omega), c, ha 5 (by omega), ha 8 (by omega)], (hg 8 (by omega)).trans d⟩
theorem TstAt.grow {cy : Nat → ClassId} {N N' : Nat} {ad ad' : Nat → Nat} {g g' : Nat → va_E} {q : Nat} {t : TT} (h : TstAt cy N ad g q t) (hN : N ≤ N') (ha : ∀ k, k < N → ad' k = ad k) (hg : ∀ k, k < N → g' k = g k) : TstAt cy N' ad' g' q t := by
  obtain ⟨fc, fr, a, b, c, d, e⟩ := h
  have h1 : 13 + 4 * q < N := b.1
  exact ⟨fc, fr, by rw [hg _ (by omega), a, ha _ (by omega)], b.grow hN ha hg, c, d, e⟩
theorem SuAt.grow {cy : Nat → ClassId} {N N' : Nat} {ad ad' : Nat → Nat} {g g' : Nat → va_E} {T : Nat} {p : Nat → Nat} {x : Nat → TT} (h : SuAt cy N ad g T p x) (hN : N ≤ N') (ha : ∀ k, k < N → ad' k = ad k) (hg : ∀ k, k < N → g' k = g k) : SuAt cy N' ad' g' T p x := by
  obtain ⟨a, b, c, d, ⟨ft, fm, e1, e2, e3, e4⟩, f⟩ := h
  exact ⟨by omega, b, c, d, ⟨ft, fm, by rw [hg 9 (by omega), e1, ha 10 (by omega), ha 11 (by omega)], (hg 10 (by omega)).trans e2, (hg 11 (by omega)).trans e3, fun i hi => by rw [e4 i hi, ha _ (by have := c i hi; omega)]⟩, fun q hq => (f q hq).grow hN ha hg⟩
theorem XAt.grow {cy : Nat → ClassId} {N N' : Nat} {ad ad' : Nat → Nat} {g g' : Nat → va_E} {M : M4} {lg : List Nat} {lr lt : Nat → Int32} {st T : Nat} {p : Nat → Nat} {x : Nat → TT} (h : XAt cy N ad g M lg lr lt st T p x) (hN : N ≤ N') (ha : ∀ k, k < N → ad' k = ad k) (hg : ∀ k, k < N → g' k = g k) : XAt cy N' ad' g' M lg lr lt st T p x := by
  obtain ⟨a, b, ⟨fc, c1, c2, c3⟩, d, ⟨e1, e2, e3, e4, e5⟩, ⟨f1, f2, f3⟩⟩ := h
  have h83 := b.2.1
  exact ⟨by rw [hg 0 (by omega), a, ha 1 (by omega), ha 4 (by omega), ha 9 (by omega), ha 60 (by omega), ha 62 (by omega)], b.grow hN ha hg, ⟨fc, c1.grow hN ha hg, c2, c3⟩, d.grow hN ha hg, ⟨e1, e2, e3, e4, by omega, e5.2.1, by rw [hg 60 (by omega), e5.2.2.1, ha 1 (by omega), ha 61 (by omega)], (hg 61 (by omega)).trans e5.2.2.2⟩, ⟨f1, f2, by rw [hg 62 (by omega), f3, ha 1 (by omega)]⟩⟩
def addM (M : M4) (k w t r : Nat) : M4 := (va_up M.1 k (M.1 k + 1), va_up M.2.1 (4 * k + M.1 k) w, va_up M.2.2.1 (4 * k + M.1 k) t, va_up M.2.2.2 (4 * k + M.1 k) r)
def setM (M : M4) (b w t r : Nat) : M4 := (M.1, va_up M.2.1 b w, va_up M.2.2.1 b t, va_up M.2.2.2 b r)
theorem add_lt {M : M4} {k b : Nat} (hb : b ≠ 4 * k + M.1 k) : b % 4 < va_up M.1 k (M.1 k + 1) (b / 4) ↔ b % 4 < M.1 (b / 4) := by
  by_cases h : b / 4 = k
  · rw [h, va_up_s]
    omega
  · rw [va_up_n h]
theorem okM_add {M : M4} (hok : okM M) {k w t r : Nat} (hk : k < 6) (hm : M.1 k < 4) (hw : okW w) (ht : okT t) (hr : r < 4) : okM (addM M k w t r) := by
  refine ⟨fun j hj => ?_, fun b hb hq => ?_⟩
  · show va_up M.1 k (M.1 k + 1) j ≤ 4
    by_cases e : j = k
    · rw [e, va_up_s]; omega
    · rw [va_up_n e]; exact hok.1 j hj
  · show okW (va_up M.2.1 (4 * k + M.1 k) w b) ∧ okT (va_up M.2.2.1 (4 * k + M.1 k) t b) ∧ va_up M.2.2.2 (4 * k + M.1 k) r b < 4
    by_cases e : b = 4 * k + M.1 k
    · rw [e, va_up_s, va_up_s, va_up_s]
      exact ⟨hw, ht, hr⟩
    · rw [va_up_n e, va_up_n e, va_up_n e]
      exact hok.2 b hb ((add_lt e).mp hq)
theorem okM_set {M : M4} (hok : okM M) {b w t r : Nat} (hw : okW w) (ht : okT t) (hr : r < 4) : okM (setM M b w t r) := by
  refine ⟨hok.1, fun j hj hq => ?_⟩
  show okW (va_up M.2.1 b w j) ∧ okT (va_up M.2.2.1 b t j) ∧ va_up M.2.2.2 b r j < 4
  by_cases e : j = b
  · rw [e, va_up_s, va_up_s, va_up_s]
    exact ⟨hw, ht, hr⟩
  · rw [va_up_n e, va_up_n e, va_up_n e]
    exact hok.2 j hj hq
section MA
variable {cy : Nat → ClassId} {N : Nat} {ad : Nat → Nat} {g g' : Nat → va_E} {M : M4} {bc fB : Nat → Option Nat} {fs : Nat → Int32} {n w t r : Nat}
theorem mach_add {k : Nat} (hok : okM M) (h83 : 83 ≤ N) (f1 : g 1 = .inr (2, [.ref (ad 2), .ref (ad 3)])) (hfb : ∀ b, b < 24 → fB b = (bc b).map ad) (f4 : ∀ k, k < 6 → fs k = nI (M.1 k)) (f5 : ∀ b, b < 24 → b % 4 < M.1 (b / 4) → ∃ n, bc b = some n ∧ 83 ≤ n ∧ n < N ∧ g n = .inr (0, brf (M.2.1 b) (M.2.2.1 b) (M.2.2.2 b))) (f6 : ∀ b, b < 24 → ¬ b % 4 < M.1 (b / 4) → bc b = none)
    (hk : k < 6) (hm : M.1 k < 4) (hw : okW w) (ht : okT t) (hr : r < 4) (hn : n < N) (hn83 : 83 ≤ n) (hgn : g n = .inr (0, brf w t r)) (e2 : g' 2 = .inl (cy 2, 24, .inr (.inr (.inr (.inr (va_up fB (4 * k + M.1 k) (some (ad n)))))))) (e3 : g' 3 = .inl (cy 0, 6, .inl (upd fs k (fs k + 1)))) (hfr : ∀ j, j ≠ 2 → j ≠ 3 → g' j = g j) : MachAt cy N ad g' (addM M k w t r) := by
  refine ⟨okM_add hok hk hm hw ht hr, h83, va_up bc (4 * k + M.1 k) (some n), _, (hfr 1 (by omega) (by omega)).trans f1, ⟨_, e2, fun b hb => ?_⟩, e3, fun j hj => ?_, fun b hb hq => ?_, fun b hb hq => ?_⟩
  · by_cases e : b = 4 * k + M.1 k
    · rw [e, va_up_s, va_up_s]; rfl
    · rw [va_up_n e, va_up_n e]; exact hfb b hb
  · show upd fs k (fs k + 1) j = nI (va_up M.1 k (M.1 k + 1) j)
    by_cases e : j = k
    · rw [e, pk_us, va_up_s, f4 k hk]; exact nI_1 _
    · rw [pk_un e, va_up_n e]; exact f4 j hj
  · show ∃ m, va_up bc (4 * k + M.1 k) (some n) b = some m ∧ 83 ≤ m ∧ m < N ∧ g' m = .inr (0, brf (va_up M.2.1 (4 * k + M.1 k) w b) (va_up M.2.2.1 (4 * k + M.1 k) t b) (va_up M.2.2.2 (4 * k + M.1 k) r b))
    by_cases e : b = 4 * k + M.1 k
    · rw [e, va_up_s, va_up_s, va_up_s, va_up_s]
      exact ⟨n, rfl, hn83, hn, (hfr n (by omega) (by omega)).trans hgn⟩
    · rw [va_up_n e, va_up_n e, va_up_n e, va_up_n e]
      obtain ⟨m, m1, m2, m3, m4⟩ := f5 b hb ((add_lt e).mp hq)
      exact ⟨m, m1, m2, m3, (hfr m (by omega) (by omega)).trans m4⟩
  · by_cases e : b = 4 * k + M.1 k
    · exfalso
      apply hq
      show b % 4 < va_up M.1 k (M.1 k + 1) (b / 4)
      rw [show b / 4 = k by omega, va_up_s]
      omega
    · rw [va_up_n e]
      exact f6 b hb (fun z => hq ((add_lt e).mpr z))
theorem mach_set {b0 : Nat} (hok : okM M) (h83 : 83 ≤ N) (f1 : g 1 = .inr (2, [.ref (ad 2), .ref (ad 3)])) (f3 : g 3 = .inl (cy 0, 6, .inl fs)) (hfb : ∀ b, b < 24 → fB b = (bc b).map ad) (f4 : ∀ k, k < 6 → fs k = nI (M.1 k)) (f5 : ∀ b, b < 24 → b % 4 < M.1 (b / 4) → ∃ n, bc b = some n ∧ 83 ≤ n ∧ n < N ∧ g n = .inr (0, brf (M.2.1 b) (M.2.2.1 b) (M.2.2.2 b))) (f6 : ∀ b, b < 24 → ¬ b % 4 < M.1 (b / 4) → bc b = none)
    (hb0 : b0 < 24) (hm : b0 % 4 < M.1 (b0 / 4)) (hw : okW w) (ht : okT t) (hr : r < 4) (hn : n < N) (hn83 : 83 ≤ n) (hgn : g n = .inr (0, brf w t r)) (e2 : g' 2 = .inl (cy 2, 24, .inr (.inr (.inr (.inr (va_up fB b0 (some (ad n)))))))) (hfr : ∀ j, j ≠ 2 → g' j = g j) : MachAt cy N ad g' (setM M b0 w t r) := by
  refine ⟨okM_set hok hw ht hr, h83, va_up bc b0 (some n), fs, (hfr 1 (by omega)).trans f1, ⟨_, e2, fun b hb => ?_⟩, (hfr 3 (by omega)).trans f3, f4, fun b hb hq => ?_, fun b hb hq => ?_⟩
  · by_cases e : b = b0
    · rw [e, va_up_s, va_up_s]; rfl
    · rw [va_up_n e, va_up_n e]; exact hfb b hb
  · show ∃ m, va_up bc b0 (some n) b = some m ∧ 83 ≤ m ∧ m < N ∧ g' m = .inr (0, brf (va_up M.2.1 b0 w b) (va_up M.2.2.1 b0 t b) (va_up M.2.2.2 b0 r b))
    by_cases e : b = b0
    · rw [e, va_up_s, va_up_s, va_up_s, va_up_s]
      exact ⟨n, rfl, hn83, hn, (hfr n (by omega)).trans hgn⟩
    · rw [va_up_n e, va_up_n e, va_up_n e, va_up_n e]
      obtain ⟨m, m1, m2, m3, m4⟩ := f5 b hb hq
      exact ⟨m, m1, m2, m3, (hfr m (by omega)).trans m4⟩
  · have e : b ≠ b0 := fun z => hq (by rw [z]; exact hm)
    rw [va_up_n e]
    exact f6 b hb hq
end MA
section WI
variable {p : Program} {l : Launch} {e : Env} {R : Room} {s : State} {m : MethodId} {args : Array Value} {below : List Frame} {meth : Method} {c : Code} {H : Heap} {locs : List Loc} {cells slots : Nat} {Q : State → Prop}
variable {cc : ByteArray} {pc : Nat} {ls : Array Slot} {rest st0 : List Value} {G : va_G} {cy : Nat → ClassId} {A : Nat → Prop} {H0 : Heap} {nL : Nat} {own : String}
variable {y : MethodName} {cc' : ByteArray} {nL' idx : Nat} {rm : Room} {As : List Value} {N b : Nat} {ad : Nat → Nat} {g : Nat → va_E}
theorem w_nIv (X : Cx G cy p s m args c cc nL own A H0) (hW : Wd G A H0 (N, ad, g) H locs) {P : (Nat → va_E) → Prop} (hM : MV l G cy (N, ad, g) y cc' nL' none rm (.ref b :: As) (nV N ad P)) (hl : Cond.methodLink own idx y ∈ tg) (hm : MthI y cc' nL' As.length)
    (hR : rm.frames + 1 ≤ R.frames ∧ 8 + (nL' + 11) + rm.locals ≤ R.locals) (hls : ls.size = nL) (hst : st0 = As.reverse ++ .ref b :: rest) (hcat : (rest.map fun v => v.category).sum ≤ 8) (hf : cells + rm.cells ≤ R.cells ∧ slots + rm.slots ≤ R.slots) (hdg : decode cc pc = .ok (.invokespecial idx, 3))
    (kk : ∀ (g1 : Nat → va_E) (H1 : Heap) (locs1 : List Loc), P g1 → Wd G A H0 (N, ad, g1) H1 locs1 → W p l e R s m args below meth c H1 locs1 (cells + rm.cells) (slots + rm.slots) Q (F0 m (pc + 3) ls rest)) : W p l e R s m args below meth c H locs cells slots Q (F0 m pc ls st0) :=
  w_cIv (w := (N, ad, g)) X hW hM hl hm hR hls hst hcat hdg hf (fun u H1 locs1 hp hW1 => by obtain ⟨N1, ad1, g1⟩ := u; obtain ⟨h1, h2, h3⟩ := hp; dsimp only at h1 h2 h3; rw [h1, h2] at hW1; exact kk g1 H1 locs1 h3 hW1)
end WI

theorem XAt.mach {cy : Nat → ClassId} {N : Nat} {ad : Nat → Nat} {g g' : Nat → va_E} {M M' : M4} {lg : List Nat} {lr lt : Nat → Int32} {st T : Nat} {p : Nat → Nat} {x : Nat → TT} (h : XAt cy N ad g M lg lr lt st T p x) (h1 : ∀ k, k ≠ 2 → k ≠ 3 → g' k = g k) (hM : MachAt cy N ad g' M') : XAt cy N ad g' M' lg lr lt st T p x := by
  obtain ⟨a, b, ⟨fc, c1, c2, c3⟩, d, ⟨e1, e2, e3, e4, e5⟩, ⟨f1, f2, f3⟩⟩ := h
  exact ⟨(h1 0 (by omega) (by omega)).trans a, hM, ⟨fc, c1.fr (fun k _ _ => h1 k (by omega) (by omega)), c2, c3⟩, d.fr (fun k _ _ => h1 k (by omega) (by omega)), ⟨e1, e2, e3, e4, e5.1, e5.2.1, (h1 60 (by omega) (by omega)).trans e5.2.2.1, (h1 61 (by omega) (by omega)).trans e5.2.2.2⟩, ⟨f1, f2, (h1 62 (by omega) (by omega)).trans f3⟩⟩

set_option maxHeartbeats 4000000 in
set_option maxRecDepth 100000 in
theorem c_branchNo {l : Launch} {G : va_G} {cy : Nat → ClassId} {N : Nat} {ad : Nat → Nat} {g : Nat → va_E} {M : M4} {lg : List Nat} {lr lt : Nat → Int32} {st T : Nat} {p : Nat → Nat} {x : Nat → TT} {k a b r : Int32} (hX : XAt cy N ad g M lg lr lt st T p x) (hno : ¬ (hasR M k ∧ okWi a ∧ okTi b ∧ 0 ≤ r ∧ r < 4)) : RI l G cy (N, ad, g) yX8_branch cX8_branch 5 (some .int) (rmN 3) [.ref (ad 0), .int k, .int a, .int b, .int r] (-1) := by
  refine RI.mk (by decide) (by first | rfl | exact bI_nar) (Nat.le_of_ble_eq_true rfl) ?_
  intro jp je js jm below meth jc A Q X hW ret ls hl
  have jx := X.hx
  have jb := X.hb
  have hl : lv_has ls 5 [(0, .ref (ad 0)), (1, .int k), (2, .int a), (3, .int b), (4, .int r)] := hl
  have X : Cx G cy jp js jm _ jc cX8_branch 5 RX8 A js.heap := X
  obtain ⟨f0, hM, ⟨fc, hL, hlc, hl96⟩, hS, ⟨psz, pf, mt, ltt, hP⟩, ⟨w0, w1, f62⟩⟩ := id hX
  obtain ⟨hok, h83, bc_, fs_, f1, -⟩ := id hM
  obtain ⟨-, hRL, hst, f4, f8⟩ := id hL
  have f5 := hRL.2.2.2.2.2.2.2.1
  have hlen := hRL.2.2.2.2.2.2.1
  obtain ⟨-, hT, hp12, hinj, ⟨ft, fm, f9, f10, f11, hft⟩, hx⟩ := id hS
  obtain ⟨-, hpsz, f60, f61⟩ := id hP
  refine lv_aload_n jx jb dX8_branch_0 rfl (lv_at hl 0 rfl) ?_
  refine w_get X hW K8 (by omega) f0 0 (by decide) fl_X8_12 rfl dX8_branch_1 ?_
  refine lv_iload_n jx jb dX8_branch_4 rfl (lv_at hl 1 rfl) ?_
  refine w_rV (As := [.int k]) X hW (c_hasRoom hM) (by omega) f1 rfl rfl ml_X8_46 mf_X2_hasRoom ⟨Nat.le_of_ble_eq_true rfl, Nat.le_of_ble_eq_true rfl⟩ hl.1 rfl (Nat.le_of_ble_eq_true rfl) ⟨Nat.le_of_ble_eq_true rfl, Nat.le_of_ble_eq_true rfl⟩ dX8_branch_5 (fun H locs hW => ?_)
  refine lv_if_eq (tgt := 21) jx jb dX8_branch_8 (by decide) (fun c8 => ?_) (fun c8 => ?_)
  · refine lv_iconst (v := -1) jx jb dX8_branch_21 (by decide) ?_
    exact ret _ _ _ _ _ dX8_branch_22 hW rfl
  · refine lv_iload_n jx jb dX8_branch_11 rfl (lv_at hl 2 rfl) ?_
    refine lv_iload_n jx jb dX8_branch_12 rfl (lv_at hl 3 rfl) ?_
    refine lv_iload jx jb dX8_branch_13 (lv_at hl 4 rfl) ?_
    refine w_rS (As := [.int a, .int b, .int r]) X hW (c_canBe) ml_X8_50 mf_X0_canBe ⟨Nat.le_of_ble_eq_true rfl, Nat.le_of_ble_eq_true rfl⟩ hl.1 rfl (Nat.le_of_ble_eq_true rfl) ⟨Nat.le_of_ble_eq_true rfl, Nat.le_of_ble_eq_true rfl⟩ dX8_branch_15 (fun H locs hW => ?_)
    refine lv_if_ne (tgt := 23) jx jb dX8_branch_18 (by decide) (fun c18 => ?_) (fun c18 => ?_)
    · exact absurd ⟨bI_n0.mp c8, bI_n0.mp c18⟩ hno
    · refine lv_iconst (v := -1) jx jb dX8_branch_21 (by decide) ?_
      exact ret _ _ _ _ _ dX8_branch_22 hW rfl

set_option maxHeartbeats 4000000 in
set_option maxRecDepth 100000 in
theorem c_changeNo {l : Launch} {G : va_G} {cy : Nat → ClassId} {N : Nat} {ad : Nat → Nat} {g : Nat → va_E} {M : M4} {lg : List Nat} {lr lt : Nat → Int32} {st T : Nat} {p : Nat → Nat} {x : Nat → TT} {k a b r : Int32} (hX : XAt cy N ad g M lg lr lt st T p x) (hno : ¬ (isB M k ∧ okWi a ∧ okTi b ∧ 0 ≤ r ∧ r < 4)) : RI l G cy (N, ad, g) yX8_change cX8_change 5 (some .boolean) (rmN 3) [.ref (ad 0), .int k, .int a, .int b, .int r] 0 := by
  refine RI.mk (by decide) (by first | rfl | exact bI_nar) (Nat.le_of_ble_eq_true rfl) ?_
  intro jp je js jm below meth jc A Q X hW ret ls hl
  have jx := X.hx
  have jb := X.hb
  have hl : lv_has ls 5 [(0, .ref (ad 0)), (1, .int k), (2, .int a), (3, .int b), (4, .int r)] := hl
  have X : Cx G cy jp js jm _ jc cX8_change 5 RX8 A js.heap := X
  obtain ⟨f0, hM, ⟨fc, hL, hlc, hl96⟩, hS, ⟨psz, pf, mt, ltt, hP⟩, ⟨w0, w1, f62⟩⟩ := id hX
  obtain ⟨hok, h83, bc_, fs_, f1, -⟩ := id hM
  obtain ⟨-, hRL, hst, f4, f8⟩ := id hL
  have f5 := hRL.2.2.2.2.2.2.2.1
  have hlen := hRL.2.2.2.2.2.2.1
  obtain ⟨-, hT, hp12, hinj, ⟨ft, fm, f9, f10, f11, hft⟩, hx⟩ := id hS
  obtain ⟨-, hpsz, f60, f61⟩ := id hP
  refine lv_aload_n jx jb dX8_change_0 rfl (lv_at hl 0 rfl) ?_
  refine w_get X hW K8 (by omega) f0 0 (by decide) fl_X8_12 rfl dX8_change_1 ?_
  refine lv_iload_n jx jb dX8_change_4 rfl (lv_at hl 1 rfl) ?_
  refine w_rV (As := [.int k]) X hW (c_has hM) (by omega) f1 rfl rfl ml_X8_67 mf_X2_has ⟨Nat.le_of_ble_eq_true rfl, Nat.le_of_ble_eq_true rfl⟩ hl.1 rfl (Nat.le_of_ble_eq_true rfl) ⟨Nat.le_of_ble_eq_true rfl, Nat.le_of_ble_eq_true rfl⟩ dX8_change_5 (fun H locs hW => ?_)
  refine lv_if_eq (tgt := 21) jx jb dX8_change_8 (by decide) (fun c8 => ?_) (fun c8 => ?_)
  · refine lv_iconst (v := 0) jx jb dX8_change_21 (by decide) ?_
    exact ret _ _ _ _ _ dX8_change_22 hW rfl
  · refine lv_iload_n jx jb dX8_change_11 rfl (lv_at hl 2 rfl) ?_
    refine lv_iload_n jx jb dX8_change_12 rfl (lv_at hl 3 rfl) ?_
    refine lv_iload jx jb dX8_change_13 (lv_at hl 4 rfl) ?_
    refine w_rS (As := [.int a, .int b, .int r]) X hW (c_canBe) ml_X8_50 mf_X0_canBe ⟨Nat.le_of_ble_eq_true rfl, Nat.le_of_ble_eq_true rfl⟩ hl.1 rfl (Nat.le_of_ble_eq_true rfl) ⟨Nat.le_of_ble_eq_true rfl, Nat.le_of_ble_eq_true rfl⟩ dX8_change_15 (fun H locs hW => ?_)
    refine lv_if_ne (tgt := 23) jx jb dX8_change_18 (by decide) (fun c18 => ?_) (fun c18 => ?_)
    · exact absurd ⟨bI_n0.mp c8, bI_n0.mp c18⟩ hno
    · refine lv_iconst (v := 0) jx jb dX8_change_21 (by decide) ?_
      exact ret _ _ _ _ _ dX8_change_22 hW rfl

set_option maxHeartbeats 4000000 in
set_option maxRecDepth 100000 in
theorem c_branch {l : Launch} {G : va_G} {cy : Nat → ClassId} {N : Nat} {ad : Nat → Nat} {g : Nat → va_E} {M : M4} {lg : List Nat} {lr lt : Nat → Int32} {st T : Nat} {p : Nat → Nat} {x : Nat → TT} {k w t r : Nat} (hX : XAt cy N ad g M lg lr lt st T p x) (hk : k < 6) (hm : M.1 k < 4) (hw : okW w) (ht : okT t) (hr : r < 4) : MI l G cy (N, ad, g) yX8_branch cX8_branch 5 (some .int) (rmA 3 1 8) [.ref (ad 0), .int (nI k), .int (nI w), .int (nI t), .int (nI r)] (fun v u => ∃ ad1 g1, u = (N + 1, ad1, g1) ∧ v = nI (M.1 k + 1) ∧ XAt cy (N + 1) ad1 g1 (addM M k w t r) lg lr lt st T p (mapT p (tK k) x T) ∧ (∀ j, j < N → ad1 j = ad j) ∧ ∀ j, 63 ≤ j → j < N → g1 j = g j) := by
  refine MI.mk (by decide) (by intro v u h; rfl) (Nat.le_of_ble_eq_true rfl) ?_
  intro jp je js jm below meth jc A Q X hW ret ls hl
  have jx := X.hx
  have jb := X.hb
  have hl : lv_has ls 5 [(0, .ref (ad 0)), (1, .int (nI k)), (2, .int (nI w)), (3, .int (nI t)), (4, .int (nI r))] := hl
  have X : Cx G cy jp js jm _ jc cX8_branch 5 RX8 A js.heap := X
  obtain ⟨f0, hM, ⟨fc, hL, hlc, hl96⟩, hS, ⟨psz, pf, mt, ltt, hP⟩, ⟨w0, w1, f62⟩⟩ := id hX
  obtain ⟨hok, h83, bc_, fs_, f1, -⟩ := id hM
  obtain ⟨-, hRL, hst, f4, f8⟩ := id hL
  have f5 := hRL.2.2.2.2.2.2.2.1
  have hlen := hRL.2.2.2.2.2.2.1
  obtain ⟨-, hT, hp12, hinj, ⟨ft, fm, f9, f10, f11, hft⟩, hx⟩ := id hS
  obtain ⟨-, hpsz, f60, f61⟩ := id hP
  refine lv_aload_n jx jb dX8_branch_0 rfl (lv_at hl 0 rfl) ?_
  refine w_get X hW K8 (by omega) f0 0 (by decide) fl_X8_12 rfl dX8_branch_1 ?_
  refine lv_iload_n jx jb dX8_branch_4 rfl (lv_at hl 1 rfl) ?_
  refine w_rV (As := [.int (nI k)]) X hW (c_hasRoom hM) (by omega) f1 rfl rfl ml_X8_46 mf_X2_hasRoom ⟨Nat.le_of_ble_eq_true rfl, Nat.le_of_ble_eq_true rfl⟩ hl.1 rfl (Nat.le_of_ble_eq_true rfl) ⟨Nat.le_of_ble_eq_true rfl, Nat.le_of_ble_eq_true rfl⟩ dX8_branch_5 (fun H locs hW => ?_)
  refine lv_if_eq (tgt := 21) jx jb dX8_branch_8 (by decide) (fun c8 => ?_) (fun c8 => ?_)
  · exact absurd c8 (bI_n0.mpr ((hasR_nI hk).mpr hm))
  · refine lv_iload_n jx jb dX8_branch_11 rfl (lv_at hl 2 rfl) ?_
    refine lv_iload_n jx jb dX8_branch_12 rfl (lv_at hl 3 rfl) ?_
    refine lv_iload jx jb dX8_branch_13 (lv_at hl 4 rfl) ?_
    refine w_rS (As := [.int (nI w), .int (nI t), .int (nI r)]) X hW (c_canBe) ml_X8_50 mf_X0_canBe ⟨Nat.le_of_ble_eq_true rfl, Nat.le_of_ble_eq_true rfl⟩ hl.1 rfl (Nat.le_of_ble_eq_true rfl) ⟨Nat.le_of_ble_eq_true rfl, Nat.le_of_ble_eq_true rfl⟩ dX8_branch_15 (fun H locs hW => ?_)
    refine lv_if_ne (tgt := 23) jx jb dX8_branch_18 (by decide) (fun c18 => ?_) (fun c18 => ?_)
    · refine lv_aload_n jx jb dX8_branch_23 rfl (lv_at hl 0 rfl) ?_
      refine w_get X hW K8 (by omega) f0 2 (by decide) fl_X8_26 rfl dX8_branch_24 ?_
      refine lv_iload_n jx jb dX8_branch_27 rfl (lv_at hl 1 rfl) ?_
      refine w_nVv (As := [.int (nI k)]) X hW (c_touchCallersOf hS hk) (by omega) f9 rfl rfl ml_X8_56 mf_X7_touchCallersOf ⟨Nat.le_of_ble_eq_true rfl, Nat.le_of_ble_eq_true rfl⟩ hl.1 rfl (Nat.le_of_ble_eq_true rfl) ⟨Nat.le_of_ble_eq_true rfl, Nat.le_of_ble_eq_true rfl⟩ dX8_branch_28 (fun ga H locs hp hW => ?_)
      obtain ⟨hSa, afr⟩ := hp
      have hf1 : ga 0 = .inr (8, [.ref (ad 1), .ref (ad 4), .ref (ad 9), .ref (ad 60), .ref (ad 62)]) := (afr 0 (by omega)).trans f0
      have hf2 : ga 1 = .inr (2, [.ref (ad 2), .ref (ad 3)]) := (afr 1 (by omega)).trans f1
      have hXa : XAt cy N ad ga M lg lr lt st T p (mapT p (tK k) x T) := ⟨hf1, hM.fr (fun k hk => by show ga k = _; rw [afr k (by omega)]), ⟨fc, hL.fr (fun k hk1 hk2 => by show ga k = _; rw [afr k (by omega)]), hlc, hl96⟩, hSa, ⟨psz, pf, mt, ltt, h83, hpsz, (show ga 60 = g 60 from by rw [afr _ (by omega)]).trans f60, (show ga 61 = g 61 from by rw [afr _ (by omega)]).trans f61⟩, ⟨w0, w1, (show ga 62 = g 62 from by rw [afr _ (by omega)]).trans f62⟩⟩
      refine lv_aload_n jx jb dX8_branch_31 rfl (lv_at hl 0 rfl) ?_
      refine w_get X hW K8 (by omega) hf1 0 (by decide) fl_X8_12 rfl dX8_branch_32 ?_
      refine lv_iload_n jx jb dX8_branch_35 rfl (lv_at hl 1 rfl) ?_
      refine w_new X hW K0 cl_X8_51 inst_X0 ini_X0 (fs := [.int 0, .int 0, .int 0, .int 0, .int 0, .int 0, .int 0, .int 0]) (fun j hj => by rcases (show j = 0 ∨ j = 1 ∨ j = 2 ∨ j = 3 ∨ j = 4 ∨ j = 5 ∨ j = 6 ∨ j = 7 by omega) with rfl | rfl | rfl | rfl | rfl | rfl | rfl | rfl <;> rfl) (Nat.le_of_ble_eq_true rfl) (Nat.le_of_ble_eq_true rfl) dX8_branch_36 (fun qa H hW => ?_)
      obtain ⟨ad1, ead⟩ : ∃ zz, zz = va_up ad N qa := ⟨_, rfl⟩
      obtain ⟨gb, egb⟩ : ∃ zz, zz = va_up ga N (.inr (0, [.int 0, .int 0, .int 0, .int 0, .int 0, .int 0, .int 0, .int 0])) := ⟨_, rfl⟩
      have hW : Wd G A js.heap (N + 1, ad1, gb) H locs := by rw [ead, egb]; exact hW
      have hq : ad1 N = qa := by rw [ead]; exact va_up_s
      have ha1 : ∀ k, k < N → ad1 k = ad k := fun k hk => by rw [ead]; exact va_up_n (by omega)
      refine W.eq (g2 := F0 jm 39 ls [.ref (ad1 N), .int (nI k), .ref (ad1 1)]) (by rw [hq, ha1 1 (by omega)]) ?_
      refine lv_dup jx jb dX8_branch_39 rfl ?_
      refine lv_iload_n jx jb dX8_branch_40 rfl (lv_at hl 2 rfl) ?_
      refine lv_iload_n jx jb dX8_branch_41 rfl (lv_at hl 3 rfl) ?_
      refine lv_iload jx jb dX8_branch_42 (lv_at hl 4 rfl) ?_
      refine w_nIv (As := [.int (nI w), .int (nI t), .int (nI r)]) X hW (c_Branch_init (n := N) (by omega) (by rw [egb]; exact va_up_s) hw ht) ml_X8_60 mf_X0_init ⟨Nat.le_of_ble_eq_true rfl, Nat.le_of_ble_eq_true rfl⟩ hl.1 rfl (Nat.le_of_ble_eq_true rfl) ⟨Nat.le_of_ble_eq_true rfl, Nat.le_of_ble_eq_true rfl⟩ dX8_branch_44 (fun gc H locs hp hW => ?_)
      obtain ⟨cN, cfr⟩ := hp
      have hgc : ∀ k, k < N → gc k = ga k := fun k hk => by rw [cfr k (by simp only [List.mem_cons, List.not_mem_nil, or_false, not_or]; omega), egb, va_up_n (by omega)]
      have hXc : XAt cy (N + 1) ad1 gc M lg lr lt st T p (mapT p (tK k) x T) := hXa.grow (by omega) ha1 hgc
      obtain ⟨-, -, bc, fs, m1, ⟨fB, m2, mfb⟩, m3, m4, m5, m6⟩ := id hXc.2.1
      refine w_nV (As := [.int (nI k), .ref (ad1 N)]) X hW (c_mAdd hXc.2.1 m1 m2 m3 m4 hk hm (by omega) cN) (by omega) m1 rfl rfl ml_X8_63 mf_X2_add ⟨Nat.le_of_ble_eq_true rfl, Nat.le_of_ble_eq_true rfl⟩ hl.1 rfl (Nat.le_of_ble_eq_true rfl) ⟨Nat.le_of_ble_eq_true rfl, Nat.le_of_ble_eq_true rfl⟩ dX8_branch_47 (fun r1 gd H locs hp hW => ?_)
      obtain ⟨er, d2, d3, dfr⟩ := hp
      have hMd : MachAt cy (N + 1) ad1 gd (addM M k w t r) := mach_add hok (by omega) m1 mfb m4 m5 m6 hk hm hw ht hr (Nat.lt_succ_self N) h83 cN d2 d3 (fun j j2 j3 => dfr j (by simp only [List.mem_cons, List.not_mem_nil, or_false, not_or]; omega))
      exact ret _ _ _ _ _ _ dX8_branch_50 hW ⟨ad1, gd, rfl, er, hXc.mach (fun j j2 j3 => dfr j (by simp only [List.mem_cons, List.not_mem_nil, or_false, not_or]; omega)) hMd, ha1, fun j h1 h2 => by rw [dfr j (by simp only [List.mem_cons, List.not_mem_nil, or_false, not_or]; omega), hgc j h2, afr j (by omega)]⟩
    · exact absurd c18 (bI_n0.mpr ⟨(okWi_nI (by omega)).mpr hw, (okTi_nI (by omega)).mpr ht, i_0le (by omega), nI_lt (b := 4) hr (by decide)⟩)

set_option maxHeartbeats 4000000 in
set_option maxRecDepth 100000 in
theorem c_change {l : Launch} {G : va_G} {cy : Nat → ClassId} {N : Nat} {ad : Nat → Nat} {g : Nat → va_E} {M : M4} {lg : List Nat} {lr lt : Nat → Int32} {st T : Nat} {p : Nat → Nat} {x : Nat → TT} {k w t r : Nat} (hX : XAt cy N ad g M lg lr lt st T p x) (hk : k < 24) (hm : k % 4 < M.1 (k / 4)) (hw : okW w) (ht : okT t) (hr : r < 4) : MI l G cy (N, ad, g) yX8_change cX8_change 5 (some .boolean) (rmA 3 1 8) [.ref (ad 0), .int (nI k), .int (nI w), .int (nI t), .int (nI r)] (fun v u => ∃ ad1 g1, u = (N + 1, ad1, g1) ∧ v = 1 ∧ XAt cy (N + 1) ad1 g1 (setM M k w t r) lg lr lt st T p (mapT p (tM k) x T) ∧ (∀ j, j < N → ad1 j = ad j) ∧ ∀ j, 63 ≤ j → j < N → g1 j = g j) := by
  refine MI.mk (by decide) (by intro v u h; obtain ⟨_, _, -, h, -⟩ := h; rw [h]; decide) (Nat.le_of_ble_eq_true rfl) ?_
  intro jp je js jm below meth jc A Q X hW ret ls hl
  have jx := X.hx
  have jb := X.hb
  have hl : lv_has ls 5 [(0, .ref (ad 0)), (1, .int (nI k)), (2, .int (nI w)), (3, .int (nI t)), (4, .int (nI r))] := hl
  have X : Cx G cy jp js jm _ jc cX8_change 5 RX8 A js.heap := X
  obtain ⟨f0, hM, ⟨fc, hL, hlc, hl96⟩, hS, ⟨psz, pf, mt, ltt, hP⟩, ⟨w0, w1, f62⟩⟩ := id hX
  obtain ⟨hok, h83, bc_, fs_, f1, -⟩ := id hM
  obtain ⟨-, hRL, hst, f4, f8⟩ := id hL
  have f5 := hRL.2.2.2.2.2.2.2.1
  have hlen := hRL.2.2.2.2.2.2.1
  obtain ⟨-, hT, hp12, hinj, ⟨ft, fm, f9, f10, f11, hft⟩, hx⟩ := id hS
  obtain ⟨-, hpsz, f60, f61⟩ := id hP
  refine lv_aload_n jx jb dX8_change_0 rfl (lv_at hl 0 rfl) ?_
  refine w_get X hW K8 (by omega) f0 0 (by decide) fl_X8_12 rfl dX8_change_1 ?_
  refine lv_iload_n jx jb dX8_change_4 rfl (lv_at hl 1 rfl) ?_
  refine w_rV (As := [.int (nI k)]) X hW (c_has hM) (by omega) f1 rfl rfl ml_X8_67 mf_X2_has ⟨Nat.le_of_ble_eq_true rfl, Nat.le_of_ble_eq_true rfl⟩ hl.1 rfl (Nat.le_of_ble_eq_true rfl) ⟨Nat.le_of_ble_eq_true rfl, Nat.le_of_ble_eq_true rfl⟩ dX8_change_5 (fun H locs hW => ?_)
  refine lv_if_eq (tgt := 21) jx jb dX8_change_8 (by decide) (fun c8 => ?_) (fun c8 => ?_)
  · exact absurd c8 (bI_n0.mpr ((isB_nI hk).mpr hm))
  · refine lv_iload_n jx jb dX8_change_11 rfl (lv_at hl 2 rfl) ?_
    refine lv_iload_n jx jb dX8_change_12 rfl (lv_at hl 3 rfl) ?_
    refine lv_iload jx jb dX8_change_13 (lv_at hl 4 rfl) ?_
    refine w_rS (As := [.int (nI w), .int (nI t), .int (nI r)]) X hW (c_canBe) ml_X8_50 mf_X0_canBe ⟨Nat.le_of_ble_eq_true rfl, Nat.le_of_ble_eq_true rfl⟩ hl.1 rfl (Nat.le_of_ble_eq_true rfl) ⟨Nat.le_of_ble_eq_true rfl, Nat.le_of_ble_eq_true rfl⟩ dX8_change_15 (fun H locs hW => ?_)
    refine lv_if_ne (tgt := 23) jx jb dX8_change_18 (by decide) (fun c18 => ?_) (fun c18 => ?_)
    · refine lv_aload_n jx jb dX8_change_23 rfl (lv_at hl 0 rfl) ?_
      refine w_get X hW K8 (by omega) f0 2 (by decide) fl_X8_26 rfl dX8_change_24 ?_
      refine lv_iload_n jx jb dX8_change_27 rfl (lv_at hl 1 rfl) ?_
      refine w_nVv (As := [.int (nI k)]) X hW (c_touchThoseThatMet hS) (by omega) f9 rfl rfl ml_X8_70 mf_X7_touchThoseThatMet ⟨Nat.le_of_ble_eq_true rfl, Nat.le_of_ble_eq_true rfl⟩ hl.1 rfl (Nat.le_of_ble_eq_true rfl) ⟨Nat.le_of_ble_eq_true rfl, Nat.le_of_ble_eq_true rfl⟩ dX8_change_28 (fun ga H locs hp hW => ?_)
      obtain ⟨hSa, afr⟩ := hp
      have hf1 : ga 0 = .inr (8, [.ref (ad 1), .ref (ad 4), .ref (ad 9), .ref (ad 60), .ref (ad 62)]) := (afr 0 (by omega)).trans f0
      have hf2 : ga 1 = .inr (2, [.ref (ad 2), .ref (ad 3)]) := (afr 1 (by omega)).trans f1
      have hXa : XAt cy N ad ga M lg lr lt st T p (mapT p (tM k) x T) := ⟨hf1, hM.fr (fun k hk => by show ga k = _; rw [afr k (by omega)]), ⟨fc, hL.fr (fun k hk1 hk2 => by show ga k = _; rw [afr k (by omega)]), hlc, hl96⟩, hSa, ⟨psz, pf, mt, ltt, h83, hpsz, (show ga 60 = g 60 from by rw [afr _ (by omega)]).trans f60, (show ga 61 = g 61 from by rw [afr _ (by omega)]).trans f61⟩, ⟨w0, w1, (show ga 62 = g 62 from by rw [afr _ (by omega)]).trans f62⟩⟩
      refine lv_aload_n jx jb dX8_change_31 rfl (lv_at hl 0 rfl) ?_
      refine w_get X hW K8 (by omega) hf1 0 (by decide) fl_X8_12 rfl dX8_change_32 ?_
      refine lv_iload_n jx jb dX8_change_35 rfl (lv_at hl 1 rfl) ?_
      refine w_new X hW K0 cl_X8_51 inst_X0 ini_X0 (fs := [.int 0, .int 0, .int 0, .int 0, .int 0, .int 0, .int 0, .int 0]) (fun j hj => by rcases (show j = 0 ∨ j = 1 ∨ j = 2 ∨ j = 3 ∨ j = 4 ∨ j = 5 ∨ j = 6 ∨ j = 7 by omega) with rfl | rfl | rfl | rfl | rfl | rfl | rfl | rfl <;> rfl) (Nat.le_of_ble_eq_true rfl) (Nat.le_of_ble_eq_true rfl) dX8_change_36 (fun qa H hW => ?_)
      obtain ⟨ad1, ead⟩ : ∃ zz, zz = va_up ad N qa := ⟨_, rfl⟩
      obtain ⟨gb, egb⟩ : ∃ zz, zz = va_up ga N (.inr (0, [.int 0, .int 0, .int 0, .int 0, .int 0, .int 0, .int 0, .int 0])) := ⟨_, rfl⟩
      have hW : Wd G A js.heap (N + 1, ad1, gb) H locs := by rw [ead, egb]; exact hW
      have hq : ad1 N = qa := by rw [ead]; exact va_up_s
      have ha1 : ∀ k, k < N → ad1 k = ad k := fun k hk => by rw [ead]; exact va_up_n (by omega)
      refine W.eq (g2 := F0 jm 39 ls [.ref (ad1 N), .int (nI k), .ref (ad1 1)]) (by rw [hq, ha1 1 (by omega)]) ?_
      refine lv_dup jx jb dX8_change_39 rfl ?_
      refine lv_iload_n jx jb dX8_change_40 rfl (lv_at hl 2 rfl) ?_
      refine lv_iload_n jx jb dX8_change_41 rfl (lv_at hl 3 rfl) ?_
      refine lv_iload jx jb dX8_change_42 (lv_at hl 4 rfl) ?_
      refine w_nIv (As := [.int (nI w), .int (nI t), .int (nI r)]) X hW (c_Branch_init (n := N) (by omega) (by rw [egb]; exact va_up_s) hw ht) ml_X8_60 mf_X0_init ⟨Nat.le_of_ble_eq_true rfl, Nat.le_of_ble_eq_true rfl⟩ hl.1 rfl (Nat.le_of_ble_eq_true rfl) ⟨Nat.le_of_ble_eq_true rfl, Nat.le_of_ble_eq_true rfl⟩ dX8_change_44 (fun gc H locs hp hW => ?_)
      obtain ⟨cN, cfr⟩ := hp
      have hgc : ∀ k, k < N → gc k = ga k := fun k hk => by rw [cfr k (by simp only [List.mem_cons, List.not_mem_nil, or_false, not_or]; omega), egb, va_up_n (by omega)]
      have hXc : XAt cy (N + 1) ad1 gc M lg lr lt st T p (mapT p (tM k) x T) := hXa.grow (by omega) ha1 hgc
      obtain ⟨-, -, bc, fs, m1, ⟨fB, m2, mfb⟩, m3, m4, m5, m6⟩ := id hXc.2.1
      refine w_nVv (As := [.int (nI k), .ref (ad1 N)]) X hW (c_put (by omega) m1 m2 m3 hk (by omega) cN) (by omega) m1 rfl rfl ml_X8_73 mf_X2_put ⟨Nat.le_of_ble_eq_true rfl, Nat.le_of_ble_eq_true rfl⟩ hl.1 rfl (Nat.le_of_ble_eq_true rfl) ⟨Nat.le_of_ble_eq_true rfl, Nat.le_of_ble_eq_true rfl⟩ dX8_change_47 (fun gd H locs hp hW => ?_)
      obtain ⟨d2, dfr⟩ := hp
      have hMd : MachAt cy (N + 1) ad1 gd (setM M k w t r) := mach_set hok (by omega) m1 m3 mfb m4 m5 m6 hk hm hw ht hr (Nat.lt_succ_self N) h83 cN d2 (fun j j2 => dfr j (by simp only [List.mem_cons, List.not_mem_nil, or_false, not_or]; omega))
      refine lv_iconst (v := 1) jx jb dX8_change_50 (by decide) ?_
      exact ret _ _ _ _ _ _ dX8_change_51 hW ⟨ad1, gd, rfl, rfl, hXc.mach (fun j j2 j3 => dfr j (by simp only [List.mem_cons, List.not_mem_nil, or_false, not_or]; omega)) hMd, ha1, fun j h1 h2 => by rw [dfr j (by simp only [List.mem_cons, List.not_mem_nil, or_false, not_or]; omega), hgc j h2, afr j (by omega)]⟩
    · exact absurd c18 (bI_n0.mpr ⟨(okWi_nI (by omega)).mpr hw, (okTi_nI (by omega)).mpr ht, i_0le (by omega), nI_lt (b := 4) hr (by decide)⟩)
end
