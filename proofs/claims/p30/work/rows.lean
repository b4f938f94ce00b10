section
-- ===== PART A: goes FIRST, ahead of the names: the tables' words, and 'selects' of the private methods out of them =====
/-- a private method of a class that the tables say can be made, by its rows of tables_1 -/
def lw_okq (q : MethodName × Nat) : Prop := (q.1.cls ≠ "java/lang/invoke/MethodHandle" ∧ q.1.cls ≠ "java/lang/invoke/VarHandle") ∧ Cond.instantiable q.1.cls q.2 ∈ tables_1 ∧ Cond.privateMethod q.1 ∈ tables_1 ∧ Cond.instanceMethod q.1 ∈ tables_1
theorem lw_p0 : lw_okq (⟨"HourAgo$House", "clear", "()V"⟩, 8) := ⟨⟨by decide +kernel, by decide +kernel⟩, List.mem_of_getElem? (i := 34) (by decide +kernel), List.mem_of_getElem? (i := 246) (by decide +kernel), List.mem_of_getElem? (i := 247) (by decide +kernel)⟩
theorem lw_p1 : lw_okq (⟨"HourAgo$House", "takes", "(I)Z"⟩, 8) := ⟨⟨by decide +kernel, by decide +kernel⟩, List.mem_of_getElem? (i := 34) (by decide +kernel), List.mem_of_getElem? (i := 258) (by decide +kernel), List.mem_of_getElem? (i := 259) (by decide +kernel)⟩
theorem lw_p2 : lw_okq (⟨"HourAgo$House", "goesOn", "(ZI)Z"⟩, 8) := ⟨⟨by decide +kernel, by decide +kernel⟩, List.mem_of_getElem? (i := 34) (by decide +kernel), List.mem_of_getElem? (i := 268) (by decide +kernel), List.mem_of_getElem? (i := 269) (by decide +kernel)⟩
theorem lw_p3 : lw_okq (⟨"HourAgo$House", "addsDoor", "(II)Z"⟩, 8) := ⟨⟨by decide +kernel, by decide +kernel⟩, List.mem_of_getElem? (i := 34) (by decide +kernel), List.mem_of_getElem? (i := 272) (by decide +kernel), List.mem_of_getElem? (i := 273) (by decide +kernel)⟩
theorem lw_p4 : lw_okq (⟨"HourAgo$House", "addsSight", "(II)Z"⟩, 8) := ⟨⟨by decide +kernel, by decide +kernel⟩, List.mem_of_getElem? (i := 34) (by decide +kernel), List.mem_of_getElem? (i := 284) (by decide +kernel), List.mem_of_getElem? (i := 285) (by decide +kernel)⟩
theorem lw_p5 : lw_okq (⟨"HourAgo", "hasHouse", "()Z"⟩, 13) := ⟨⟨by decide +kernel, by decide +kernel⟩, List.mem_of_getElem? (i := 12) (by decide +kernel), List.mem_of_getElem? (i := 339) (by decide +kernel), List.mem_of_getElem? (i := 340) (by decide +kernel)⟩
theorem lw_p6 : lw_okq (⟨"HourAgo", "personAt", "(I)LHourAgo$Person;"⟩, 13) := ⟨⟨by decide +kernel, by decide +kernel⟩, List.mem_of_getElem? (i := 12) (by decide +kernel), List.mem_of_getElem? (i := 352) (by decide +kernel), List.mem_of_getElem? (i := 353) (by decide +kernel)⟩
theorem lw_p7 : lw_okq (⟨"HourAgo$Life", "add", "(I)V"⟩, 4) := ⟨⟨by decide +kernel, by decide +kernel⟩, List.mem_of_getElem? (i := 65) (by decide +kernel), List.mem_of_getElem? (i := 388) (by decide +kernel), List.mem_of_getElem? (i := 389) (by decide +kernel)⟩
theorem lw_p8 : lw_okq (⟨"HourAgo$Life", "takes", "(ILHourAgo$House;I)Z"⟩, 4) := ⟨⟨by decide +kernel, by decide +kernel⟩, List.mem_of_getElem? (i := 65) (by decide +kernel), List.mem_of_getElem? (i := 392) (by decide +kernel), List.mem_of_getElem? (i := 393) (by decide +kernel)⟩
theorem lw_p9 : lw_okq (⟨"HourAgo$Person", "isMetBySelf", "(LHourAgo$House;I)Z"⟩, 2) := ⟨⟨by decide +kernel, by decide +kernel⟩, List.mem_of_getElem? (i := 128) (by decide +kernel), List.mem_of_getElem? (i := 474) (by decide +kernel), List.mem_of_getElem? (i := 475) (by decide +kernel)⟩
theorem lw_p10 : lw_okq (⟨"HourAgo$Walk", "waysOn", "(LHourAgo$House;I)I"⟩, 3) := ⟨⟨by decide +kernel, by decide +kernel⟩, List.mem_of_getElem? (i := 181) (by decide +kernel), List.mem_of_getElem? (i := 541) (by decide +kernel), List.mem_of_getElem? (i := 542) (by decide +kernel)⟩
theorem lw_p11 : lw_okq (⟨"HourAgo$Walk", "draw", "(I)I"⟩, 3) := ⟨⟨by decide +kernel, by decide +kernel⟩, List.mem_of_getElem? (i := 181) (by decide +kernel), List.mem_of_getElem? (i := 546) (by decide +kernel), List.mem_of_getElem? (i := 547) (by decide +kernel)⟩
theorem lw_p12 : lw_okq (⟨"HourAgo$Walk", "take", "(LHourAgo$House;II)V"⟩, 3) := ⟨⟨by decide +kernel, by decide +kernel⟩, List.mem_of_getElem? (i := 181) (by decide +kernel), List.mem_of_getElem? (i := 554) (by decide +kernel), List.mem_of_getElem? (i := 555) (by decide +kernel)⟩
theorem lw_p13 : lw_okq (⟨"HourAgo", "usersOf", "(I)I"⟩, 13) := ⟨⟨by decide +kernel, by decide +kernel⟩, List.mem_of_getElem? (i := 12) (by decide +kernel), List.mem_of_getElem? (i := 680) (by decide +kernel), List.mem_of_getElem? (i := 681) (by decide +kernel)⟩
def lw_privs_1 : List (MethodName × Nat) := [(⟨"HourAgo$House", "clear", "()V"⟩, 8), (⟨"HourAgo$House", "takes", "(I)Z"⟩, 8), (⟨"HourAgo$House", "goesOn", "(ZI)Z"⟩, 8), (⟨"HourAgo$House", "addsDoor", "(II)Z"⟩, 8), (⟨"HourAgo$House", "addsSight", "(II)Z"⟩, 8), (⟨"HourAgo", "hasHouse", "()Z"⟩, 13), (⟨"HourAgo", "personAt", "(I)LHourAgo$Person;"⟩, 13), (⟨"HourAgo$Life", "add", "(I)V"⟩, 4), (⟨"HourAgo$Life", "takes", "(ILHourAgo$House;I)Z"⟩, 4), (⟨"HourAgo$Person", "isMetBySelf", "(LHourAgo$House;I)Z"⟩, 2), (⟨"HourAgo$Walk", "waysOn", "(LHourAgo$House;I)I"⟩, 3), (⟨"HourAgo$Walk", "draw", "(I)I"⟩, 3), (⟨"HourAgo$Walk", "take", "(LHourAgo$House;II)V"⟩, 3), (⟨"HourAgo", "usersOf", "(I)I"⟩, 13)]
theorem lw_r1 : ∀ q ∈ lw_privs_1, lw_okq q := List.forall_mem_cons.mpr ⟨lw_p0, List.forall_mem_cons.mpr ⟨lw_p1, List.forall_mem_cons.mpr ⟨lw_p2, List.forall_mem_cons.mpr ⟨lw_p3, List.forall_mem_cons.mpr ⟨lw_p4, List.forall_mem_cons.mpr ⟨lw_p5, List.forall_mem_cons.mpr ⟨lw_p6, List.forall_mem_cons.mpr ⟨lw_p7, List.forall_mem_cons.mpr ⟨lw_p8, List.forall_mem_cons.mpr ⟨lw_p9, List.forall_mem_cons.mpr ⟨lw_p10, List.forall_mem_cons.mpr ⟨lw_p11, List.forall_mem_cons.mpr ⟨lw_p12, List.forall_mem_cons.mpr ⟨lw_p13, fun _ h => absurd h List.not_mem_nil⟩⟩⟩⟩⟩⟩⟩⟩⟩⟩⟩⟩⟩⟩
def lw_privs : List (MethodName × Nat) := lw_privs_1
def lw_tbl : List Cond := k2_sels lw_privs ++ tables_1
theorem lw_privs_ok : ∀ q ∈ lw_privs, lw_okq q := lw_r1
end
section
def RX0 : String := "HourAgo$Glimpses"
def TX0 : u_T := fun k => match k with
  | 0 => ("HourAgo$Glimpses", "spots", "[I", true)
  | _ => ("HourAgo$Glimpses", "size", "I", false)
def tyX0 : Nat → FieldType := fun k => match k with
  | 0 => .array .int
  | _ => .int
abbrev wsX00 : List Cond := u_ws RX0 TX0 2
theorem nmX0 : ∀ a, a < 2 → ∀ b, b < 2 → a ≠ b → (TX0 a).2.1 ≠ (TX0 b).2.1 := by decide +kernel
theorem tyX0_ok : ∀ k, k < 2 → parseFieldDescriptor (TX0 k).2.2.1 = some (tyX0 k) := by decide +kernel
abbrev cX0_init : ByteArray := prog_2_method_1_code
def yX0_init : MethodName := ⟨RX0, "<init>", "()V"⟩
abbrev cX0_size : ByteArray := prog_2_method_2_code
def yX0_size : MethodName := ⟨RX0, "size", "()I"⟩
abbrev cX0_clear : ByteArray := prog_2_method_3_code
def yX0_clear : MethodName := ⟨RX0, "clear", "()V"⟩
abbrev cX0_add : ByteArray := prog_2_method_4_code
def yX0_add : MethodName := ⟨RX0, "add", "(I)I"⟩
abbrev cX0_areAllOf : ByteArray := prog_2_method_6_code
def yX0_areAllOf : MethodName := ⟨RX0, "areAllOf", "(LHourAgo$Life;)Z"⟩
abbrev cX0_waysBetween : ByteArray := prog_2_method_7_code
def yX0_waysBetween : MethodName := ⟨RX0, "waysBetween", "(LHourAgo$Life;LHourAgo$Life;)I"⟩
def RX1 : String := "HourAgo$House"
def TX1 : u_T := fun k => match k with
  | 0 => ("HourAgo$House", "doorNumbers", "[I", true)
  | 1 => ("HourAgo$House", "seenRooms", "[I", true)
  | 2 => ("HourAgo$House", "doors", "I", false)
  | 3 => ("HourAgo$House", "sights", "I", false)
  | 4 => ("HourAgo$House", "lowRoom", "I", false)
  | 5 => ("HourAgo$House", "back", "I", false)
  | 6 => ("HourAgo$House", "stage", "I", false)
  | _ => ("HourAgo$House", "firstRoom", "I", false)
def tyX1 : Nat → FieldType := fun k => match k with
  | 0 => .array .int
  | 1 => .array .int
  | 2 => .int
  | 3 => .int
  | 4 => .int
  | 5 => .int
  | 6 => .int
  | _ => .int
abbrev wsX10 : List Cond := u_ws RX1 TX1 8
theorem nmX1 : ∀ a, a < 8 → ∀ b, b < 8 → a ≠ b → (TX1 a).2.1 ≠ (TX1 b).2.1 := by decide +kernel
theorem tyX1_ok : ∀ k, k < 8 → parseFieldDescriptor (TX1 k).2.2.1 = some (tyX1 k) := by decide +kernel
abbrev cX1_init : ByteArray := prog_3_method_1_code
def yX1_init : MethodName := ⟨RX1, "<init>", "()V"⟩
abbrev cX1_read : ByteArray := prog_3_method_2_code
def yX1_read : MethodName := ⟨RX1, "read", "(LHourAgo$Page;)I"⟩
abbrev cX1_isWhole : ByteArray := prog_3_method_3_code
def yX1_isWhole : MethodName := ⟨RX1, "isWhole", "()Z"⟩
abbrev cX1_clear : ByteArray := prog_3_method_4_code
def yX1_clear : MethodName := ⟨RX1, "clear", "()V"⟩
abbrev cX1_takes : ByteArray := prog_3_method_5_code
def yX1_takes : MethodName := ⟨RX1, "takes", "(I)Z"⟩
abbrev cX1_goesOn : ByteArray := prog_3_method_6_code
def yX1_goesOn : MethodName := ⟨RX1, "goesOn", "(ZI)Z"⟩
abbrev cX1_addsDoor : ByteArray := prog_3_method_7_code
def yX1_addsDoor : MethodName := ⟨RX1, "addsDoor", "(II)Z"⟩
abbrev cX1_addsSight : ByteArray := prog_3_method_8_code
def yX1_addsSight : MethodName := ⟨RX1, "addsSight", "(II)Z"⟩
abbrev cX1_doors : ByteArray := prog_3_method_9_code
def yX1_doors : MethodName := ⟨RX1, "doors", "()I"⟩
abbrev cX1_sights : ByteArray := prog_3_method_10_code
def yX1_sights : MethodName := ⟨RX1, "sights", "()I"⟩
abbrev cX1_lowRoom : ByteArray := prog_3_method_11_code
def yX1_lowRoom : MethodName := ⟨RX1, "lowRoom", "()I"⟩
abbrev cX1_back : ByteArray := prog_3_method_12_code
def yX1_back : MethodName := ⟨RX1, "back", "()I"⟩
abbrev cX1_leapOf : ByteArray := prog_3_method_13_code
def yX1_leapOf : MethodName := ⟨RX1, "leapOf", "(I)I"⟩
abbrev cX1_doorBetween : ByteArray := prog_3_method_14_code
def yX1_doorBetween : MethodName := ⟨RX1, "doorBetween", "(II)I"⟩
abbrev cX1_isSeenFrom : ByteArray := prog_3_method_15_code
def yX1_isSeenFrom : MethodName := ⟨RX1, "isSeenFrom", "(II)Z"⟩
abbrev cX1_meetingRooms : ByteArray := prog_3_method_16_code
def yX1_meetingRooms : MethodName := ⟨RX1, "meetingRooms", "(II)I"⟩
abbrev cX1_spotAfter : ByteArray := prog_3_method_17_code
def yX1_spotAfter : MethodName := ⟨RX1, "spotAfter", "(III)I"⟩
def RX2 : String := "HourAgo$Image"
def TX2 : u_T := fun k => match k with
  | 0 => ("HourAgo$Image", "people", "[LHourAgo$Person;", true)
  | 1 => ("HourAgo$Image", "tasks", "LHourAgo$Tasks;", true)
  | 2 => ("HourAgo$Image", "glimpses", "LHourAgo$Glimpses;", true)
  | 3 => ("HourAgo$Image", "kept", "Z", false)
  | _ => ("HourAgo$Image", "peopleCount", "I", false)
def tyX2 : Nat → FieldType := fun k => match k with
  | 0 => .array (.object "HourAgo$Person")
  | 1 => .object "HourAgo$Tasks"
  | 2 => .object "HourAgo$Glimpses"
  | 3 => .boolean
  | _ => .int
abbrev wsX20 : List Cond := u_ws RX2 TX2 5
theorem nmX2 : ∀ a, a < 5 → ∀ b, b < 5 → a ≠ b → (TX2 a).2.1 ≠ (TX2 b).2.1 := by decide +kernel
theorem tyX2_ok : ∀ k, k < 5 → parseFieldDescriptor (TX2 k).2.2.1 = some (tyX2 k) := by decide +kernel
abbrev cX2_init : ByteArray := prog_4_method_1_code
def yX2_init : MethodName := ⟨RX2, "<init>", "()V"⟩
abbrev cX2_drop : ByteArray := prog_4_method_5_code
def yX2_drop : MethodName := ⟨RX2, "drop", "()V"⟩
def RX3 : String := "HourAgo$Life"
def TX3 : u_T := fun k => match k with
  | 0 => ("HourAgo$Life", "spots", "[I", true)
  | 1 => ("HourAgo$Life", "selves", "I", false)
  | 2 => ("HourAgo$Life", "throughs", "I", false)
  | _ => ("HourAgo$Life", "doorBits", "I", false)
def tyX3 : Nat → FieldType := fun k => match k with
  | 0 => .array .int
  | 1 => .int
  | 2 => .int
  | _ => .int
abbrev wsX30 : List Cond := u_ws RX3 TX3 4
theorem nmX3 : ∀ a, a < 4 → ∀ b, b < 4 → a ≠ b → (TX3 a).2.1 ≠ (TX3 b).2.1 := by decide +kernel
theorem tyX3_ok : ∀ k, k < 4 → parseFieldDescriptor (TX3 k).2.2.1 = some (tyX3 k) := by decide +kernel
abbrev cX3_init : ByteArray := prog_5_method_1_code
def yX3_init : MethodName := ⟨RX3, "<init>", "()V"⟩
abbrev cX3_faultIn : ByteArray := prog_5_method_2_code
def yX3_faultIn : MethodName := ⟨RX3, "faultIn", "(LHourAgo$Page;)I"⟩
abbrev cX3_mayStand : ByteArray := prog_5_method_3_code
def yX3_mayStand : MethodName := ⟨RX3, "mayStand", "(II)Z"⟩
abbrev cX3_stepOf : ByteArray := prog_5_method_4_code
def yX3_stepOf : MethodName := ⟨RX3, "stepOf", "(I)I"⟩
abbrev cX3_read : ByteArray := prog_5_method_5_code
def yX3_read : MethodName := ⟨RX3, "read", "(LHourAgo$Page;LHourAgo$House;I)Z"⟩
abbrev cX3_takes : ByteArray := prog_5_method_6_code
def yX3_takes : MethodName := ⟨RX3, "takes", "(ILHourAgo$House;I)Z"⟩
abbrev cX3_add : ByteArray := prog_5_method_7_code
def yX3_add : MethodName := ⟨RX3, "add", "(I)V"⟩
abbrev cX3_clear : ByteArray := prog_5_method_8_code
def yX3_clear : MethodName := ⟨RX3, "clear", "()V"⟩
abbrev cX3_copyFrom : ByteArray := prog_5_method_9_code
def yX3_copyFrom : MethodName := ⟨RX3, "copyFrom", "(LHourAgo$Life;)V"⟩
abbrev cX3_selves : ByteArray := prog_5_method_10_code
def yX3_selves : MethodName := ⟨RX3, "selves", "()I"⟩
abbrev cX3_throughs : ByteArray := prog_5_method_11_code
def yX3_throughs : MethodName := ⟨RX3, "throughs", "()I"⟩
abbrev cX3_usesDoor : ByteArray := prog_5_method_12_code
def yX3_usesDoor : MethodName := ⟨RX3, "usesDoor", "(I)Z"⟩
abbrev cX3_spotAt : ByteArray := prog_5_method_13_code
def yX3_spotAt : MethodName := ⟨RX3, "spotAt", "(I)I"⟩
abbrev cX3_lastSpot : ByteArray := prog_5_method_14_code
def yX3_lastSpot : MethodName := ⟨RX3, "lastSpot", "()I"⟩
abbrev cX3_selvesAt : ByteArray := prog_5_method_15_code
def yX3_selvesAt : MethodName := ⟨RX3, "selvesAt", "(I)I"⟩
abbrev cX3_selvesIn : ByteArray := prog_5_method_16_code
def yX3_selvesIn : MethodName := ⟨RX3, "selvesIn", "(I)I"⟩
abbrev cX3_fullestMinute : ByteArray := prog_5_method_17_code
def yX3_fullestMinute : MethodName := ⟨RX3, "fullestMinute", "()I"⟩
abbrev cX3_firstMinuteWith : ByteArray := prog_5_method_18_code
def yX3_firstMinuteWith : MethodName := ⟨RX3, "firstMinuteWith", "(LHourAgo$Life;)I"⟩
def RX4 : String := "HourAgo$Page"
def TX4 : u_T := fun k => match k with
  | 0 => ("HourAgo$Page", "codes", "[I", true)
  | _ => ("HourAgo$Page", "length", "I", false)
def tyX4 : Nat → FieldType := fun k => match k with
  | 0 => .array .int
  | _ => .int
abbrev wsX40 : List Cond := u_ws RX4 TX4 2
theorem nmX4 : ∀ a, a < 2 → ∀ b, b < 2 → a ≠ b → (TX4 a).2.1 ≠ (TX4 b).2.1 := by decide +kernel
theorem tyX4_ok : ∀ k, k < 2 → parseFieldDescriptor (TX4 k).2.2.1 = some (tyX4 k) := by decide +kernel
abbrev cX4_init : ByteArray := prog_6_method_1_code
def yX4_init : MethodName := ⟨RX4, "<init>", "()V"⟩
abbrev cX4_lettersIn : ByteArray := prog_6_method_2_code
def yX4_lettersIn : MethodName := ⟨RX4, "lettersIn", "(J)I"⟩
abbrev cX4_byteOf : ByteArray := prog_6_method_3_code
def yX4_byteOf : MethodName := ⟨RX4, "byteOf", "(JI)I"⟩
abbrev cX4_addAll : ByteArray := prog_6_method_4_code
def yX4_addAll : MethodName := ⟨RX4, "addAll", "(J)V"⟩
abbrev cX4_length : ByteArray := prog_6_method_5_code
def yX4_length : MethodName := ⟨RX4, "length", "()I"⟩
abbrev cX4_at : ByteArray := prog_6_method_6_code
def yX4_at : MethodName := ⟨RX4, "at", "(I)I"⟩
abbrev cX4_clear : ByteArray := prog_6_method_7_code
def yX4_clear : MethodName := ⟨RX4, "clear", "()V"⟩
def RX5 : String := "HourAgo$Person"
def TX5 : u_T := fun k => match k with
  | 0 => ("HourAgo$Person", "life", "LHourAgo$Life;", true)
  | _ => ("HourAgo$Person", "kind", "I", false)
def tyX5 : Nat → FieldType := fun k => match k with
  | 0 => .object "HourAgo$Life"
  | _ => .int
abbrev wsX50 : List Cond := u_ws RX5 TX5 2
theorem nmX5 : ∀ a, a < 2 → ∀ b, b < 2 → a ≠ b → (TX5 a).2.1 ≠ (TX5 b).2.1 := by decide +kernel
theorem tyX5_ok : ∀ k, k < 2 → parseFieldDescriptor (TX5 k).2.2.1 = some (tyX5 k) := by decide +kernel
abbrev cX5_init : ByteArray := prog_7_method_1_code
def yX5_init : MethodName := ⟨RX5, "<init>", "()V"⟩
abbrev cX5_begin : ByteArray := prog_7_method_2_code
def yX5_begin : MethodName := ⟨RX5, "begin", "(I)V"⟩
abbrev cX5_kind : ByteArray := prog_7_method_3_code
def yX5_kind : MethodName := ⟨RX5, "kind", "()I"⟩
abbrev cX5_lived : ByteArray := prog_7_method_4_code
def yX5_lived : MethodName := ⟨RX5, "lived", "()LHourAgo$Life;"⟩
abbrev cX5_firstMeeting : ByteArray := prog_7_method_5_code
def yX5_firstMeeting : MethodName := ⟨RX5, "firstMeeting", "(LHourAgo$House;)I"⟩
abbrev cX5_isMetBySelf : ByteArray := prog_7_method_6_code
def yX5_isMetBySelf : MethodName := ⟨RX5, "isMetBySelf", "(LHourAgo$House;I)Z"⟩
def RX6 : String := "HourAgo$Search"
def TX6 : u_T := fun k => match k with
  | 0 => ("HourAgo$Search", "reach", "[I", true)
  | 1 => ("HourAgo$Search", "roomsTaken", "[I", true)
  | 2 => ("HourAgo$Search", "kind", "I", false)
  | 3 => ("HourAgo$Search", "leap", "I", false)
  | 4 => ("HourAgo$Search", "set", "I", false)
  | 5 => ("HourAgo$Search", "steps", "I", false)
  | _ => ("HourAgo$Search", "firstStep", "I", false)
def tyX6 : Nat → FieldType := fun k => match k with
  | 0 => .array .int
  | 1 => .array .int
  | 2 => .int
  | 3 => .int
  | 4 => .int
  | 5 => .int
  | _ => .int
abbrev wsX60 : List Cond := u_ws RX6 TX6 7
theorem nmX6 : ∀ a, a < 7 → ∀ b, b < 7 → a ≠ b → (TX6 a).2.1 ≠ (TX6 b).2.1 := by decide +kernel
theorem tyX6_ok : ∀ k, k < 7 → parseFieldDescriptor (TX6 k).2.2.1 = some (tyX6 k) := by decide +kernel
abbrev cX6_init : ByteArray := prog_8_method_1_code
def yX6_init : MethodName := ⟨RX6, "<init>", "()V"⟩
def RX7 : String := "HourAgo$Tasks"
def TX7 : u_T := fun k => match k with
  | 0 => ("HourAgo$Tasks", "rooms", "[I", true)
  | 1 => ("HourAgo$Tasks", "froms", "[I", true)
  | 2 => ("HourAgo$Tasks", "tos", "[I", true)
  | _ => ("HourAgo$Tasks", "size", "I", false)
def tyX7 : Nat → FieldType := fun k => match k with
  | 0 => .array .int
  | 1 => .array .int
  | 2 => .array .int
  | _ => .int
abbrev wsX70 : List Cond := u_ws RX7 TX7 4
theorem nmX7 : ∀ a, a < 4 → ∀ b, b < 4 → a ≠ b → (TX7 a).2.1 ≠ (TX7 b).2.1 := by decide +kernel
theorem tyX7_ok : ∀ k, k < 4 → parseFieldDescriptor (TX7 k).2.2.1 = some (tyX7 k) := by decide +kernel
abbrev cX7_init : ByteArray := prog_9_method_1_code
def yX7_init : MethodName := ⟨RX7, "<init>", "()V"⟩
abbrev cX7_size : ByteArray := prog_9_method_2_code
def yX7_size : MethodName := ⟨RX7, "size", "()I"⟩
abbrev cX7_clear : ByteArray := prog_9_method_3_code
def yX7_clear : MethodName := ⟨RX7, "clear", "()V"⟩
abbrev cX7_add : ByteArray := prog_9_method_4_code
def yX7_add : MethodName := ⟨RX7, "add", "(III)I"⟩
abbrev cX7_doneAt : ByteArray := prog_9_method_6_code
def yX7_doneAt : MethodName := ⟨RX7, "doneAt", "(I)I"⟩
abbrev cX7_doneBy : ByteArray := prog_9_method_7_code
def yX7_doneBy : MethodName := ⟨RX7, "doneBy", "(LHourAgo$Life;)I"⟩
def RX8 : String := "HourAgo$Walk"
def TX8 : u_T := fun k => match k with
  | 0 => ("HourAgo$Walk", "spot", "I", false)
  | 1 => ("HourAgo$Walk", "throughs", "I", false)
  | _ => ("HourAgo$Walk", "seed", "I", false)
def tyX8 : Nat → FieldType := fun k => match k with
  | 0 => .int
  | 1 => .int
  | _ => .int
abbrev wsX80 : List Cond := u_ws RX8 TX8 3
theorem nmX8 : ∀ a, a < 3 → ∀ b, b < 3 → a ≠ b → (TX8 a).2.1 ≠ (TX8 b).2.1 := by decide +kernel
theorem tyX8_ok : ∀ k, k < 3 → parseFieldDescriptor (TX8 k).2.2.1 = some (tyX8 k) := by decide +kernel
abbrev cX8_init : ByteArray := prog_10_method_1_code
def yX8_init : MethodName := ⟨RX8, "<init>", "()V"⟩
abbrev cX8_begin : ByteArray := prog_10_method_2_code
def yX8_begin : MethodName := ⟨RX8, "begin", "(II)V"⟩
abbrev cX8_go : ByteArray := prog_10_method_3_code
def yX8_go : MethodName := ⟨RX8, "go", "(LHourAgo$House;II)V"⟩
abbrev cX8_tell : ByteArray := prog_10_method_4_code
def yX8_tell : MethodName := ⟨RX8, "tell", "(I)I"⟩
abbrev cX8_waysOn : ByteArray := prog_10_method_5_code
def yX8_waysOn : MethodName := ⟨RX8, "waysOn", "(LHourAgo$House;I)I"⟩
abbrev cX8_take : ByteArray := prog_10_method_6_code
def yX8_take : MethodName := ⟨RX8, "take", "(LHourAgo$House;II)V"⟩
abbrev cX8_draw : ByteArray := prog_10_method_7_code
def yX8_draw : MethodName := ⟨RX8, "draw", "(I)I"⟩
def RX9 : String := "HourAgo"
def TX9 : u_T := fun k => match k with
  | 0 => ("HourAgo", "page", "LHourAgo$Page;", true)
  | 1 => ("HourAgo", "house", "LHourAgo$House;", true)
  | 2 => ("HourAgo", "draftHouse", "LHourAgo$House;", true)
  | 3 => ("HourAgo", "draftLife", "LHourAgo$Life;", true)
  | 4 => ("HourAgo", "people", "[LHourAgo$Person;", true)
  | 5 => ("HourAgo", "tasks", "LHourAgo$Tasks;", true)
  | 6 => ("HourAgo", "glimpses", "LHourAgo$Glimpses;", true)
  | 7 => ("HourAgo", "image", "LHourAgo$Image;", true)
  | 8 => ("HourAgo", "search", "LHourAgo$Search;", true)
  | 9 => ("HourAgo", "walk", "LHourAgo$Walk;", true)
  | 10 => ("HourAgo", "peopleCount", "I", false)
  | 11 => ("HourAgo", "housesRead", "I", false)
  | _ => ("HourAgo", "searchesDone", "I", false)
def tyX9 : Nat → FieldType := fun k => match k with
  | 0 => .object "HourAgo$Page"
  | 1 => .object "HourAgo$House"
  | 2 => .object "HourAgo$House"
  | 3 => .object "HourAgo$Life"
  | 4 => .array (.object "HourAgo$Person")
  | 5 => .object "HourAgo$Tasks"
  | 6 => .object "HourAgo$Glimpses"
  | 7 => .object "HourAgo$Image"
  | 8 => .object "HourAgo$Search"
  | 9 => .object "HourAgo$Walk"
  | 10 => .int
  | 11 => .int
  | _ => .int
abbrev wsX90 : List Cond := u_ws RX9 TX9 13
theorem nmX9 : ∀ a, a < 13 → ∀ b, b < 13 → a ≠ b → (TX9 a).2.1 ≠ (TX9 b).2.1 := by decide +kernel
theorem tyX9_ok : ∀ k, k < 13 → parseFieldDescriptor (TX9 k).2.2.1 = some (tyX9 k) := by decide +kernel
abbrev cX9_init : ByteArray := prog_1_method_1_code
def yX9_init : MethodName := ⟨RX9, "<init>", "()V"⟩
abbrev cX9_letters : ByteArray := prog_1_method_2_code
def yX9_letters : MethodName := ⟨RX9, "letters", "(J)I"⟩
abbrev cX9_fault : ByteArray := prog_1_method_4_code
def yX9_fault : MethodName := ⟨RX9, "fault", "(I)I"⟩
abbrev cX9_house : ByteArray := prog_1_method_5_code
def yX9_house : MethodName := ⟨RX9, "house", "()I"⟩
abbrev cX9_between : ByteArray := prog_1_method_6_code
def yX9_between : MethodName := ⟨RX9, "between", "(II)I"⟩
abbrev cX9_person : ByteArray := prog_1_method_7_code
def yX9_person : MethodName := ⟨RX9, "person", "(I)I"⟩
abbrev cX9_life : ByteArray := prog_1_method_8_code
def yX9_life : MethodName := ⟨RX9, "life", "(I)I"⟩
abbrev cX9_about : ByteArray := prog_1_method_9_code
def yX9_about : MethodName := ⟨RX9, "about", "(II)I"⟩
abbrev cX9_as : ByteArray := prog_1_method_10_code
def yX9_as : MethodName := ⟨RX9, "as", "(II)I"⟩
abbrev cX9_self : ByteArray := prog_1_method_11_code
def yX9_self : MethodName := ⟨RX9, "self", "(III)I"⟩
abbrev cX9_there : ByteArray := prog_1_method_12_code
def yX9_there : MethodName := ⟨RX9, "there", "(III)I"⟩
abbrev cX9_met : ByteArray := prog_1_method_13_code
def yX9_met : MethodName := ⟨RX9, "met", "(I)I"⟩
abbrev cX9_most : ByteArray := prog_1_method_14_code
def yX9_most : MethodName := ⟨RX9, "most", "(II)I"⟩
abbrev cX9_meet : ByteArray := prog_1_method_15_code
def yX9_meet : MethodName := ⟨RX9, "meet", "(II)I"⟩
abbrev cX9_locked : ByteArray := prog_1_method_16_code
def yX9_locked : MethodName := ⟨RX9, "locked", "()I"⟩
abbrev cX9_task : ByteArray := prog_1_method_17_code
def yX9_task : MethodName := ⟨RX9, "task", "(III)I"⟩
abbrev cX9_done : ByteArray := prog_1_method_18_code
def yX9_done : MethodName := ⟨RX9, "done", "(I)I"⟩
abbrev cX9_glimpse : ByteArray := prog_1_method_20_code
def yX9_glimpse : MethodName := ⟨RX9, "glimpse", "(II)I"⟩
abbrev cX9_forget : ByteArray := prog_1_method_21_code
def yX9_forget : MethodName := ⟨RX9, "forget", "()I"⟩
abbrev cX9_whose : ByteArray := prog_1_method_22_code
def yX9_whose : MethodName := ⟨RX9, "whose", "()I"⟩
abbrev cX9_pair : ByteArray := prog_1_method_23_code
def yX9_pair : MethodName := ⟨RX9, "pair", "(II)I"⟩
abbrev cX9_lives : ByteArray := prog_1_method_24_code
def yX9_lives : MethodName := ⟨RX9, "lives", "(IIIII)I"⟩
abbrev cX9_count : ByteArray := prog_1_method_27_code
def yX9_count : MethodName := ⟨RX9, "count", "(I)I"⟩
abbrev cX9_hasHouse : ByteArray := prog_1_method_33_code
def yX9_hasHouse : MethodName := ⟨RX9, "hasHouse", "()Z"⟩
abbrev cX9_personAt : ByteArray := prog_1_method_34_code
def yX9_personAt : MethodName := ⟨RX9, "personAt", "(I)LHourAgo$Person;"⟩
abbrev cX9_usersOf : ByteArray := prog_1_method_35_code
def yX9_usersOf : MethodName := ⟨RX9, "usersOf", "(I)I"⟩
abbrev cX9_isRoom : ByteArray := prog_1_method_37_code
def yX9_isRoom : MethodName := ⟨RX9, "isRoom", "(I)Z"⟩
abbrev cX9_isMinute : ByteArray := prog_1_method_38_code
def yX9_isMinute : MethodName := ⟨RX9, "isMinute", "(I)Z"⟩
abbrev cX9_isKind : ByteArray := prog_1_method_39_code
def yX9_isKind : MethodName := ⟨RX9, "isKind", "(I)Z"⟩
abbrev cX9_isOfKind : ByteArray := prog_1_method_40_code
def yX9_isOfKind : MethodName := ⟨RX9, "isOfKind", "(II)Z"⟩
abbrev cX9_spotOf : ByteArray := prog_1_method_41_code
def yX9_spotOf : MethodName := ⟨RX9, "spotOf", "(II)I"⟩
abbrev cX9_minuteOf : ByteArray := prog_1_method_42_code
def yX9_minuteOf : MethodName := ⟨RX9, "minuteOf", "(I)I"⟩
abbrev cX9_roomOf : ByteArray := prog_1_method_43_code
def yX9_roomOf : MethodName := ⟨RX9, "roomOf", "(I)I"⟩
abbrev cX9_digitOf : ByteArray := prog_1_method_44_code
def yX9_digitOf : MethodName := ⟨RX9, "digitOf", "(III)I"⟩
abbrev cX9_roomDigitOf : ByteArray := prog_1_method_45_code
def yX9_roomDigitOf : MethodName := ⟨RX9, "roomDigitOf", "(I)I"⟩
def RX10 : String := "HourAgoModel"
def TX10 : u_T := fun k => match k with
  | _ => ("", "", "", false)
def tyX10 : Nat → FieldType := fun k => match k with
  | _ => .int
abbrev wsX100 : List Cond := u_ws RX10 TX10 0
theorem nmX10 : ∀ a, a < 0 → ∀ b, b < 0 → a ≠ b → (TX10 a).2.1 ≠ (TX10 b).2.1 := by decide +kernel
theorem tyX10_ok : ∀ k, k < 0 → parseFieldDescriptor (TX10 k).2.2.1 = some (tyX10 k) := by decide +kernel
def RL : String := "HourAgoLaw"
abbrev cL_cell : ByteArray := method_2_code
def yL_cell : MethodName := ⟨RL, "cell", "([II)I"⟩
abbrev cL_at : ByteArray := method_3_code
def yL_at : MethodName := ⟨RL, "at", "(II)I"⟩
abbrev cL_houseText : ByteArray := method_4_code
def yL_houseText : MethodName := ⟨RL, "houseText", "([II[I[I)I"⟩
abbrev cL_write : ByteArray := method_5_code
def yL_write : MethodName := ⟨RL, "write", "(LHourAgo;[II)Z"⟩
abbrev cL_back : ByteArray := method_6_code
def yL_back : MethodName := ⟨RL, "back", "([II)I"⟩
abbrev cL_step : ByteArray := method_7_code
def yL_step : MethodName := ⟨RL, "step", "([IIII)I"⟩
abbrev cL_lifeText : ByteArray := method_8_code
def yL_lifeText : MethodName := ⟨RL, "lifeText", "(III[III[I[I[I)I"⟩
abbrev cL_people : ByteArray := method_9_code
def yL_people : MethodName := ⟨RL, "people", "(LHourAgo;[III[I[I[I[I)Z"⟩
abbrev cL_met : ByteArray := method_10_code
def yL_met : MethodName := ⟨RL, "met", "([IIII)Z"⟩
abbrev cL_there : ByteArray := method_11_code
def yL_there : MethodName := ⟨RL, "there", "([I[III)I"⟩
abbrev cL_stands : ByteArray := method_12_code
def yL_stands : MethodName := ⟨RL, "stands", "(LHourAgo;[I[I[I)Z"⟩
abbrev cL_law : ByteArray := code
def yL_law : MethodName := ⟨RL, "law", "([I)Z"⟩
abbrev cL_tasks : ByteArray := method_14_code
def yL_tasks : MethodName := ⟨RL, "tasks", "(LHourAgo;[I[I[I)Z"⟩
abbrev cL_glimpses : ByteArray := method_15_code
def yL_glimpses : MethodName := ⟨RL, "glimpses", "(LHourAgo;[I[I[I)Z"⟩
abbrev cL_doors : ByteArray := method_16_code
def yL_doors : MethodName := ⟨RL, "doors", "(LHourAgo;[I[I[I)Z"⟩
abbrev vwCl : List vw_C := [(RX0, TX0, 2), (RX1, TX1, 8), (RX2, TX2, 5), (RX3, TX3, 4), (RX4, TX4, 2), (RX5, TX5, 2), (RX6, TX6, 7), (RX7, TX7, 4), (RX8, TX8, 3), (RX9, TX9, 13)]
end
section

/-! ===== an own judgement over the kit's: the objects have numbers (the k-th made lies at base + k), their whole numbers lie in one store ===== -/
/-- a method: name, code, locals, answer's type, parameters, its instructions -/
abbrev xM : Type := MethodName × ByteArray × Nat × Option FieldType × Nat × List (Nat × Instr × Nat)
/-- what a numbered cell is: an object of a class with its references; a row of ints; a row of references -/
abbrev xSh : Type := (Nat × List (Option Nat)) ⊕ (Nat ⊕ List (Option Nat))
/-- the cells, their ints, their longs -/
abbrev xH : Type := List xSh × (Nat → Nat → Int32) × (Nat → Nat → Int64)
def xfetch (M : xM) (pc : Nat) : Option (Instr × Nat) := M.2.2.2.2.2.lookup pc
def xe (b base : Nat) : Value → Value
  | .ref k => .ref (base + k)
  | .retAddr _ => .ref b
  | v => v
theorem xe_cat (b base : Nat) (v : Value) : (xe b base v).category = v.category := by cases v <;> rfl
/-- the kinds of fields: 0 int, 1 long, 2 reference, 3 boolean -/
def xkinds : List (List Nat) := [[2, 0], [2, 2, 0, 0, 0, 0, 0, 0], [2, 2, 2, 3, 0], [2, 0, 0, 0], [2, 0], [2, 0], [2, 2, 0, 0, 0, 0, 0], [2, 2, 2, 0], [0, 0, 0], [2, 2, 2, 2, 2, 2, 2, 2, 2, 2, 0, 0, 0]]
def xkind (ci k : Nat) : Nat := (xkinds.getD ci []).getD k 0
def xnf (ci : Nat) : Nat := (xkinds.getD ci []).length
def xval (base : Nat) (h : xH) (k c : Nat) (r : List (Option Nat)) (i : Nat) : Value := match xkind c i with
  | 0 => .int (h.2.1 k i)
  | 1 => .long (h.2.2 k i)
  | 2 => va_rf ((r.getD i none).map (fun j => base + j))
  | _ => .int (h.2.1 k i)
def xcell (base : Nat) (yI yP : ClassId) (h : xH) (k : Nat) : xSh → va_E
  | .inl (c, r) => .inr (c, (List.range (xnf c)).map (xval base h k c r))
  | .inr (.inl n) => .inl (yI, n, .inl (h.2.1 k))
  | .inr (.inr l) => .inl (yP, l.length, .inr (.inr (.inr (.inr (fun i => (l.getD i none).map (fun j => base + j))))))
def xws (base : Nat) (yI yP : ClassId) (h : xH) : va_W := h.1.mapIdx (fun k sh => (base + k, xcell base yI yP h k sh))
abbrev xtys (yI yP : ClassId) : List (ClassId × FieldType) := [(yI, .int), (yP, .object RX5)]
def xWd (base : Nat) (yI yP : ClassId) (D : va_G) (h : xH) (H : Heap) : Prop := H.size = base + h.1.length ∧ va_P D vwCl (xws base yI yP h) H
def xLs (b base : Nat) (ls : Array Slot) (L : List (Option Value)) : Prop := ls.size = L.length ∧ lv_wf ls ∧ ∀ (i : Nat) (v : Value), L[i]? = some (some v) → ls[i]? = some (.val (xe b base v))
/-- a word of the tables that every method may use -/
def xW (w : Cond) : Prop := w ∈ lw_tbl ∧ goodWord w = true
def xnest : Cond → Bool
  | .methodLinkNest _ _ _ _ => true
  | _ => false
def xBW : List Cond := lw_tbl.filter goodWord
theorem xBW_of {w : Cond} (h : xW w) : w ∈ xBW := List.mem_filter.mpr h
theorem xW_of {w : Cond} (h : w ∈ xBW) : xW w := List.mem_filter.mp h
abbrev xAd (base : Nat) : Nat → Prop := fun q => base ≤ q
def xIsRet (rt : Option FieldType) (i : Instr) (st : List Value) (r : Option Value) : Prop :=
  (i = .ireturn ∧ ∃ v : Int32, st = [.int v] ∧ r = some (.int v) ∧ ∃ ty, rt = some ty ∧ narrow ty (.int v) = .int v) ∨
  (i = .lreturn ∧ ∃ v : Int64, st = [.long v] ∧ r = some (.long v) ∧ rt = some .long) ∨
  (i = .areturn ∧ ∃ v : Value, st = [v] ∧ r = some v ∧ (∃ n, rt = some (.object n)) ∧ (v = .null ∨ ∃ a, v = .ref a)) ∨
  (i = .return_ ∧ st = [] ∧ r = none ∧ rt = none)
/-- the tables' part of a state -/
def xTb (yI yP : ClassId) (D : va_G) (s : State) : Prop := va_K D vwCl (xtys yI yP) s ∧ va_AO RX5 s ∧ ∀ w, w ∈ lw_tbl → xnest w = true → va_Nw w s
/-- what a walk stands on -/
def xCx (X : Option (Nat × (Nat → Int32))) (d : Nat) (M : xM) (mc ms : Nat) (Q : Option Value → xH → Prop) (p : Program) (l : Launch) (e : Env) (R : Room) (s : State) (m : MethodId) (args : Array Value) (below : List Frame) (meth : Method) (cd : Code) (Z : State → Prop) (b base : Nat) (yI yP : ClassId) (D : va_G) : Prop :=
  (p.tables.exec = Jvm.exec ∧ cd.code = M.2.1 ∧ cd.maxLocals = M.2.2.1 ∧ s.vm.findClass M.1.cls = some m.cls) ∧
  ((∀ w, w ∈ xBW → w.before args s = true) ∧ xTb yI yP D s) ∧
  (meth.name = M.1.name ∧ ∀ pc i n, xfetch M pc = some (i, n) → decode M.2.1 pc = .ok (i, n)) ∧
  (d ≤ R.frames ∧ 46 * d ≤ R.locals ∧ mc ≤ R.cells ∧ ms ≤ R.slots) ∧
  (base ≤ s.heap.size) ∧
  (match X with | none => True | some q => va_X b q.1 q.2 s s.heap ∧ b < base) ∧
  (∀ (pc : Nat) (ls : Array Slot) (i : Instr) (st : List Value) (r : Option Value) (h : xH) (H : Heap) (locs : List Loc), decode M.2.1 pc = .ok (i, 1) → xIsRet M.2.2.2.1 i st r → Q r h → xWd base yI yP D h H → va_S (xAd base) s.heap H locs → W p l e R s m args below meth cd H locs mc ms Z (F0 m pc ls (st.map (xe b base))))
/-- from this point of the method, with these locals, this stack, these cells, it returns, and Q holds of its answer and of the cells then -/
def xA (X : Option (Nat × (Nat → Int32))) (d : Nat) (M : xM) (c n mc ms pc : Nat) (L : List (Option Value)) (st : List Value) (h : xH) (Q : Option Value → xH → Prop) : Prop :=
  ∀ (p : Program) (l : Launch) (e : Env) (R : Room) (s : State) (m : MethodId) (args : Array Value) (below : List Frame) (meth : Method) (cd : Code) (Z : State → Prop) (b base : Nat) (yI yP : ClassId) (D : va_G), xCx X d M mc ms Q p l e R s m args below meth cd Z b base yI yP D →
    ∀ (H : Heap) (locs : List Loc) (ls : Array Slot), xWd base yI yP D h H → va_S (xAd base) s.heap H locs → xLs b base ls L → W p l e R s m args below meth cd H locs c n Z (F0 m pc ls (st.map (xe b base)))
def xPc (b base : Nat) (yI yP : ClassId) (D : va_G) (args : List Value) (h : xH) : Array Value → State → Prop := va_Pc (args.map (xe b base)) (fun U => xWd base yI yP D h U.heap ∧ xTb yI yP D U)
def xQc (b base : Nat) (yI yP : ClassId) (D : va_G) (Q : Option Value → xH → Prop) : Array Value → State → Outcome → State → Prop := fun _ st o t => ∃ (r : Option Value) (h' : xH), o = .returned (r.map (xe b base)) ∧ Q r h' ∧ xWd base yI yP D h' t.heap ∧ st.heap.size ≤ t.heap.size ∧ ∀ q : Nat, q < base → t.heap[q]? = st.heap[q]?
/-- a method's contract: called with these, over these cells, it returns, and Q holds -/
def xC (d : Nat) (M : xM) (args : List Value) (h : xH) (mc ms : Nat) (Q : Option Value → xH → Prop) : Prop :=
  ∀ (l : Launch) (b base : Nat) (yI yP : ClassId) (D : va_G), Met l M.1 (.code M.1 M.2.1 M.2.2.1 M.2.2.2.1 :: xBW) { frames := d, cells := mc, slots := ms, locals := 46 * d } (xPc b base yI yP D args h) (xQc b base yI yP D Q) mc ms (xAd base)
theorem xA.mono {X : Option (Nat × (Nat → Int32))} {d : Nat} {M : xM} {c n mc ms pc : Nat} {L : List (Option Value)} {st : List Value} {h : xH} {Q Q' : Option Value → xH → Prop} (k : xA X d M c n mc ms pc L st h Q) (hq : ∀ r h', Q r h' → Q' r h') : xA X d M c n mc ms pc L st h Q' := by
  intro p l e R s m args below meth cd Z b base yI yP D cx
  exact k p l e R s m args below meth cd Z b base yI yP D ⟨cx.1, cx.2.1, cx.2.2.1, cx.2.2.2.1, cx.2.2.2.2.1, cx.2.2.2.2.2.1, fun pc ls i st r h H locs a1 a2 a3 => cx.2.2.2.2.2.2 pc ls i st r h H locs a1 a2 (hq _ _ a3)⟩
theorem xC.mono {d : Nat} {M : xM} {args : List Value} {h : xH} {mc ms : Nat} {Q Q' : Option Value → xH → Prop} (k : xC d M args h mc ms Q) (hq : ∀ r h', Q r h' → Q' r h') : xC d M args h mc ms Q' := by
  intro l b base yI yP D
  refine MetFree.mono (k l b base yI yP D) (fun _ _ z => z) (fun _ _ _ _ _ _ => trivial) ?_
  rintro a s o s' - ⟨⟨r, h', h1, h2, h3⟩, hl⟩
  exact ⟨⟨r, h', h1, hq _ _ h2, h3⟩, hl⟩
/-! what the tables say of a class -/
def xtyB : Nat → FieldType → Bool
  | 0, .int => true
  | 1, .long => true
  | 2, .object _ => true
  | 2, .array _ => true
  | 3, .boolean => true
  | _, _ => false
def xLay (ci : Nat) (C : String) (T : u_T) (N : Nat) : Prop := (∀ w ∈ u_ws C T N, w ∈ xBW) ∧ (∀ a, a < N → ∀ b, b < N → a ≠ b → (T a).2.1 ≠ (T b).2.1) ∧ N = xnf ci ∧ ∃ ty : Nat → FieldType, (∀ k, k < N → parseFieldDescriptor (T k).2.2.1 = some (ty k)) ∧ ∀ k, k < N → xtyB (xkind ci k) (ty k) = true
def xinB (ws : List Cond) : Bool := ws.all (fun w => decide (w ∈ lw_tbl) && goodWord w)
theorem xinB_of {ws : List Cond} (h : xinB ws = true) : ∀ w ∈ ws, w ∈ xBW := by
  intro w hw
  have h1 := List.all_eq_true.mp h w hw
  simp only [Bool.and_eq_true, decide_eq_true_eq] at h1
  exact xBW_of h1
theorem xlay0 : xLay 0 RX0 TX0 2 := ⟨xinB_of (by decide +kernel), nmX0, by decide +kernel, tyX0, tyX0_ok, by decide +kernel⟩
theorem xlay1 : xLay 1 RX1 TX1 8 := ⟨xinB_of (by decide +kernel), nmX1, by decide +kernel, tyX1, tyX1_ok, by decide +kernel⟩
theorem xlay2 : xLay 2 RX2 TX2 5 := ⟨xinB_of (by decide +kernel), nmX2, by decide +kernel, tyX2, tyX2_ok, by decide +kernel⟩
theorem xlay3 : xLay 3 RX3 TX3 4 := ⟨xinB_of (by decide +kernel), nmX3, by decide +kernel, tyX3, tyX3_ok, by decide +kernel⟩
theorem xlay4 : xLay 4 RX4 TX4 2 := ⟨xinB_of (by decide +kernel), nmX4, by decide +kernel, tyX4, tyX4_ok, by decide +kernel⟩
theorem xlay5 : xLay 5 RX5 TX5 2 := ⟨xinB_of (by decide +kernel), nmX5, by decide +kernel, tyX5, tyX5_ok, by decide +kernel⟩
theorem xlay6 : xLay 6 RX6 TX6 7 := ⟨xinB_of (by decide +kernel), nmX6, by decide +kernel, tyX6, tyX6_ok, by decide +kernel⟩
theorem xlay7 : xLay 7 RX7 TX7 4 := ⟨xinB_of (by decide +kernel), nmX7, by decide +kernel, tyX7, tyX7_ok, by decide +kernel⟩
theorem xlay8 : xLay 8 RX8 TX8 3 := ⟨xinB_of (by decide +kernel), nmX8, by decide +kernel, tyX8, tyX8_ok, by decide +kernel⟩
theorem xlay9 : xLay 9 RX9 TX9 13 := ⟨xinB_of (by decide +kernel), nmX9, by decide +kernel, tyX9, tyX9_ok, by decide +kernel⟩
theorem xlay {ci : Nat} {C : String} {T : u_T} {N : Nat} (h : vwCl[ci]? = some (C, T, N)) : xLay ci C T N := by
  match ci, h with
  | 0, h => cases h; exact xlay0
  | 1, h => cases h; exact xlay1
  | 2, h => cases h; exact xlay2
  | 3, h => cases h; exact xlay3
  | 4, h => cases h; exact xlay4
  | 5, h => cases h; exact xlay5
  | 6, h => cases h; exact xlay6
  | 7, h => cases h; exact xlay7
  | 8, h => cases h; exact xlay8
  | 9, h => cases h; exact xlay9
  | k + 11, h => simp [vwCl] at h
/-! pictures -/
theorem xws_get {base : Nat} {yI yP : ClassId} {h : xH} {k : Nat} {sh : xSh} (hk : h.1[k]? = some sh) : (xws base yI yP h)[k]? = some (base + k, xcell base yI yP h k sh) := by simp [xws, hk]
theorem xws_len (base : Nat) (yI yP : ClassId) (h : xH) : (xws base yI yP h).length = h.1.length := by simp [xws]
theorem xws_D (base : Nat) (yI yP : ClassId) (h : xH) : va_D (xAd base) (xws base yI yP h) := by
  have key : ∀ (k : Nat) (q : Nat × va_E), (xws base yI yP h)[k]? = some q → q.1 = base + k := by
    intro k q hq
    simp only [xws, List.getElem?_mapIdx, Option.map_eq_some_iff] at hq
    obtain ⟨sh, -, rfl⟩ := hq
    rfl
  refine ⟨fun i j p q hi hj hpq => ?_, fun k q hq => ?_⟩
  · have := key i p hi
    have := key j q hj
    omega
  · have := key k q hq
    show base ≤ q.1
    omega
theorem xws_set {base : Nat} {yI yP : ClassId} {h h' : xH} {k : Nat} {sh sh' : xSh} (hk : h.1[k]? = some sh) (h1 : h'.1 = h.1.set k sh') (hne : ∀ j, j ≠ k → ∀ z, xcell base yI yP h' j z = xcell base yI yP h j z) : xws base yI yP h' = (xws base yI yP h).set k (base + k, xcell base yI yP h' k sh') := by
  have hl : k < h.1.length := (List.getElem?_eq_some_iff.mp hk).1
  refine List.ext_getElem? fun j => ?_
  by_cases hj : j = k
  · subst hj
    rw [List.getElem?_set_self (by rw [xws_len]; exact hl)]
    exact xws_get (by rw [h1, List.getElem?_set_self hl])
  · rw [List.getElem?_set_ne (Ne.symm hj)]
    simp only [xws, List.getElem?_mapIdx, h1, List.getElem?_set_ne (Ne.symm hj)]
    cases h.1[j]? with
    | none => rfl
    | some z => simp [hne j hj z]
theorem x_setSelf {α : Type} {l : List α} {k : Nat} {x : α} (h : l[k]? = some x) : l = l.set k x := by
  refine List.ext_getElem? fun j => ?_
  by_cases hj : j = k
  · subst hj
    rw [List.getElem?_set_self (List.getElem?_eq_some_iff.mp h).1, h]
  · rw [List.getElem?_set_ne (Ne.symm hj)]
/-- the store, changed at one place -/
def xu (S : Nat → Nat → Int32) (a k : Nat) (v : Int32) : Nat → Nat → Int32 := fun j i => if j = a then (if i = k then v else S j i) else S j i
def xul (G : Nat → Nat → Int64) (a k : Nat) (v : Int64) : Nat → Nat → Int64 := fun j i => if j = a then (if i = k then v else G j i) else G j i
theorem xval_eq {base : Nat} {h h' : xH} {k c : Nat} {r : List (Option Nat)} {i : Nat} (h1 : h'.2.1 k i = h.2.1 k i) (h2 : h'.2.2 k i = h.2.2 k i) : xval base h' k c r i = xval base h k c r i := by unfold xval; rw [h1, h2]
theorem xcell_eq {base : Nat} {yI yP : ClassId} {h h' : xH} {k : Nat} (h1 : h'.2.1 k = h.2.1 k) (h2 : h'.2.2 k = h.2.2 k) (z : xSh) : xcell base yI yP h' k z = xcell base yI yP h k z := by
  rcases z with ⟨c, r⟩ | n | l
  · simp only [xcell]
    congr 2
    exact List.map_congr_left fun i _ => xval_eq (by rw [h1]) (by rw [h2])
  · simp only [xcell, h1]
  · rfl
/-- an object's fields when one is changed -/
theorem xfs_set {base : Nat} {h h' : xH} {a ci k : Nat} {r r' : List (Option Nat)} {v : Value} (hv : xval base h' a ci r' k = v) (hne : ∀ i, i ≠ k → xval base h' a ci r' i = xval base h a ci r i) :
    ((List.range (xnf ci)).map (xval base h a ci r)).set k v = (List.range (xnf ci)).map (xval base h' a ci r') := by
  refine List.ext_getElem? fun j => ?_
  by_cases hj : j = k
  · subst hj
    by_cases hl : j < xnf ci
    · rw [List.getElem?_set_self (by simpa using hl)]
      simp [hl, hv]
    · rw [List.getElem?_eq_none (by simpa using hl), List.getElem?_eq_none (by simpa using hl)]
  · rw [List.getElem?_set_ne (Ne.symm hj)]
    by_cases hl : j < xnf ci
    · simp [hl, hne j hj]
    · rw [List.getElem?_eq_none (by simpa using hl), List.getElem?_eq_none (by simpa using hl)]
end
section
section XR
variable {X : Option (Nat × (Nat → Int32))} {d : Nat} {M : xM} {c n mc ms pc q : Nat} {L : List (Option Value)} {st : List Value} {h : xH} {Q : Option Value → xH → Prop}
theorem xCx.ex {p : Program} {l : Launch} {e : Env} {R : Room} {s : State} {m : MethodId} {args : Array Value} {below : List Frame} {meth : Method} {cd : Code} {Z : State → Prop} {b base : Nat} {yI yP : ClassId} {D : va_G} (cx : xCx X d M mc ms Q p l e R s m args below meth cd Z b base yI yP D) : p.tables.exec = Jvm.exec := cx.1.1
theorem xCx.co {p : Program} {l : Launch} {e : Env} {R : Room} {s : State} {m : MethodId} {args : Array Value} {below : List Frame} {meth : Method} {cd : Code} {Z : State → Prop} {b base : Nat} {yI yP : ClassId} {D : va_G} (cx : xCx X d M mc ms Q p l e R s m args below meth cd Z b base yI yP D) : cd.code = M.2.1 := cx.1.2.1
theorem xCx.de {p : Program} {l : Launch} {e : Env} {R : Room} {s : State} {m : MethodId} {args : Array Value} {below : List Frame} {meth : Method} {cd : Code} {Z : State → Prop} {b base : Nat} {yI yP : ClassId} {D : va_G} (cx : xCx X d M mc ms Q p l e R s m args below meth cd Z b base yI yP D) {i : Instr} {k pc : Nat} (h : xfetch M pc = some (i, k)) : decode M.2.1 pc = .ok (i, k) := cx.2.2.1.2 pc i k h
theorem xCx.ow {p : Program} {l : Launch} {e : Env} {R : Room} {s : State} {m : MethodId} {args : Array Value} {below : List Frame} {meth : Method} {cd : Code} {Z : State → Prop} {b base : Nat} {yI yP : ClassId} {D : va_G} (cx : xCx X d M mc ms Q p l e R s m args below meth cd Z b base yI yP D) : s.vm.findClass M.1.cls = some m.cls := cx.1.2.2.2
theorem xCx.ts {p : Program} {l : Launch} {e : Env} {R : Room} {s : State} {m : MethodId} {args : Array Value} {below : List Frame} {meth : Method} {cd : Code} {Z : State → Prop} {b base : Nat} {yI yP : ClassId} {D : va_G} (cx : xCx X d M mc ms Q p l e R s m args below meth cd Z b base yI yP D) : ∀ w, w ∈ xBW → w.before args s = true := cx.2.1.1
theorem xA.iadd {x y : Int32} (hd : xfetch M pc = some (.iadd, 1)) (hq : pc + 1 = q) (k : xA X d M c n mc ms q L (.int (x + y) :: st) h Q) : xA X d M c n mc ms pc L (.int y :: .int x :: st) h Q := by
  subst hq
  intro p l e R s m args below meth cd Z b base yI yP D cx H locs ls hW hS hL
  exact lv_iadd cx.ex cx.co (cx.de hd) (k p l e R s m args below meth cd Z b base yI yP D cx H locs ls hW hS hL)
theorem xA.isub {x y : Int32} (hd : xfetch M pc = some (.isub, 1)) (hq : pc + 1 = q) (k : xA X d M c n mc ms q L (.int (x - y) :: st) h Q) : xA X d M c n mc ms pc L (.int y :: .int x :: st) h Q := by
  subst hq
  intro p l e R s m args below meth cd Z b base yI yP D cx H locs ls hW hS hL
  exact lv_isub cx.ex cx.co (cx.de hd) (k p l e R s m args below meth cd Z b base yI yP D cx H locs ls hW hS hL)
theorem xA.imul {x y : Int32} (hd : xfetch M pc = some (.imul, 1)) (hq : pc + 1 = q) (k : xA X d M c n mc ms q L (.int (x * y) :: st) h Q) : xA X d M c n mc ms pc L (.int y :: .int x :: st) h Q := by
  subst hq
  intro p l e R s m args below meth cd Z b base yI yP D cx H locs ls hW hS hL
  exact lv_imul cx.ex cx.co (cx.de hd) (k p l e R s m args below meth cd Z b base yI yP D cx H locs ls hW hS hL)
theorem xA.iand {x y : Int32} (hd : xfetch M pc = some (.iand, 1)) (hq : pc + 1 = q) (k : xA X d M c n mc ms q L (.int (x &&& y) :: st) h Q) : xA X d M c n mc ms pc L (.int y :: .int x :: st) h Q := by
  subst hq
  intro p l e R s m args below meth cd Z b base yI yP D cx H locs ls hW hS hL
  exact lv_iand cx.ex cx.co (cx.de hd) (k p l e R s m args below meth cd Z b base yI yP D cx H locs ls hW hS hL)
theorem xA.ior {x y : Int32} (hd : xfetch M pc = some (.ior, 1)) (hq : pc + 1 = q) (k : xA X d M c n mc ms q L (.int (x ||| y) :: st) h Q) : xA X d M c n mc ms pc L (.int y :: .int x :: st) h Q := by
  subst hq
  intro p l e R s m args below meth cd Z b base yI yP D cx H locs ls hW hS hL
  exact lv_ior cx.ex cx.co (cx.de hd) (k p l e R s m args below meth cd Z b base yI yP D cx H locs ls hW hS hL)
theorem xA.ixor {x y : Int32} (hd : xfetch M pc = some (.ixor, 1)) (hq : pc + 1 = q) (k : xA X d M c n mc ms q L (.int (x ^^^ y) :: st) h Q) : xA X d M c n mc ms pc L (.int y :: .int x :: st) h Q := by
  subst hq
  intro p l e R s m args below meth cd Z b base yI yP D cx H locs ls hW hS hL
  exact lv_ixor cx.ex cx.co (cx.de hd) (k p l e R s m args below meth cd Z b base yI yP D cx H locs ls hW hS hL)
theorem xA.ishl {x y : Int32} (hd : xfetch M pc = some (.ishl, 1)) (hq : pc + 1 = q) (k : xA X d M c n mc ms q L (.int (x <<< (y &&& 31)) :: st) h Q) : xA X d M c n mc ms pc L (.int y :: .int x :: st) h Q := by
  subst hq
  intro p l e R s m args below meth cd Z b base yI yP D cx H locs ls hW hS hL
  exact lv_ishl cx.ex cx.co (cx.de hd) (k p l e R s m args below meth cd Z b base yI yP D cx H locs ls hW hS hL)
theorem xA.ishr {x y : Int32} (hd : xfetch M pc = some (.ishr, 1)) (hq : pc + 1 = q) (k : xA X d M c n mc ms q L (.int (x >>> (y &&& 31)) :: st) h Q) : xA X d M c n mc ms pc L (.int y :: .int x :: st) h Q := by
  subst hq
  intro p l e R s m args below meth cd Z b base yI yP D cx H locs ls hW hS hL
  exact lv_ishr cx.ex cx.co (cx.de hd) (k p l e R s m args below meth cd Z b base yI yP D cx H locs ls hW hS hL)
theorem xA.ladd {x y : Int64} (hd : xfetch M pc = some (.ladd, 1)) (hq : pc + 1 = q) (k : xA X d M c n mc ms q L (.long (x + y) :: st) h Q) : xA X d M c n mc ms pc L (.long y :: .long x :: st) h Q := by
  subst hq
  intro p l e R s m args below meth cd Z b base yI yP D cx H locs ls hW hS hL
  exact lv_ladd cx.ex cx.co (cx.de hd) (k p l e R s m args below meth cd Z b base yI yP D cx H locs ls hW hS hL)
theorem xA.lmul {x y : Int64} (hd : xfetch M pc = some (.lmul, 1)) (hq : pc + 1 = q) (k : xA X d M c n mc ms q L (.long (x * y) :: st) h Q) : xA X d M c n mc ms pc L (.long y :: .long x :: st) h Q := by
  subst hq
  intro p l e R s m args below meth cd Z b base yI yP D cx H locs ls hW hS hL
  exact lv_lmul cx.ex cx.co (cx.de hd) (k p l e R s m args below meth cd Z b base yI yP D cx H locs ls hW hS hL)
theorem xA.land {x y : Int64} (hd : xfetch M pc = some (.land, 1)) (hq : pc + 1 = q) (k : xA X d M c n mc ms q L (.long (x &&& y) :: st) h Q) : xA X d M c n mc ms pc L (.long y :: .long x :: st) h Q := by
  subst hq
  intro p l e R s m args below meth cd Z b base yI yP D cx H locs ls hW hS hL
  exact lv_land cx.ex cx.co (cx.de hd) (k p l e R s m args below meth cd Z b base yI yP D cx H locs ls hW hS hL)
theorem xA.lor {x y : Int64} (hd : xfetch M pc = some (.lor, 1)) (hq : pc + 1 = q) (k : xA X d M c n mc ms q L (.long (x ||| y) :: st) h Q) : xA X d M c n mc ms pc L (.long y :: .long x :: st) h Q := by
  subst hq
  intro p l e R s m args below meth cd Z b base yI yP D cx H locs ls hW hS hL
  exact lv_lor cx.ex cx.co (cx.de hd) (k p l e R s m args below meth cd Z b base yI yP D cx H locs ls hW hS hL)
theorem xA.ineg {x : Int32} (hd : xfetch M pc = some (.ineg, 1)) (hq : pc + 1 = q) (k : xA X d M c n mc ms q L (.int (-x) :: st) h Q) : xA X d M c n mc ms pc L (.int x :: st) h Q := by
  subst hq
  intro p l e R s m args below meth cd Z b base yI yP D cx H locs ls hW hS hL
  exact lv_ineg cx.ex cx.co (cx.de hd) (k p l e R s m args below meth cd Z b base yI yP D cx H locs ls hW hS hL)
theorem xA.idiv {x y : Int32} (hd : xfetch M pc = some (.idiv, 1)) (hne : ¬ y = 0) (hq : pc + 1 = q) (k : xA X d M c n mc ms q L (.int (x / y) :: st) h Q) : xA X d M c n mc ms pc L (.int y :: .int x :: st) h Q := by
  subst hq
  intro p l e R s m args below meth cd Z b base yI yP D cx H locs ls hW hS hL
  exact lv_idiv cx.ex cx.co (cx.de hd) hne (k p l e R s m args below meth cd Z b base yI yP D cx H locs ls hW hS hL)
theorem xA.irem {x y : Int32} (hd : xfetch M pc = some (.irem, 1)) (hne : ¬ y = 0) (hq : pc + 1 = q) (k : xA X d M c n mc ms q L (.int (x - x / y * y) :: st) h Q) : xA X d M c n mc ms pc L (.int y :: .int x :: st) h Q := by
  subst hq
  intro p l e R s m args below meth cd Z b base yI yP D cx H locs ls hW hS hL
  exact lv_irem cx.ex cx.co (cx.de hd) hne (k p l e R s m args below meth cd Z b base yI yP D cx H locs ls hW hS hL)
theorem xA.i2l {x : Int32} (hd : xfetch M pc = some (.i2l, 1)) (hq : pc + 1 = q) (k : xA X d M c n mc ms q L (.long x.toInt64 :: st) h Q) : xA X d M c n mc ms pc L (.int x :: st) h Q := by
  subst hq
  intro p l e R s m args below meth cd Z b base yI yP D cx H locs ls hW hS hL
  exact lv_i2l cx.ex cx.co (cx.de hd) rfl (k p l e R s m args below meth cd Z b base yI yP D cx H locs ls hW hS hL)
theorem xA.l2i {x : Int64} (hd : xfetch M pc = some (.l2i, 1)) (hq : pc + 1 = q) (k : xA X d M c n mc ms q L (.int x.toInt32 :: st) h Q) : xA X d M c n mc ms pc L (.long x :: st) h Q := by
  subst hq
  intro p l e R s m args below meth cd Z b base yI yP D cx H locs ls hW hS hL
  exact lv_l2i cx.ex cx.co (cx.de hd) rfl (k p l e R s m args below meth cd Z b base yI yP D cx H locs ls hW hS hL)
theorem xA.lshl {x : Int64} {y : Int32} (hd : xfetch M pc = some (.lshl, 1)) (hq : pc + 1 = q) (k : xA X d M c n mc ms q L (.long (x <<< (y.toInt64 &&& 63)) :: st) h Q) : xA X d M c n mc ms pc L (.int y :: .long x :: st) h Q := by
  subst hq
  intro p l e R s m args below meth cd Z b base yI yP D cx H locs ls hW hS hL
  exact lv_lshl cx.ex cx.co (cx.de hd) rfl (k p l e R s m args below meth cd Z b base yI yP D cx H locs ls hW hS hL)
theorem xA.lushr {x : Int64} {y : Int32} (hd : xfetch M pc = some (.lushr, 1)) (hq : pc + 1 = q) (k : xA X d M c n mc ms q L (.long (x.toUInt64 >>> (y.toInt64.toUInt64 &&& Int64.toUInt64 63)).toInt64 :: st) h Q) : xA X d M c n mc ms pc L (.int y :: .long x :: st) h Q := by
  subst hq
  intro p l e R s m args below meth cd Z b base yI yP D cx H locs ls hW hS hL
  exact lv_lushr cx.ex cx.co (cx.de hd) rfl (k p l e R s m args below meth cd Z b base yI yP D cx H locs ls hW hS hL)
theorem xA.lcmp {x y : Int64} (hd : xfetch M pc = some (.lcmp, 1)) (hq : pc + 1 = q) (k : xA X d M c n mc ms q L (.int (lg_cmp x y) :: st) h Q) : xA X d M c n mc ms pc L (.long y :: .long x :: st) h Q := by
  subst hq
  intro p l e R s m args below meth cd Z b base yI yP D cx H locs ls hW hS hL
  exact W.lcmp cx.ex cx.co (cx.de hd) (k p l e R s m args below meth cd Z b base yI yP D cx H locs ls hW hS hL)
theorem xA.iconst {z : Int} {v : Int32} (hd : xfetch M pc = some (.iconst z, 1)) (hv : Int32.ofInt z = v) (hq : pc + 1 = q) (k : xA X d M c n mc ms q L (.int v :: st) h Q) : xA X d M c n mc ms pc L (st) h Q := by
  subst hq
  intro p l e R s m args below meth cd Z b base yI yP D cx H locs ls hW hS hL
  exact lv_iconst cx.ex cx.co (cx.de hd) hv (k p l e R s m args below meth cd Z b base yI yP D cx H locs ls hW hS hL)
theorem xA.bipush {z : Int} {v : Int32} (hd : xfetch M pc = some (.bipush z, 2)) (hv : (Int8.ofInt z).toInt32 = v) (hq : pc + 2 = q) (k : xA X d M c n mc ms q L (.int v :: st) h Q) : xA X d M c n mc ms pc L (st) h Q := by
  subst hq
  intro p l e R s m args below meth cd Z b base yI yP D cx H locs ls hW hS hL
  exact lv_bipush cx.ex cx.co (cx.de hd) hv (k p l e R s m args below meth cd Z b base yI yP D cx H locs ls hW hS hL)
theorem xA.sipush {z : Int} {v : Int32} (hd : xfetch M pc = some (.sipush z, 3)) (hv : (Int16.ofInt z).toInt32 = v) (hq : pc + 3 = q) (k : xA X d M c n mc ms q L (.int v :: st) h Q) : xA X d M c n mc ms pc L (st) h Q := by
  subst hq
  intro p l e R s m args below meth cd Z b base yI yP D cx H locs ls hW hS hL
  exact lv_sipush cx.ex cx.co (cx.de hd) hv (k p l e R s m args below meth cd Z b base yI yP D cx H locs ls hW hS hL)
theorem xA.lconst {z : Fin 2} {v : Int64} (hd : xfetch M pc = some (.lconst z, 1)) (hv : Int64.ofNat (z : Nat) = v) (hq : pc + 1 = q) (k : xA X d M c n mc ms q L (.long v :: st) h Q) : xA X d M c n mc ms pc L (st) h Q := by
  subst hq
  intro p l e R s m args below meth cd Z b base yI yP D cx H locs ls hW hS hL
  exact lv_lconst cx.ex cx.co (cx.de hd) hv (k p l e R s m args below meth cd Z b base yI yP D cx H locs ls hW hS hL)
theorem xA.null (hd : xfetch M pc = some (.aconst_null, 1)) (hq : pc + 1 = q) (k : xA X d M c n mc ms q L (.null :: st) h Q) : xA X d M c n mc ms pc L (st) h Q := by
  subst hq
  intro p l e R s m args below meth cd Z b base yI yP D cx H locs ls hW hS hL
  exact lv_null cx.ex cx.co (cx.de hd) (k p l e R s m args below meth cd Z b base yI yP D cx H locs ls hW hS hL)
theorem xA.dup {v : Value} (hd : xfetch M pc = some (.dup, 1)) (hv : v.category = 1) (hq : pc + 1 = q) (k : xA X d M c n mc ms q L (v :: v :: st) h Q) : xA X d M c n mc ms pc L (v :: st) h Q := by
  subst hq
  intro p l e R s m args below meth cd Z b base yI yP D cx H locs ls hW hS hL
  exact lv_dup cx.ex cx.co (cx.de hd) (by rw [xe_cat]; exact hv) (k p l e R s m args below meth cd Z b base yI yP D cx H locs ls hW hS hL)
theorem xA.dup2 {v w : Value} (hd : xfetch M pc = some (.dup2, 1)) (hv : v.category = 1) (hw : w.category = 1) (hq : pc + 1 = q) (k : xA X d M c n mc ms q L (v :: w :: v :: w :: st) h Q) : xA X d M c n mc ms pc L (v :: w :: st) h Q := by
  subst hq
  intro p l e R s m args below meth cd Z b base yI yP D cx H locs ls hW hS hL
  exact lv_dup2_11 cx.ex cx.co (cx.de hd) (by rw [xe_cat]; exact hv) (by rw [xe_cat]; exact hw) (k p l e R s m args below meth cd Z b base yI yP D cx H locs ls hW hS hL)
theorem xA.pop {v : Value} (hd : xfetch M pc = some (.pop, 1)) (hv : v.category = 1) (hq : pc + 1 = q) (k : xA X d M c n mc ms q L (st) h Q) : xA X d M c n mc ms pc L (v :: st) h Q := by
  subst hq
  intro p l e R s m args below meth cd Z b base yI yP D cx H locs ls hW hS hL
  exact lv_pop cx.ex cx.co (cx.de hd) (by rw [xe_cat]; exact hv) (k p l e R s m args below meth cd Z b base yI yP D cx H locs ls hW hS hL)
theorem xA.iload {i : Nat} {x : Int32} (hd : xfetch M pc = some (.iload i, 2)) (hl : L[i]? = some (some (.int x))) (hq : pc + 2 = q) (k : xA X d M c n mc ms q L (.int x :: st) h Q) : xA X d M c n mc ms pc L (st) h Q := by
  subst hq
  intro p l e R s m args below meth cd Z b base yI yP D cx H locs ls hW hS hL
  exact lv_iload cx.ex cx.co (cx.de hd) (hL.2.2 _ _ hl) (k p l e R s m args below meth cd Z b base yI yP D cx H locs ls hW hS hL)
theorem xA.iload_n {k : Fin 4} {i : Nat} {x : Int32} (hd : xfetch M pc = some (.iload_n k, 1)) (hi : (k : Nat) = i) (hl : L[i]? = some (some (.int x))) (hq : pc + 1 = q) (k : xA X d M c n mc ms q L (.int x :: st) h Q) : xA X d M c n mc ms pc L (st) h Q := by
  subst hq
  intro p l e R s m args below meth cd Z b base yI yP D cx H locs ls hW hS hL
  exact lv_iload_n cx.ex cx.co (cx.de hd) hi (hL.2.2 _ _ hl) (k p l e R s m args below meth cd Z b base yI yP D cx H locs ls hW hS hL)
theorem xA.lload {i : Nat} {x : Int64} (hd : xfetch M pc = some (.lload i, 2)) (hl : L[i]? = some (some (.long x))) (hq : pc + 2 = q) (k : xA X d M c n mc ms q L (.long x :: st) h Q) : xA X d M c n mc ms pc L (st) h Q := by
  subst hq
  intro p l e R s m args below meth cd Z b base yI yP D cx H locs ls hW hS hL
  exact lv_lload cx.ex cx.co (cx.de hd) (hL.2.2 _ _ hl) (k p l e R s m args below meth cd Z b base yI yP D cx H locs ls hW hS hL)
theorem xA.lload_n {k : Fin 4} {i : Nat} {x : Int64} (hd : xfetch M pc = some (.lload_n k, 1)) (hi : (k : Nat) = i) (hl : L[i]? = some (some (.long x))) (hq : pc + 1 = q) (k : xA X d M c n mc ms q L (.long x :: st) h Q) : xA X d M c n mc ms pc L (st) h Q := by
  subst hq
  intro p l e R s m args below meth cd Z b base yI yP D cx H locs ls hW hS hL
  exact lv_lload_n cx.ex cx.co (cx.de hd) hi (hL.2.2 _ _ hl) (k p l e R s m args below meth cd Z b base yI yP D cx H locs ls hW hS hL)
theorem xA.aload {i : Nat} {x : Nat} (hd : xfetch M pc = some (.aload i, 2)) (hl : L[i]? = some (some (.ref x))) (hq : pc + 2 = q) (k : xA X d M c n mc ms q L (.ref x :: st) h Q) : xA X d M c n mc ms pc L (st) h Q := by
  subst hq
  intro p l e R s m args below meth cd Z b base yI yP D cx H locs ls hW hS hL
  exact lv_aload cx.ex cx.co (cx.de hd) (hL.2.2 _ _ hl) (k p l e R s m args below meth cd Z b base yI yP D cx H locs ls hW hS hL)
theorem xA.aload_n {k : Fin 4} {i : Nat} {x : Nat} (hd : xfetch M pc = some (.aload_n k, 1)) (hi : (k : Nat) = i) (hl : L[i]? = some (some (.ref x))) (hq : pc + 1 = q) (k : xA X d M c n mc ms q L (.ref x :: st) h Q) : xA X d M c n mc ms pc L (st) h Q := by
  subst hq
  intro p l e R s m args below meth cd Z b base yI yP D cx H locs ls hW hS hL
  exact lv_aload_n cx.ex cx.co (cx.de hd) hi (hL.2.2 _ _ hl) (k p l e R s m args below meth cd Z b base yI yP D cx H locs ls hW hS hL)
theorem xA.aloadX {i : Nat} {x : Nat} (hd : xfetch M pc = some (.aload i, 2)) (hl : L[i]? = some (some (.retAddr x))) (hq : pc + 2 = q) (k : xA X d M c n mc ms q L (.retAddr x :: st) h Q) : xA X d M c n mc ms pc L (st) h Q := by
  subst hq
  intro p l e R s m args below meth cd Z b base yI yP D cx H locs ls hW hS hL
  exact lv_aload cx.ex cx.co (cx.de hd) (hL.2.2 _ _ hl) (k p l e R s m args below meth cd Z b base yI yP D cx H locs ls hW hS hL)
theorem xA.aloadX_n {k : Fin 4} {i : Nat} {x : Nat} (hd : xfetch M pc = some (.aload_n k, 1)) (hi : (k : Nat) = i) (hl : L[i]? = some (some (.retAddr x))) (hq : pc + 1 = q) (k : xA X d M c n mc ms q L (.retAddr x :: st) h Q) : xA X d M c n mc ms pc L (st) h Q := by
  subst hq
  intro p l e R s m args below meth cd Z b base yI yP D cx H locs ls hW hS hL
  exact lv_aload_n cx.ex cx.co (cx.de hd) hi (hL.2.2 _ _ hl) (k p l e R s m args below meth cd Z b base yI yP D cx H locs ls hW hS hL)
theorem xA.aloadN {i : Nat} (hd : xfetch M pc = some (.aload i, 2)) (hl : L[i]? = some (some .null)) (hq : pc + 2 = q) (k : xA X d M c n mc ms q L (.null :: st) h Q) : xA X d M c n mc ms pc L (st) h Q := by
  subst hq
  intro p l e R s m args below meth cd Z b base yI yP D cx H locs ls hW hS hL
  exact lv_aloadN cx.ex cx.co (cx.de hd) (hL.2.2 _ _ hl) (k p l e R s m args below meth cd Z b base yI yP D cx H locs ls hW hS hL)
theorem xA.aloadN_n {k : Fin 4} {i : Nat} (hd : xfetch M pc = some (.aload_n k, 1)) (hi : (k : Nat) = i) (hl : L[i]? = some (some .null)) (hq : pc + 1 = q) (k : xA X d M c n mc ms q L (.null :: st) h Q) : xA X d M c n mc ms pc L (st) h Q := by
  subst hq
  intro p l e R s m args below meth cd Z b base yI yP D cx H locs ls hW hS hL
  exact lv_aload_nN cx.ex cx.co (cx.de hd) hi (hL.2.2 _ _ hl) (k p l e R s m args below meth cd Z b base yI yP D cx H locs ls hW hS hL)
/-- the locals behind a store of one slot, of two -/
def xst1 (L : List (Option Value)) (i : Nat) (v : Value) : List (Option Value) := (match i with
  | 0 => L
  | j + 1 => match L[j]? with
    | some (some w) => if w.category = 2 then L.set j none else L
    | _ => L).set i (some v)
def xst2 (L : List (Option Value)) (i : Nat) (v : Value) : List (Option Value) := ((match i with
  | 0 => L
  | j + 1 => match L[j]? with
    | some (some w) => if w.category = 2 then L.set j none else L
    | _ => L).set i (some v)).set (i + 1) none
/-- the held locals, as the kit lists them -/
def xlv (b base : Nat) (L : List (Option Value)) : List (Nat × Value) := (List.range L.length).filterMap (fun i => match L[i]? with
  | some (some v) => some (i, xe b base v)
  | _ => none)
theorem xlv_has {b base : Nat} {ls : Array Slot} {L : List (Option Value)} (h : xLs b base ls L) : lv_has ls L.length (xlv b base L) := by
  refine ⟨h.1, h.2.1, fun q hq => ?_⟩
  obtain ⟨i, -, hi⟩ := List.mem_filterMap.mp hq
  revert hi
  cases hL : L[i]? with
  | none => intro hi; cases hi
  | some o =>
    cases o with
    | none => intro hi; cases hi
    | some v =>
      intro hi
      cases hi
      exact h.2.2 i v hL
theorem xlv_mem {b base : Nat} {L : List (Option Value)} {i : Nat} {v : Value} (h : L[i]? = some (some v)) : (i, xe b base v) ∈ xlv b base L := by
  refine List.mem_filterMap.mpr ⟨i, List.mem_range.mpr (List.getElem?_eq_some_iff.mp h).1, ?_⟩
  simp only [h]
theorem xdrop_get {L : List (Option Value)} {i j : Nat} {w : Value} (h : (match i with
  | 0 => L
  | j + 1 => match L[j]? with
    | some (some w) => if w.category = 2 then L.set j none else L
    | _ => L)[j]? = some (some w)) : L[j]? = some (some w) ∧ ¬ (j + 1 = i ∧ w.category = 2) := by
  cases i with
  | zero => exact ⟨h, fun q => by omega⟩
  | succ i =>
    dsimp only at h
    cases hi : L[i]? with
    | none =>
      rw [hi] at h
      refine ⟨h, fun q => ?_⟩
      have : j = i := by omega
      subst this
      rw [hi] at h
      cases h
    | some o =>
      cases o with
      | none =>
        rw [hi] at h
        refine ⟨h, fun q => ?_⟩
        have : j = i := by omega
        subst this
        rw [hi] at h
        cases h
      | some v =>
        rw [hi] at h
        dsimp only at h
        by_cases hc : v.category = 2
        · rw [if_pos hc] at h
          by_cases hj : j = i
          · subst hj
            rw [List.getElem?_set_self (List.getElem?_eq_some_iff.mp hi).1] at h
            cases h
          · rw [List.getElem?_set_ne (Ne.symm hj)] at h
            exact ⟨h, fun q => hj (by omega)⟩
        · rw [if_neg hc] at h
          refine ⟨h, fun q => ?_⟩
          have : j = i := by omega
          subst this
          rw [hi] at h
          cases h
          exact hc q.2
theorem xdrop_len {L : List (Option Value)} {i : Nat} : (match i with
  | 0 => L
  | j + 1 => match L[j]? with
    | some (some w) => if w.category = 2 then L.set j none else L
    | _ => L).length = L.length := by
  cases i with
  | zero => rfl
  | succ i =>
    dsimp only
    split
    · split <;> simp
    · rfl
theorem xst1_ok {b base : Nat} {ls : Array Slot} {L : List (Option Value)} {i : Nat} {v : Value} (hlv : lv_has ls L.length ((i, xe b base v) :: (xlv b base L).filter (fun q => !(q.1 == i) && !(q.1 + 1 == i && q.2.category == 2)))) : xLs b base ls (xst1 L i v) := by
  refine ⟨by rw [hlv.1]; unfold xst1; rw [List.length_set]; exact xdrop_len.symm, hlv.2.1, fun j w hj => ?_⟩
  unfold xst1 at hj
  by_cases hji : j = i
  · subst hji
    have hl : j < (xst1 L j v).length := by
      have := (List.getElem?_eq_some_iff.mp hj).1
      exact this
    rw [List.getElem?_set_self (by unfold xst1 at hl; rwa [List.length_set] at hl)] at hj
    cases hj
    exact hlv.2.2 _ List.mem_cons_self
  · rw [List.getElem?_set_ne (Ne.symm hji)] at hj
    obtain ⟨h1, h2⟩ := xdrop_get hj
    refine hlv.2.2 (j, xe b base w) (List.mem_cons_of_mem _ (List.mem_filter.mpr ⟨xlv_mem h1, ?_⟩))
    simp only [Bool.and_eq_true, Bool.not_eq_true', beq_eq_false_iff_ne, ne_eq, Bool.and_eq_false_iff, xe_cat]
    refine ⟨hji, ?_⟩
    by_cases hq : j + 1 = i
    · exact Or.inr fun z => h2 ⟨hq, z⟩
    · exact Or.inl hq
theorem xst2_ok {b base : Nat} {ls : Array Slot} {L : List (Option Value)} {i : Nat} {v : Value} (hlv : lv_has ls L.length ((i, xe b base v) :: (xlv b base L).filter (fun q => !(q.1 == i) && (!(q.1 == i + 1) && !(q.1 + 1 == i && q.2.category == 2))))) : xLs b base ls (xst2 L i v) := by
  refine ⟨by rw [hlv.1]; unfold xst2; rw [List.length_set, List.length_set]; exact xdrop_len.symm, hlv.2.1, fun j w hj => ?_⟩
  unfold xst2 at hj
  by_cases hji : j = i + 1
  · subst hji
    have hl := (List.getElem?_eq_some_iff.mp hj).1
    rw [List.length_set] at hl
    rw [List.getElem?_set_self hl] at hj
    cases hj
  rw [List.getElem?_set_ne (Ne.symm hji)] at hj
  by_cases hji2 : j = i
  · subst hji2
    have hl := (List.getElem?_eq_some_iff.mp hj).1
    rw [List.length_set] at hl
    rw [List.getElem?_set_self hl] at hj
    cases hj
    exact hlv.2.2 _ List.mem_cons_self
  · rw [List.getElem?_set_ne (Ne.symm hji2)] at hj
    obtain ⟨h1, h2⟩ := xdrop_get hj
    refine hlv.2.2 (j, xe b base w) (List.mem_cons_of_mem _ (List.mem_filter.mpr ⟨xlv_mem h1, ?_⟩))
    simp only [Bool.and_eq_true, Bool.not_eq_true', beq_eq_false_iff_ne, ne_eq, Bool.and_eq_false_iff, xe_cat]
    refine ⟨hji2, hji, ?_⟩
    by_cases hq : j + 1 = i
    · exact Or.inr fun z => h2 ⟨hq, z⟩
    · exact Or.inl hq
theorem xA.istore {i : Nat} {x : Int32} {L' : List (Option Value)} (hd : xfetch M pc = some (.istore i, 2)) (hi2 : i < L.length) (hl : xst1 L i (.int x) = L') (hq : pc + 2 = q) (k : xA X d M c n mc ms q L' st h Q) : xA X d M c n mc ms pc L (.int x :: st) h Q := by
  subst hq; subst hl
  intro p l e R s m args below meth cd Z b base yI yP D cx H locs ls hW hS hL
  exact lv_istore cx.ex cx.co (cx.de hd) (xlv_has hL) hi2 rfl fun ls' hl' => k p l e R s m args below meth cd Z b base yI yP D cx H locs ls' hW hS (xst1_ok hl')
theorem xA.istore_n {k : Fin 4} {i : Nat} {x : Int32} {L' : List (Option Value)} (hd : xfetch M pc = some (.istore_n k, 1)) (hi : (k : Nat) = i) (hi2 : i < L.length) (hl : xst1 L i (.int x) = L') (hq : pc + 1 = q) (k : xA X d M c n mc ms q L' st h Q) : xA X d M c n mc ms pc L (.int x :: st) h Q := by
  subst hq; subst hl
  intro p l e R s m args below meth cd Z b base yI yP D cx H locs ls hW hS hL
  exact lv_istore_n cx.ex cx.co (cx.de hd) hi (xlv_has hL) hi2 rfl fun ls' hl' => k p l e R s m args below meth cd Z b base yI yP D cx H locs ls' hW hS (xst1_ok hl')
theorem xA.lstore {i : Nat} {x : Int64} {L' : List (Option Value)} (hd : xfetch M pc = some (.lstore i, 2)) (hi2 : i + 1 < L.length) (hl : xst2 L i (.long x) = L') (hq : pc + 2 = q) (k : xA X d M c n mc ms q L' st h Q) : xA X d M c n mc ms pc L (.long x :: st) h Q := by
  subst hq; subst hl
  intro p l e R s m args below meth cd Z b base yI yP D cx H locs ls hW hS hL
  exact lv_lstore cx.ex cx.co (cx.de hd) (xlv_has hL) hi2 rfl fun ls' hl' => k p l e R s m args below meth cd Z b base yI yP D cx H locs ls' hW hS (xst2_ok hl')
theorem xA.lstore_n {k : Fin 4} {i : Nat} {x : Int64} {L' : List (Option Value)} (hd : xfetch M pc = some (.lstore_n k, 1)) (hi : (k : Nat) = i) (hi2 : i + 1 < L.length) (hl : xst2 L i (.long x) = L') (hq : pc + 1 = q) (k : xA X d M c n mc ms q L' st h Q) : xA X d M c n mc ms pc L (.long x :: st) h Q := by
  subst hq; subst hl
  intro p l e R s m args below meth cd Z b base yI yP D cx H locs ls hW hS hL
  exact lv_lstore_n cx.ex cx.co (cx.de hd) hi (xlv_has hL) hi2 rfl fun ls' hl' => k p l e R s m args below meth cd Z b base yI yP D cx H locs ls' hW hS (xst2_ok hl')
theorem xA.astore {i : Nat} {x : Nat} {L' : List (Option Value)} (hd : xfetch M pc = some (.astore i, 2)) (hi2 : i < L.length) (hl : xst1 L i (.ref x) = L') (hq : pc + 2 = q) (k : xA X d M c n mc ms q L' st h Q) : xA X d M c n mc ms pc L (.ref x :: st) h Q := by
  subst hq; subst hl
  intro p l e R s m args below meth cd Z b base yI yP D cx H locs ls hW hS hL
  exact lv_astore cx.ex cx.co (cx.de hd) (xlv_has hL) hi2 rfl fun ls' hl' => k p l e R s m args below meth cd Z b base yI yP D cx H locs ls' hW hS (xst1_ok hl')
theorem xA.astore_n {k : Fin 4} {i : Nat} {x : Nat} {L' : List (Option Value)} (hd : xfetch M pc = some (.astore_n k, 1)) (hi : (k : Nat) = i) (hi2 : i < L.length) (hl : xst1 L i (.ref x) = L') (hq : pc + 1 = q) (k : xA X d M c n mc ms q L' st h Q) : xA X d M c n mc ms pc L (.ref x :: st) h Q := by
  subst hq; subst hl
  intro p l e R s m args below meth cd Z b base yI yP D cx H locs ls hW hS hL
  exact lv_astore_n cx.ex cx.co (cx.de hd) hi (xlv_has hL) hi2 rfl fun ls' hl' => k p l e R s m args below meth cd Z b base yI yP D cx H locs ls' hW hS (xst1_ok hl')
theorem xA.astoreN {i : Nat} {L' : List (Option Value)} (hd : xfetch M pc = some (.astore i, 2)) (hi2 : i < L.length) (hl : xst1 L i .null = L') (hq : pc + 2 = q) (k : xA X d M c n mc ms q L' st h Q) : xA X d M c n mc ms pc L (.null :: st) h Q := by
  subst hq; subst hl
  intro p l e R s m args below meth cd Z b base yI yP D cx H locs ls hW hS hL
  exact lv_astoreN cx.ex cx.co (cx.de hd) (xlv_has hL) hi2 rfl fun ls' hl' => k p l e R s m args below meth cd Z b base yI yP D cx H locs ls' hW hS (xst1_ok hl')
theorem xA.astoreN_n {k : Fin 4} {i : Nat} {L' : List (Option Value)} (hd : xfetch M pc = some (.astore_n k, 1)) (hi : (k : Nat) = i) (hi2 : i < L.length) (hl : xst1 L i .null = L') (hq : pc + 1 = q) (k : xA X d M c n mc ms q L' st h Q) : xA X d M c n mc ms pc L (.null :: st) h Q := by
  subst hq; subst hl
  intro p l e R s m args below meth cd Z b base yI yP D cx H locs ls hW hS hL
  exact lv_astore_nN cx.ex cx.co (cx.de hd) hi (xlv_has hL) hi2 rfl fun ls' hl' => k p l e R s m args below meth cd Z b base yI yP D cx H locs ls' hW hS (xst1_ok hl')
theorem xA.iinc {i : Nat} {z : Int} {x v : Int32} {L' : List (Option Value)} (hd : xfetch M pc = some (.iinc i z, 3)) (hx : L[i]? = some (some (.int x))) (hv : x + Int32.ofInt z = v) (hl : xst1 L i (.int v) = L') (hq : pc + 3 = q) (k : xA X d M c n mc ms q L' st h Q) : xA X d M c n mc ms pc L st h Q := by
  subst hq; subst hl
  intro p l e R s m args below meth cd Z b base yI yP D cx H locs ls hW hS hL
  obtain ⟨j, hj⟩ := List.getElem?_of_mem (xlv_mem (b := b) (base := base) hx)
  exact lv_iinc cx.ex cx.co (cx.de hd) (xlv_has hL) hj hv (List.getElem?_eq_some_iff.mp hx).1 rfl fun ls' hl' => k p l e R s m args below meth cd Z b base yI yP D cx H locs ls' hW hS (xst1_ok hl')
theorem xA.icmp_eq {x y : Int32} {off : Int} {tgt : Nat} (hd : xfetch M pc = some (.if_icmp .eq off, 3)) (ht : (pc : Int) + off = (tgt : Int)) (hq : pc + 3 = q) (kt : x = y → xA X d M c n mc ms tgt L st h Q) (kf : ¬ x = y → xA X d M c n mc ms q L st h Q) : xA X d M c n mc ms pc L (.int y :: .int x :: st) h Q := by
  subst hq
  intro p l e R s m args below meth cd Z b base yI yP D cx H locs ls hW hS hL
  exact lv_icmp_eq cx.ex cx.co (cx.de hd) ht (fun z => kt z p l e R s m args below meth cd Z b base yI yP D cx H locs ls hW hS hL) (fun z => kf z p l e R s m args below meth cd Z b base yI yP D cx H locs ls hW hS hL)
theorem xA.icmp_ne {x y : Int32} {off : Int} {tgt : Nat} (hd : xfetch M pc = some (.if_icmp .ne off, 3)) (ht : (pc : Int) + off = (tgt : Int)) (hq : pc + 3 = q) (kt : ¬ x = y → xA X d M c n mc ms tgt L st h Q) (kf : x = y → xA X d M c n mc ms q L st h Q) : xA X d M c n mc ms pc L (.int y :: .int x :: st) h Q := by
  subst hq
  intro p l e R s m args below meth cd Z b base yI yP D cx H locs ls hW hS hL
  exact lv_icmp_ne cx.ex cx.co (cx.de hd) ht (fun z => kt z p l e R s m args below meth cd Z b base yI yP D cx H locs ls hW hS hL) (fun z => kf z p l e R s m args below meth cd Z b base yI yP D cx H locs ls hW hS hL)
theorem xA.icmp_lt {x y : Int32} {off : Int} {tgt : Nat} (hd : xfetch M pc = some (.if_icmp .lt off, 3)) (ht : (pc : Int) + off = (tgt : Int)) (hq : pc + 3 = q) (kt : x < y → xA X d M c n mc ms tgt L st h Q) (kf : ¬ x < y → xA X d M c n mc ms q L st h Q) : xA X d M c n mc ms pc L (.int y :: .int x :: st) h Q := by
  subst hq
  intro p l e R s m args below meth cd Z b base yI yP D cx H locs ls hW hS hL
  exact lv_icmp_lt cx.ex cx.co (cx.de hd) ht (fun z => kt z p l e R s m args below meth cd Z b base yI yP D cx H locs ls hW hS hL) (fun z => kf z p l e R s m args below meth cd Z b base yI yP D cx H locs ls hW hS hL)
theorem xA.icmp_le {x y : Int32} {off : Int} {tgt : Nat} (hd : xfetch M pc = some (.if_icmp .le off, 3)) (ht : (pc : Int) + off = (tgt : Int)) (hq : pc + 3 = q) (kt : x ≤ y → xA X d M c n mc ms tgt L st h Q) (kf : ¬ x ≤ y → xA X d M c n mc ms q L st h Q) : xA X d M c n mc ms pc L (.int y :: .int x :: st) h Q := by
  subst hq
  intro p l e R s m args below meth cd Z b base yI yP D cx H locs ls hW hS hL
  exact lv_icmp_le cx.ex cx.co (cx.de hd) ht (fun z => kt z p l e R s m args below meth cd Z b base yI yP D cx H locs ls hW hS hL) (fun z => kf z p l e R s m args below meth cd Z b base yI yP D cx H locs ls hW hS hL)
theorem xA.icmp_gt {x y : Int32} {off : Int} {tgt : Nat} (hd : xfetch M pc = some (.if_icmp .gt off, 3)) (ht : (pc : Int) + off = (tgt : Int)) (hq : pc + 3 = q) (kt : y < x → xA X d M c n mc ms tgt L st h Q) (kf : ¬ y < x → xA X d M c n mc ms q L st h Q) : xA X d M c n mc ms pc L (.int y :: .int x :: st) h Q := by
  subst hq
  intro p l e R s m args below meth cd Z b base yI yP D cx H locs ls hW hS hL
  exact lv_icmp_gt cx.ex cx.co (cx.de hd) ht (fun z => kt z p l e R s m args below meth cd Z b base yI yP D cx H locs ls hW hS hL) (fun z => kf z p l e R s m args below meth cd Z b base yI yP D cx H locs ls hW hS hL)
theorem xA.icmp_ge {x y : Int32} {off : Int} {tgt : Nat} (hd : xfetch M pc = some (.if_icmp .ge off, 3)) (ht : (pc : Int) + off = (tgt : Int)) (hq : pc + 3 = q) (kt : y ≤ x → xA X d M c n mc ms tgt L st h Q) (kf : ¬ y ≤ x → xA X d M c n mc ms q L st h Q) : xA X d M c n mc ms pc L (.int y :: .int x :: st) h Q := by
  subst hq
  intro p l e R s m args below meth cd Z b base yI yP D cx H locs ls hW hS hL
  exact lv_icmp_ge cx.ex cx.co (cx.de hd) ht (fun z => kt z p l e R s m args below meth cd Z b base yI yP D cx H locs ls hW hS hL) (fun z => kf z p l e R s m args below meth cd Z b base yI yP D cx H locs ls hW hS hL)
theorem xA.if_eq {x : Int32} {off : Int} {tgt : Nat} (hd : xfetch M pc = some (.ifCond .eq off, 3)) (ht : (pc : Int) + off = (tgt : Int)) (hq : pc + 3 = q) (kt : x = 0 → xA X d M c n mc ms tgt L st h Q) (kf : ¬ x = 0 → xA X d M c n mc ms q L st h Q) : xA X d M c n mc ms pc L (.int x :: st) h Q := by
  subst hq
  intro p l e R s m args below meth cd Z b base yI yP D cx H locs ls hW hS hL
  exact lv_if_eq cx.ex cx.co (cx.de hd) ht (fun z => kt z p l e R s m args below meth cd Z b base yI yP D cx H locs ls hW hS hL) (fun z => kf z p l e R s m args below meth cd Z b base yI yP D cx H locs ls hW hS hL)
theorem xA.if_ne {x : Int32} {off : Int} {tgt : Nat} (hd : xfetch M pc = some (.ifCond .ne off, 3)) (ht : (pc : Int) + off = (tgt : Int)) (hq : pc + 3 = q) (kt : ¬ x = 0 → xA X d M c n mc ms tgt L st h Q) (kf : x = 0 → xA X d M c n mc ms q L st h Q) : xA X d M c n mc ms pc L (.int x :: st) h Q := by
  subst hq
  intro p l e R s m args below meth cd Z b base yI yP D cx H locs ls hW hS hL
  exact lv_if_ne cx.ex cx.co (cx.de hd) ht (fun z => kt z p l e R s m args below meth cd Z b base yI yP D cx H locs ls hW hS hL) (fun z => kf z p l e R s m args below meth cd Z b base yI yP D cx H locs ls hW hS hL)
theorem xA.if_lt {x : Int32} {off : Int} {tgt : Nat} (hd : xfetch M pc = some (.ifCond .lt off, 3)) (ht : (pc : Int) + off = (tgt : Int)) (hq : pc + 3 = q) (kt : x < 0 → xA X d M c n mc ms tgt L st h Q) (kf : ¬ x < 0 → xA X d M c n mc ms q L st h Q) : xA X d M c n mc ms pc L (.int x :: st) h Q := by
  subst hq
  intro p l e R s m args below meth cd Z b base yI yP D cx H locs ls hW hS hL
  exact lv_if_lt cx.ex cx.co (cx.de hd) ht (fun z => kt z p l e R s m args below meth cd Z b base yI yP D cx H locs ls hW hS hL) (fun z => kf z p l e R s m args below meth cd Z b base yI yP D cx H locs ls hW hS hL)
theorem xA.if_le {x : Int32} {off : Int} {tgt : Nat} (hd : xfetch M pc = some (.ifCond .le off, 3)) (ht : (pc : Int) + off = (tgt : Int)) (hq : pc + 3 = q) (kt : x ≤ 0 → xA X d M c n mc ms tgt L st h Q) (kf : ¬ x ≤ 0 → xA X d M c n mc ms q L st h Q) : xA X d M c n mc ms pc L (.int x :: st) h Q := by
  subst hq
  intro p l e R s m args below meth cd Z b base yI yP D cx H locs ls hW hS hL
  exact lv_if_le cx.ex cx.co (cx.de hd) ht (fun z => kt z p l e R s m args below meth cd Z b base yI yP D cx H locs ls hW hS hL) (fun z => kf z p l e R s m args below meth cd Z b base yI yP D cx H locs ls hW hS hL)
theorem xA.if_gt {x : Int32} {off : Int} {tgt : Nat} (hd : xfetch M pc = some (.ifCond .gt off, 3)) (ht : (pc : Int) + off = (tgt : Int)) (hq : pc + 3 = q) (kt : 0 < x → xA X d M c n mc ms tgt L st h Q) (kf : ¬ 0 < x → xA X d M c n mc ms q L st h Q) : xA X d M c n mc ms pc L (.int x :: st) h Q := by
  subst hq
  intro p l e R s m args below meth cd Z b base yI yP D cx H locs ls hW hS hL
  exact lv_if_gt cx.ex cx.co (cx.de hd) ht (fun z => kt z p l e R s m args below meth cd Z b base yI yP D cx H locs ls hW hS hL) (fun z => kf z p l e R s m args below meth cd Z b base yI yP D cx H locs ls hW hS hL)
theorem xA.if_ge {x : Int32} {off : Int} {tgt : Nat} (hd : xfetch M pc = some (.ifCond .ge off, 3)) (ht : (pc : Int) + off = (tgt : Int)) (hq : pc + 3 = q) (kt : 0 ≤ x → xA X d M c n mc ms tgt L st h Q) (kf : ¬ 0 ≤ x → xA X d M c n mc ms q L st h Q) : xA X d M c n mc ms pc L (.int x :: st) h Q := by
  subst hq
  intro p l e R s m args below meth cd Z b base yI yP D cx H locs ls hW hS hL
  exact lv_if_ge cx.ex cx.co (cx.de hd) ht (fun z => kt z p l e R s m args below meth cd Z b base yI yP D cx H locs ls hW hS hL) (fun z => kf z p l e R s m args below meth cd Z b base yI yP D cx H locs ls hW hS hL)
theorem xA.goto {off : Int} (hd : xfetch M pc = some (.goto off, 3)) (ht : (pc : Int) + off = (q : Int)) (k : xA X d M c n mc ms q L st h Q) : xA X d M c n mc ms pc L st h Q := by
  intro p l e R s m args below meth cd Z b base yI yP D cx H locs ls hW hS hL
  exact lv_goto cx.ex cx.co (cx.de hd) ht (k p l e R s m args below meth cd Z b base yI yP D cx H locs ls hW hS hL)
theorem xA.ifnull {a : Nat} {off : Int} (hd : xfetch M pc = some (.ifnull off, 3)) (hq : pc + 3 = q) (k : xA X d M c n mc ms q L st h Q) : xA X d M c n mc ms pc L (.ref a :: st) h Q := by
  subst hq
  intro p l e R s m args below meth cd Z b base yI yP D cx H locs ls hW hS hL
  exact lv_ifnull cx.ex cx.co (cx.de hd) (k p l e R s m args below meth cd Z b base yI yP D cx H locs ls hW hS hL)
theorem xA.ifnullN {off : Int} (hd : xfetch M pc = some (.ifnull off, 3)) (ht : (pc : Int) + off = (q : Int)) (k : xA X d M c n mc ms q L st h Q) : xA X d M c n mc ms pc L (.null :: st) h Q := by
  intro p l e R s m args below meth cd Z b base yI yP D cx H locs ls hW hS hL
  exact lv_ifnullN cx.ex cx.co (cx.de hd) ht (k p l e R s m args below meth cd Z b base yI yP D cx H locs ls hW hS hL)
theorem xA.ifnonnull {a : Nat} {off : Int} (hd : xfetch M pc = some (.ifnonnull off, 3)) (ht : (pc : Int) + off = (q : Int)) (k : xA X d M c n mc ms q L st h Q) : xA X d M c n mc ms pc L (.ref a :: st) h Q := by
  intro p l e R s m args below meth cd Z b base yI yP D cx H locs ls hW hS hL
  exact lv_ifnonnull cx.ex cx.co (cx.de hd) ht (k p l e R s m args below meth cd Z b base yI yP D cx H locs ls hW hS hL)
theorem xA.ifnonnullN {off : Int} (hd : xfetch M pc = some (.ifnonnull off, 3)) (hq : pc + 3 = q) (k : xA X d M c n mc ms q L st h Q) : xA X d M c n mc ms pc L (.null :: st) h Q := by
  subst hq
  intro p l e R s m args below meth cd Z b base yI yP D cx H locs ls hW hS hL
  exact lv_ifnonnullN cx.ex cx.co (cx.de hd) (k p l e R s m args below meth cd Z b base yI yP D cx H locs ls hW hS hL)
theorem xA.tsOut {dflt lo hi : Int} {offs : Array Int} {len : Nat} {x : Int32} (hd : xfetch M pc = some (.tableswitch dflt lo hi offs, len)) (hx : x.toInt < lo ∨ hi < x.toInt) (ht : (pc : Int) + dflt = (q : Int)) (k : xA X d M c n mc ms q L st h Q) : xA X d M c n mc ms pc L (.int x :: st) h Q := by
  intro p l e R s m args below meth cd Z b base yI yP D cx H locs ls hW hS hL
  exact lv_tableOut cx.ex cx.co (cx.de hd) hx ht (k p l e R s m args below meth cd Z b base yI yP D cx H locs ls hW hS hL)
theorem xA.tsIn {dflt lo hi : Int} {offs : Array Int} {len : Nat} {x : Int32} {off : Int} (hd : xfetch M pc = some (.tableswitch dflt lo hi offs, len)) (h1 : ¬ x.toInt < lo) (h2 : ¬ hi < x.toInt) (ho : offs[(x.toInt - lo).toNat]? = some off) (ht : (pc : Int) + off = (q : Int)) (k : xA X d M c n mc ms q L st h Q) : xA X d M c n mc ms pc L (.int x :: st) h Q := by
  intro p l e R s m args below meth cd Z b base yI yP D cx H locs ls hW hS hL
  exact lv_tableIn cx.ex cx.co (cx.de hd) h1 h2 ho ht (k p l e R s m args below meth cd Z b base yI yP D cx H locs ls hW hS hL)
theorem xA.ldc {idx : Nat} {v : Int32} (hd : xfetch M pc = some (.ldc idx, 2)) (hw : Cond.constant M.1.cls idx v ∈ xBW) (hq : pc + 2 = q) (k : xA X d M c n mc ms q L (.int v :: st) h Q) : xA X d M c n mc ms pc L st h Q := by
  subst hq
  intro p l e R s m args below meth cd Z b base yI yP D cx H locs ls hW hS hL
  exact lv_ldc cx.ex cx.co cx.ow (cx.ts _ hw) (cx.de hd) (k p l e R s m args below meth cd Z b base yI yP D cx H locs ls hW hS hL)
theorem xA.ldc_w {idx : Nat} {v : Int32} (hd : xfetch M pc = some (.ldc_w idx, 3)) (hw : Cond.constant M.1.cls idx v ∈ xBW) (hq : pc + 3 = q) (k : xA X d M c n mc ms q L (.int v :: st) h Q) : xA X d M c n mc ms pc L st h Q := by
  subst hq
  intro p l e R s m args below meth cd Z b base yI yP D cx H locs ls hW hS hL
  exact lv_ldcw cx.ex cx.co cx.ow (cx.ts _ hw) (cx.de hd) (k p l e R s m args below meth cd Z b base yI yP D cx H locs ls hW hS hL)
theorem xA.ldc2 {idx : Nat} {v : Int64} (hd : xfetch M pc = some (.ldc2_w idx, 3)) (hw : Cond.constantLong M.1.cls idx v ∈ xBW) (hq : pc + 3 = q) (k : xA X d M c n mc ms q L (.long v :: st) h Q) : xA X d M c n mc ms pc L st h Q := by
  subst hq
  intro p l e R s m args below meth cd Z b base yI yP D cx H locs ls hW hS hL
  exact lv_ldc2 cx.ex cx.co cx.ow (cx.ts _ hw) (cx.de hd) (k p l e R s m args below meth cd Z b base yI yP D cx H locs ls hW hS hL)
theorem xA.iret {v : Int32} {ty : FieldType} (hd : xfetch M pc = some (.ireturn, 1)) (hr : M.2.2.2.1 = some ty) (hn : narrow ty (.int v) = .int v) (hQ : Q (some (.int v)) h) : xA X d M mc ms mc ms pc L [.int v] h Q := by
  intro p l e R s m args below meth cd Z b base yI yP D cx H locs ls hW hS hL
  exact cx.2.2.2.2.2.2 pc ls .ireturn [.int v] _ h H locs (cx.de hd) (Or.inl ⟨rfl, v, rfl, rfl, ty, hr, hn⟩) hQ hW hS
theorem xA.lret {v : Int64} (hd : xfetch M pc = some (.lreturn, 1)) (hr : M.2.2.2.1 = some .long) (hQ : Q (some (.long v)) h) : xA X d M mc ms mc ms pc L [.long v] h Q := by
  intro p l e R s m args below meth cd Z b base yI yP D cx H locs ls hW hS hL
  exact cx.2.2.2.2.2.2 pc ls .lreturn [.long v] _ h H locs (cx.de hd) (Or.inr (Or.inl ⟨rfl, v, rfl, rfl, hr⟩)) hQ hW hS
theorem xA.aret {v : Value} {nm : String} (hd : xfetch M pc = some (.areturn, 1)) (hr : M.2.2.2.1 = some (.object nm)) (hv : v = .null ∨ ∃ a, v = .ref a) (hQ : Q (some v) h) : xA X d M mc ms mc ms pc L [v] h Q := by
  intro p l e R s m args below meth cd Z b base yI yP D cx H locs ls hW hS hL
  exact cx.2.2.2.2.2.2 pc ls .areturn [v] _ h H locs (cx.de hd) (Or.inr (Or.inr (Or.inl ⟨rfl, v, rfl, rfl, ⟨nm, hr⟩, hv⟩))) hQ hW hS
theorem xA.vret (hd : xfetch M pc = some (.return_, 1)) (hr : M.2.2.2.1 = none) (hQ : Q none h) : xA X d M mc ms mc ms pc L [] h Q := by
  intro p l e R s m args below meth cd Z b base yI yP D cx H locs ls hW hS hL
  exact cx.2.2.2.2.2.2 pc ls .return_ [] _ h H locs (cx.de hd) (Or.inr (Or.inr (Or.inr ⟨rfl, rfl, rfl, hr⟩))) hQ hW hS
theorem xA.widen {c' n' : Nat} (h1 : c ≤ c') (h2 : n ≤ n') (k : xA X d M c' n' mc ms pc L st h Q) : xA X d M c n mc ms pc L st h Q := by
  intro p l e R s m args below meth cd Z b base yI yP D cx H locs ls hW hS hL
  exact W.widen h1 h2 (k p l e R s m args below meth cd Z b base yI yP D cx H locs ls hW hS hL)
end XR
end
section
/-! ===== walks at the machine, with the heap's size kept (the kit's rows va_put, va_putF, va_iast, va_astq, va_new, va_newa, va_newq, told with it) ===== -/
section XH
variable {p : Program} {l : Launch} {e : Env} {R : Room} {s : State} {m : MethodId} {args : Array Value} {below : List Frame} {meth : Method} {c : Code} {H : Heap} {locs : List Loc} {cells slots : Nat} {Q : State → Prop}
variable {cc : ByteArray} {pc : Nat} {ls : Array Slot} {rest : List Value} {D : va_G} {cl : List vw_C} {A : Nat → Prop} {a : Nat} {tys : List (ClassId × FieldType)} {ws : va_W} {H0 : Heap}
theorem x_put (hexec : p.tables.exec = Jvm.exec) (hb : c.code = cc) {own ref C : String} {T : u_T} {N ci index : Nat} {Ts : List Cond} (hts : ∀ w ∈ Ts, w.before args s = true) (hin : ∀ w ∈ u_ws C T N, w ∈ Ts) (ty0 : Nat → FieldType) (hty : ∀ k, k < N → parseFieldDescriptor (T k).2.2.1 = some (ty0 k)) (hnm : ∀ a, a < N → ∀ b, b < N → a ≠ b → (T a).2.1 ≠ (T b).2.1) (hown : s.vm.findClass own = some m.cls) (hK : va_K D cl tys s) (hP : va_P D cl ws H) (hD : va_D A ws) (hS0 : va_S A H0 H locs) (q0 : Nat) {fs : List Value} (he : ws[q0]? = some (a, .inr (ci, fs))) (hc : cl[ci]? = some (C, T, N)) (k : Nat) (hk : k < N) (hlink : (Cond.fieldLink own index ref (T k).2.1 (T k).2.2.1).before args s = true) (hsame : ∀ x, s.fieldFound? (T k).1 (T k).2.1 (T k).2.2.1 = some x → s.fieldFound? ref (T k).2.1 (T k).2.2.1 = some x) (hfin : (T k).2.2.2 = false) {ty : FieldType} {v : Value} (hd : parseFieldDescriptor (T k).2.2.1 = some ty) (hn : narrow ty v = v) (hfit : fits ty v = true) (hl : k < fs.length)
    (hdg : decode cc pc = .ok (.putfield index, 3)) (kk : ∀ (H1 : Heap) (locs1 : List Loc), H1.size = H.size → va_P D cl (ws.set q0 (a, .inr (ci, fs.set k v))) H1 → va_S A H0 H1 locs1 → W p l e R s m args below meth c H1 locs1 cells slots Q (F0 m (pc + 3) ls rest)) : W p l e R s m args below meth c H locs cells slots Q (F0 m pc ls (v :: .ref a :: rest)) := by
  have hap := va_apart (own := own) hts hin ty0 hty hnm hK hc
  obtain ⟨r, h1, cell, q1, q2, q3, q4⟩ := hP q0 _ he
  have hr : r = (C, T, N) := Option.some.inj (h1.symm.trans hc)
  subst hr
  obtain ⟨hS, hfc, kC, hkC, hkind⟩ := hK.1 ci _ hc
  obtain ⟨cf, kf, fi, f, hi, hsl⟩ := hS k hk
  have hlay := hts _ (hin _ (u_in_lay hk))
  unfold u_lay at hlay
  rw [if_neg (by rw [hfin]; decide)] at hlay
  have hst := (u_facts hfc hkC (u_lays hts hin hk) hi).1
  have h6 := u_store hfc hkC hkind hlay hi hd hn hfit
  refine W.putK hexec hb (f := f) ⟨hown, hlink, ⟨_, _, _, hsame _ hi⟩, hst⟩ (by rw [q2]; exact h6) q1 q3 (by rw [hsl]; exact k2_hasslot (q4 k hk)) rfl rfl hdg fun H' e1 e2 e3 => ?_
  rw [hsl] at e1 ⊢
  exact kk H' _ e2 (hP.set hD he ⟨_, hc, t_OB.to (V := updV (vp_V fs) k v) ⟨_, e1, q2, q3, t_set q4 hap hk v⟩ (fun j _ => vp_updV_set hl v j)⟩ e3) (hS0.put e2 e3 (hD.2 q0 _ he))
theorem x_putF (hexec : p.tables.exec = Jvm.exec) (hb : c.code = cc) {own ref C : String} {T : u_T} {N ci index : Nat} {Ts : List Cond} (hts : ∀ w ∈ Ts, w.before args s = true) (hin : ∀ w ∈ u_ws C T N, w ∈ Ts) (ty0 : Nat → FieldType) (hty : ∀ k, k < N → parseFieldDescriptor (T k).2.2.1 = some (ty0 k)) (hnm : ∀ a, a < N → ∀ b, b < N → a ≠ b → (T a).2.1 ≠ (T b).2.1) (hown : s.vm.findClass own = some m.cls) (hK : va_K D cl tys s) (hP : va_P D cl ws H) (hD : va_D A ws) (hS0 : va_S A H0 H locs) (q0 : Nat) {fs : List Value} (he : ws[q0]? = some (a, .inr (ci, fs))) (hc : cl[ci]? = some (C, T, N)) (k : Nat) (hk : k < N) (hlink : (Cond.fieldLink own index ref (T k).2.1 (T k).2.2.1).before args s = true) (hsame : ∀ x, s.fieldFound? (T k).1 (T k).2.1 (T k).2.2.1 = some x → s.fieldFound? ref (T k).2.1 (T k).2.2.1 = some x) (hfin : (T k).2.2.2 = true) (hin2 : meth.name = "<init>") (hdecl : (T k).1 = own) {ty : FieldType} {v : Value} (hd : parseFieldDescriptor (T k).2.2.1 = some ty) (hn : narrow ty v = v) (hfit : fits ty v = true) (hl : k < fs.length)
    (hdg : decode cc pc = .ok (.putfield index, 3)) (kk : ∀ (H1 : Heap) (locs1 : List Loc), H1.size = H.size → va_P D cl (ws.set q0 (a, .inr (ci, fs.set k v))) H1 → va_S A H0 H1 locs1 → W p l e R s m args below meth c H1 locs1 cells slots Q (F0 m (pc + 3) ls rest)) : W p l e R s m args below meth c H locs cells slots Q (F0 m pc ls (v :: .ref a :: rest)) := by
  have hap := va_apart (own := own) hts hin ty0 hty hnm hK hc
  obtain ⟨r, h1, cell, q1, q2, q3, q4⟩ := hP q0 _ he
  have hr : r = (C, T, N) := Option.some.inj (h1.symm.trans hc)
  subst hr
  obtain ⟨hS, hfc, kC, hkC, hkind⟩ := hK.1 ci _ hc
  obtain ⟨cf, kf, fi, f, hi, hsl⟩ := hS k hk
  have hlay := hts _ (hin _ (u_in_lay hk))
  unfold u_lay at hlay
  rw [if_pos hfin] at hlay
  have hst := (u_facts hfc hkC (u_lays hts hin hk) hi).1
  have hcf : m.cls = cf := by
    obtain ⟨_, _, c', _, _, _, -, -, hf', -, -, -, hown2, -⟩ := Cond.laysFinal_spec hlay
    have e1 : c' = cf := by have := hi.symm.trans hf'; simp at this; exact this.1.symm
    rw [hdecl] at hown2
    rw [← e1]; exact Option.some.inj (hown.symm.trans hown2)
  have h6 := u_fits hfc hkC hkind (Or.inr hlay) hi hd hn hfit
  refine W.putFinK hexec hb hown hlink (hsame _ hi) hst hcf hin2 (by rw [q2]; exact h6) q1 q3 (by rw [hsl]; exact k2_hasslot (q4 k hk)) rfl rfl hdg fun H' e1 e2 e3 => ?_
  rw [hsl] at e1 ⊢
  exact kk H' _ e2 (hP.set hD he ⟨_, hc, t_OB.to (V := updV (vp_V fs) k v) ⟨_, e1, q2, q3, t_set q4 hap hk v⟩ (fun j _ => vp_updV_set hl v j)⟩ e3) (hS0.put e2 e3 (hD.2 q0 _ he))
theorem x_iast (hexec : p.tables.exec = Jvm.exec) (hb : c.code = cc) (hK : va_K D cl tys s) (hP : va_P D cl ws H) (hD : va_D A ws) (hS : va_S A H0 H locs) (q0 t0 : Nat) {cA : ClassId} {n : Nat} {f : Nat → Int32} (ha : ws[q0]? = some (a, .inl (cA, n, .inl f))) (ht : tys[t0]? = some (cA, .int)) {i : Int32} {x : Int32} (hin : vp_in i n) (hdg : decode cc pc = .ok (.iastore, 1))
    (kk : ∀ (H1 : Heap) (locs1 : List Loc), H1.size = H.size → va_P D cl (ws.set q0 (a, .inl (cA, n, .inl (upd f i.toNatClampNeg x)))) H1 → va_S A H0 H1 locs1 → W p l e R s m args below meth c H1 locs1 cells slots Q (F0 m (pc + 1) ls rest)) : W p l e R s m args below meth c H locs cells slots Q (F0 m pc ls (.int x :: .int i :: .ref a :: rest)) := by
  refine W.iast hexec hb (hP q0 _ ha) ((hK.2 t0 _ ht).1 n (fun j => .int (f j))) (fun q => by cases q) (by show ¬ (i < 0 ∨ (arrV _ _ _).slots.size ≤ _); rw [arrV_size]; exact hin) rfl rfl hdg fun H1 e z oq => ?_
  refine kk H1 _ z (hP.set hD ha ?_ oq) (hS.put z oq (hD.2 q0 _ ha))
  show H1[a]? = some (vp_cell _ _)
  rw [e]
  rw [vp_cell_i, vp_cell_i, arrV_store]
  congr 2
  funext q
  by_cases hq : q = i.toNatClampNeg
  · subst hq
    simp [updV, upd]
  · simp [updV, upd, hq]
theorem x_astq (hexec : p.tables.exec = Jvm.exec) (hb : c.code = cc) (hK : va_K D cl tys s) (hP : va_P D cl ws H) (hD : va_D A ws) (hS : va_S A H0 H locs) (q0 t0 qk ci : Nat) {cA : ClassId} {r : vw_C} {n v : Nat} {vs : List Value} {f : Nat → Option Nat} (ha : ws[q0]? = some (a, .inl (cA, n, .inr (.inr (.inr (.inr f)))))) (ht : tys[t0]? = some (cA, .object r.1)) (hv : ws[qk]? = some (v, .inr (ci, vs))) (hc : cl[ci]? = some r) {i : Int32} (hin : vp_in i n) (hdg : decode cc pc = .ok (.aastore, 1))
    (kk : ∀ (H1 : Heap) (locs1 : List Loc), H1.size = H.size → va_P D cl (ws.set q0 (a, .inl (cA, n, .inr (.inr (.inr (.inr (va_up f i.toNatClampNeg (some v)))))))) H1 → va_S A H0 H1 locs1 → W p l e R s m args below meth c H1 locs1 cells slots Q (F0 m (pc + 1) ls rest)) : W p l e R s m args below meth c H locs cells slots Q (F0 m pc ls (.ref v :: .int i :: .ref a :: rest)) := by
  have hlt : i.toNatClampNeg < n := Nat.not_le.mp fun q => hin (Or.inr q)
  have h0 : ¬ i < 0 := fun q => hin (Or.inl q)
  obtain ⟨r', hr', cellV, g1, g2, g3, -⟩ := hP qk _ hv
  have hcls := (hK.1 ci r hc).2
  obtain ⟨kA, comp, k1, k2, k3, -⟩ := (hK.2 t0 _ ht).2
  have hcomp : comp = D.1 ci := Option.some.inj (k3.symm.trans hcls.1)
  subst hcomp
  obtain ⟨kC, hkC, -⟩ := hcls.2
  refine W.aast hexec hb (hP q0 _ ha) (fun q h => by cases h) (fun h => by cases h) k1 k2 rfl hkC ⟨h0, by show _ < (arrV _ _ _).slots.size; rw [arrV_size]; exact hlt⟩ g1 (fun q h => by rw [g3] at h; cases h) (by rw [g2]; exact hkC) (by rw [g2]; exact va_assign hcls) rfl rfl hdg fun H1 e z oq => ?_
  refine kk H1 _ z (hP.set hD ha ?_ oq) (hS.put z oq (hD.2 q0 _ ha))
  show H1[a]? = some (vp_cell _ _)
  rw [e]
  rw [vp_cell_q, vp_cell_q, arrV_store]
  congr 2
  funext q
  by_cases hq : q = i.toNatClampNeg
  · subst hq
    simp [updV, va_up, va_rf]
  · simp [updV, va_up, hq]
theorem x_P1 {D : va_G} {cl : List vw_C} {q : Nat × va_E} {H : Heap} (h : va_at D cl q H) : va_P D cl [q] H := by
  intro k x hx
  have hz : k < 1 := (List.getElem?_eq_some_iff.mp hx).1
  rw [show k = 0 by omega] at hx
  cases hx
  exact h
theorem x_new {c0 : Code} (hexec : p.tables.exec = Jvm.exec) (hb : c0.code = cc) {own C : String} {T : u_T} {N ci index : Nat} {Ts : List Cond} (hts : ∀ w ∈ Ts, w.before args s = true) (hin : ∀ w ∈ u_ws C T N, w ∈ Ts) (ty : Nat → FieldType) (hty : ∀ k, k < N → parseFieldDescriptor (T k).2.2.1 = some (ty k)) (hown : s.vm.findClass own = some m.cls) (hcl : (Cond.classLink own index C).before args s = true) (hinst : (Cond.instantiable C N).before args s = true) (hini : (Cond.initialized C).before args s = true)
    (hK : va_K D cl tys s) (hP : va_P D cl ws H) (hS : va_S A H0 H locs) (hc : cl[ci]? = some (C, T, N)) {fs : List Value} (hfs : ∀ j, j < N → defaultValue (ty j) = vp_V fs j) (hcells : cells + 1 ≤ R.cells) (hslots : slots + N ≤ R.slots) (hdg : decode cc pc = .ok (.new index, 3))
    (kk : ∀ (H1 : Heap), H1.size = H.size + 1 → va_P D cl (ws ++ [(H.size, .inr (ci, fs))]) H1 → va_S A H0 H1 locs →
      W p l e R s m args below meth c0 H1 locs (cells + 1) (slots + N) Q (F0 m (pc + 3) ls (.ref H.size :: rest))) : W p l e R s m args below meth c0 H locs cells slots Q (F0 m pc ls rest) := by
  have hKn := hK.1 ci _ hc
  refine W.newcK hexec hb hown hcl hinst hini rfl hdg hcells hslots hKn.2.1 rfl fun H1 kC hkC e1 z1 o1 => ?_
  have hk : ∀ (k : Nat) (x : Nat × va_E), ws[k]? = some x → H1[x.1]? = H[x.1]? := fun k x hx => o1 x.1 ((hP k x hx).lt)
  exact kk H1 z1 ((hP.kept hk).app (x_P1 ⟨_, hc, (u_born ty hts hin hKn hkC e1 hty).to hfs⟩)) ⟨Nat.le_trans hS.1 (by omega), fun x h1 h2 => (o1 x (Nat.lt_of_lt_of_le h1 hS.1)).trans (hS.2.1 x h1 h2), hS.2.2⟩
theorem x_newa (hexec : p.tables.exec = Jvm.exec) (hb : c.code = cc) (harr : (Cond.arrayClass .int).before args s = true) (hK : va_K D cl tys s) (hP : va_P D cl ws H) (hS : va_S A H0 H locs) {yI : ClassId} (t0 : Nat) (ht : tys[t0]? = some (yI, .int))
    {n : Int32} {N' : Nat} (hn : ¬ n < 0) (hN : n.toNatClampNeg = N') (hbytes : N' * 4 ≤ 536870912) (hcells : cells + 1 ≤ R.cells) (hslots : slots + N' ≤ R.slots) (hdg : decode cc pc = .ok (.newarray .int, 2))
    (kk : ∀ (H1 : Heap), H1.size = H.size + 1 → va_P D cl (ws ++ [(H.size, .inl (yI, N', .inl (fun _ => 0)))]) H1 → va_S A H0 H1 locs →
      W p l e R s m args below meth c H1 locs (cells + 1) (slots + N') Q (F0 m (pc + 2) ls (.ref H.size :: rest))) : W p l e R s m args below meth c H locs cells slots Q (F0 m pc ls (.int n :: rest)) := by
  refine va_newaK (atype := .int) hexec hb harr rfl hdg rfl hn hN hbytes hcells hslots rfl fun H1 cA e1 z1 o1 hAr hNm => ?_
  have hcy : cA = yI := Option.some.inj (hNm.symm.trans (hK.2 t0 _ ht).2)
  subst hcy
  have hk : ∀ (k : Nat) (x : Nat × va_E), ws[k]? = some x → H1[x.1]? = H[x.1]? := fun k x hx => o1 x.1 ((hP k x hx).lt)
  refine kk H1 z1 ((hP.kept hk).app (x_P1 ?_)) ⟨Nat.le_trans hS.1 (by omega), fun x h1 h2 => (o1 x (Nat.lt_of_lt_of_le h1 hS.1)).trans (hS.2.1 x h1 h2), hS.2.2⟩
  show H1[H.size]? = some (vp_cell _ _)
  rw [vp_cell_i]
  exact e1
theorem x_newq (hexec : p.tables.exec = Jvm.exec) (hb : c.code = cc) {own C : String} {index : Nat} (hown : s.vm.findClass own = some m.cls) (hclink : (Cond.classLink own index C).before args s = true) (hover : va_AO C s) (hK : va_K D cl tys s) (hP : va_P D cl ws H) (hS : va_S A H0 H locs) {yP : ClassId} (t0 : Nat) (ht : tys[t0]? = some (yP, .object C))
    {n : Int32} {N' : Nat} (hn : ¬ n < 0) (hN : n.toNatClampNeg = N') (hbytes : N' * 4 ≤ 536870912) (hcells : cells + 1 ≤ R.cells) (hslots : slots + N' ≤ R.slots) (hdg : decode cc pc = .ok (.anewarray index, 3))
    (kk : ∀ (H1 : Heap), H1.size = H.size + 1 → va_P D cl (ws ++ [(H.size, .inl (yP, N', .inr (.inr (.inr (.inr (fun _ => none))))))]) H1 → va_S A H0 H1 locs →
      W p l e R s m args below meth c H1 locs (cells + 1) (slots + N') Q (F0 m (pc + 3) ls (.ref H.size :: rest))) : W p l e R s m args below meth c H locs cells slots Q (F0 m pc ls (.int n :: rest)) := by
  subst hN
  refine W.anew hexec hb hown hclink (va_AO.use hover) rfl hdg rfl hn hbytes hcells hslots fun cA kA comp f1 f2 f3 f4 => ?_
  have hcy : cA = yP := by
    obtain ⟨kA2, comp2, g1, g2, g3, g4⟩ := (hK.2 t0 _ ht).2
    first | exact Option.some.inj (f4.symm.trans g4) | exact Option.some.inj (f1.symm.trans g4)
  subst hcy
  generalize hH1 : H.push ({ cls := cA, slots := Array.replicate n.toNatClampNeg .null, vm := .none } : Cell) = H1
  have z1 : H1.size = H.size + 1 := by rw [← hH1, Array.size_push]
  have e1 : H1[H.size]? = some (arrV cA n.toNatClampNeg (fun _ => .null)) := by rw [← hH1, Array.getElem?_push_size, ← arrV_new]
  have o1 : ∀ q : Nat, q < H.size → H1[q]? = H[q]? := fun q hq => by rw [← hH1, Array.getElem?_push, if_neg (Nat.ne_of_lt hq)]
  have hk : ∀ (k : Nat) (x : Nat × va_E), ws[k]? = some x → H1[x.1]? = H[x.1]? := fun k x hx => o1 x.1 ((hP k x hx).lt)
  refine kk H1 z1 ((hP.kept hk).app (x_P1 ?_)) ⟨Nat.le_trans hS.1 (by omega), fun x h1 h2 => (o1 x (Nat.lt_of_lt_of_le h1 hS.1)).trans (hS.2.1 x h1 h2), hS.2.2⟩
  show H1[H.size]? = some (vp_cell _ _)
  rw [vp_cell_q]
  exact e1
/-- behind a call -/
theorem x_call {b base : Nat} {yI yP : ClassId} {mc ms : Nat} {Q' : Option Value → xH → Prop} {st0 : List Value} {a : Array Value} (hr : va_Run p l e R s m args below meth c H locs cells slots mc ms (F0 m pc ls st0) rest (xQc b base yI yP D Q' a) (xAd base)) (hS : va_S (xAd base) s.heap H locs) (hbs : base ≤ s.heap.size)
    (kk : ∀ (r : Option Value) (h' : xH) (H1 : Heap) (locs1 : List Loc), Q' r h' → xWd base yI yP D h' H1 → va_S (xAd base) s.heap H1 locs1 → W p l e R s m args below meth c H1 locs1 (cells + mc) (slots + ms) Q (F0 m (pc + 3) ls ((r.map (xe b base)).toList ++ rest))) : W p l e R s m args below meth c H locs cells slots Q (F0 m pc ls st0) := by
  intro T hT X
  obtain ⟨v, st₀, t, T', L, h0, X', hL, e1, e2, ⟨r, h', hv, hq, hw, hz, hk⟩, st⟩ := hr T hT X
  cases hv
  rw [h0] at hz hk
  obtain ⟨t2, a1, b1⟩ := kk r h' T'.heap (locs ++ L) hq (by rw [e1]; exact hw)
    ⟨Nat.le_trans hS.1 (by rw [e1]; exact hz), fun q h1 h2 => by rw [e1, hk q (Nat.lt_of_not_le h2)]; exact hS.2.1 q h1 h2, fun q hq => by
      rcases List.mem_append.mp hq with h | h
      · exact hS.2.2 q h
      · exact hL q h⟩ T' rfl X'
  exact ⟨t2, st t2 a1, b1⟩
end XH
/-! ===== fields, rows ===== -/
/-- a field's link: in a class's table -/
def xfldOk (own : String) (idx ci k : Nat) : Prop := ∃ (C : String) (T : u_T) (N : Nat), vwCl[ci]? = some (C, T, N) ∧ k < N ∧ Cond.fieldLink own idx (T k).1 (T k).2.1 (T k).2.2.1 ∈ xBW
/-- the same, and it isn't final; it is, and the class' own -/
def xputOk (own : String) (idx ci k : Nat) : Prop := ∃ (C : String) (T : u_T) (N : Nat), vwCl[ci]? = some (C, T, N) ∧ k < N ∧ Cond.fieldLink own idx (T k).1 (T k).2.1 (T k).2.2.1 ∈ xBW ∧ (T k).2.2.2 = false
def xputFOk (own : String) (idx ci k : Nat) : Prop := ∃ (C : String) (T : u_T) (N : Nat), vwCl[ci]? = some (C, T, N) ∧ k < N ∧ Cond.fieldLink own idx (T k).1 (T k).2.1 (T k).2.2.1 ∈ xBW ∧ (T k).2.2.2 = true ∧ (T k).1 = own
section XF
variable {X : Option (Nat × (Nat → Int32))} {d : Nat} {M : xM} {c n mc ms pc q : Nat} {L : List (Option Value)} {st : List Value} {σ : List xSh} {S : Nat → Nat → Int32} {G : Nat → Nat → Int64} {Q : Option Value → xH → Prop}
theorem xA.getI {idx a ci k : Nat} {r : List (Option Nat)} (hd : xfetch M pc = some (.getfield idx, 3)) (hf : xfldOk M.1.cls idx ci k) (hσ : σ[a]? = some (.inl (ci, r))) (hk : xkind ci k = 0) (hq : pc + 3 = q) (kk : xA X d M c n mc ms q L (.int (S a k) :: st) (σ, S, G) Q) : xA X d M c n mc ms pc L (.ref a :: st) (σ, S, G) Q := by
  subst hq
  intro p l e R s m args below meth cd Z b base yI yP D cx H locs ls hW hS hL
  obtain ⟨C, T, N, hc, hkN, hw⟩ := hf
  obtain ⟨hu, -, hN, -⟩ := xlay hc
  refine va_get cx.ex cx.co cx.ts hu cx.ow cx.2.1.2.1 hW.2 a (xws_get (h := (σ, S, G)) hσ) hc k hkN (cx.ts _ hw) (fun _ h => h) ?_ (cx.de hd) (kk p l e R s m args below meth cd Z b base yI yP D cx H locs ls hW hS hL)
  rw [List.getElem?_map, List.getElem?_range (by omega)]
  simp only [Option.map_some, xval, hk, xe]
theorem xA.getZ {idx a ci k : Nat} {r : List (Option Nat)} (hd : xfetch M pc = some (.getfield idx, 3)) (hf : xfldOk M.1.cls idx ci k) (hσ : σ[a]? = some (.inl (ci, r))) (hk : xkind ci k = 3) (hq : pc + 3 = q) (kk : xA X d M c n mc ms q L (.int (S a k) :: st) (σ, S, G) Q) : xA X d M c n mc ms pc L (.ref a :: st) (σ, S, G) Q := by
  subst hq
  intro p l e R s m args below meth cd Z b base yI yP D cx H locs ls hW hS hL
  obtain ⟨C, T, N, hc, hkN, hw⟩ := hf
  obtain ⟨hu, -, hN, -⟩ := xlay hc
  refine va_get cx.ex cx.co cx.ts hu cx.ow cx.2.1.2.1 hW.2 a (xws_get (h := (σ, S, G)) hσ) hc k hkN (cx.ts _ hw) (fun _ h => h) ?_ (cx.de hd) (kk p l e R s m args below meth cd Z b base yI yP D cx H locs ls hW hS hL)
  rw [List.getElem?_map, List.getElem?_range (by omega)]
  simp only [Option.map_some, xval, hk, xe]
theorem xA.getL {idx a ci k : Nat} {r : List (Option Nat)} (hd : xfetch M pc = some (.getfield idx, 3)) (hf : xfldOk M.1.cls idx ci k) (hσ : σ[a]? = some (.inl (ci, r))) (hk : xkind ci k = 1) (hq : pc + 3 = q) (kk : xA X d M c n mc ms q L (.long (G a k) :: st) (σ, S, G) Q) : xA X d M c n mc ms pc L (.ref a :: st) (σ, S, G) Q := by
  subst hq
  intro p l e R s m args below meth cd Z b base yI yP D cx H locs ls hW hS hL
  obtain ⟨C, T, N, hc, hkN, hw⟩ := hf
  obtain ⟨hu, -, hN, -⟩ := xlay hc
  refine va_get cx.ex cx.co cx.ts hu cx.ow cx.2.1.2.1 hW.2 a (xws_get (h := (σ, S, G)) hσ) hc k hkN (cx.ts _ hw) (fun _ h => h) ?_ (cx.de hd) (kk p l e R s m args below meth cd Z b base yI yP D cx H locs ls hW hS hL)
  rw [List.getElem?_map, List.getElem?_range (by omega)]
  simp only [Option.map_some, xval, hk, xe]
theorem xA.getR {idx a ci k a' : Nat} {r : List (Option Nat)} (hd : xfetch M pc = some (.getfield idx, 3)) (hf : xfldOk M.1.cls idx ci k) (hσ : σ[a]? = some (.inl (ci, r))) (hk : xkind ci k = 2) (hr : r[k]? = some (some a')) (hq : pc + 3 = q) (kk : xA X d M c n mc ms q L (.ref a' :: st) (σ, S, G) Q) : xA X d M c n mc ms pc L (.ref a :: st) (σ, S, G) Q := by
  subst hq
  intro p l e R s m args below meth cd Z b base yI yP D cx H locs ls hW hS hL
  obtain ⟨C, T, N, hc, hkN, hw⟩ := hf
  obtain ⟨hu, -, hN, -⟩ := xlay hc
  refine va_get cx.ex cx.co cx.ts hu cx.ow cx.2.1.2.1 hW.2 a (xws_get (h := (σ, S, G)) hσ) hc k hkN (cx.ts _ hw) (fun _ h => h) ?_ (cx.de hd) (kk p l e R s m args below meth cd Z b base yI yP D cx H locs ls hW hS hL)
  rw [List.getElem?_map, List.getElem?_range (by omega)]
  simp only [Option.map_some, xval, hk, xe, List.getD_eq_getElem?_getD, hr, Option.getD_some, va_rf]
theorem xA.putI {idx a ci k : Nat} {v : Int32} {r : List (Option Nat)} (hd : xfetch M pc = some (.putfield idx, 3)) (hf : xputOk M.1.cls idx ci k) (hσ : σ[a]? = some (.inl (ci, r))) (hk : xkind ci k = 0) (hq : pc + 3 = q) (kk : xA X d M c n mc ms q L st (σ, xu S a k v, G) Q) : xA X d M c n mc ms pc L (.int v :: .ref a :: st) (σ, S, G) Q := by
  subst hq
  intro p l e R s m args below meth cd Z b base yI yP D cx H locs ls hW hS hL
  obtain ⟨C, T, N, hc, hkN, hw, hfin⟩ := hf
  obtain ⟨hu, hnm, hN, ty, hty, htk⟩ := xlay hc
  have hty2 : ty k = .int := by
    have h1 := htk k hkN
    rw [hk] at h1
    revert h1
    cases ty k <;> intro h1 <;> first | rfl | (simp [xtyB] at h1)
  refine x_put cx.ex cx.co cx.ts hu ty hty hnm cx.ow cx.2.1.2.1 hW.2 (xws_D base yI yP (σ, S, G)) hS a (xws_get (h := (σ, S, G)) hσ) hc k hkN (cx.ts _ hw) (fun _ h => h) hfin (hty k hkN) (by rw [hty2]; exact rfl) (by rw [hty2]; exact rfl) (by simp; omega) (cx.de hd) (fun H1 locs1 hz hP hS1 => kk p l e R s m args below meth cd Z b base yI yP D cx H1 locs1 ls ⟨hz.trans hW.1, ?_⟩ hS1 hL)
  rw [xws_set (h := (σ, S, G)) (h' := (σ, xu S a k v, G)) hσ (x_setSelf hσ) (fun j hj z => xcell_eq (by funext i; simp [xu, hj]) (by funext i; simp [xul, hj]) z)]
  rw [xfs_set (h' := (σ, xu S a k v, G)) (r' := r) (by simp [xval, hk, xu, xul, xe]) (fun i hi => xval_eq (by simp [xu, hi]) (by simp [xul, hi]))] at hP
  exact hP
theorem xA.putZ {idx a ci k : Nat} {v : Int32} {r : List (Option Nat)} (hd : xfetch M pc = some (.putfield idx, 3)) (hf : xputOk M.1.cls idx ci k) (hσ : σ[a]? = some (.inl (ci, r))) (hk : xkind ci k = 3) (hv : v = 0 ∨ v = 1) (hq : pc + 3 = q) (kk : xA X d M c n mc ms q L st (σ, xu S a k v, G) Q) : xA X d M c n mc ms pc L (.int v :: .ref a :: st) (σ, S, G) Q := by
  subst hq
  intro p l e R s m args below meth cd Z b base yI yP D cx H locs ls hW hS hL
  obtain ⟨C, T, N, hc, hkN, hw, hfin⟩ := hf
  obtain ⟨hu, hnm, hN, ty, hty, htk⟩ := xlay hc
  have hty2 : ty k = .boolean := by
    have h1 := htk k hkN
    rw [hk] at h1
    revert h1
    cases ty k <;> intro h1 <;> first | rfl | (simp [xtyB] at h1)
  refine x_put cx.ex cx.co cx.ts hu ty hty hnm cx.ow cx.2.1.2.1 hW.2 (xws_D base yI yP (σ, S, G)) hS a (xws_get (h := (σ, S, G)) hσ) hc k hkN (cx.ts _ hw) (fun _ h => h) hfin (hty k hkN) (by rw [hty2]; exact (by rcases hv with rfl | rfl <;> rfl)) (by rw [hty2]; exact (by rcases hv with rfl | rfl <;> rfl)) (by simp; omega) (cx.de hd) (fun H1 locs1 hz hP hS1 => kk p l e R s m args below meth cd Z b base yI yP D cx H1 locs1 ls ⟨hz.trans hW.1, ?_⟩ hS1 hL)
  rw [xws_set (h := (σ, S, G)) (h' := (σ, xu S a k v, G)) hσ (x_setSelf hσ) (fun j hj z => xcell_eq (by funext i; simp [xu, hj]) (by funext i; simp [xul, hj]) z)]
  rw [xfs_set (h' := (σ, xu S a k v, G)) (r' := r) (by simp [xval, hk, xu, xul, xe]) (fun i hi => xval_eq (by simp [xu, hi]) (by simp [xul, hi]))] at hP
  exact hP
theorem xA.putL {idx a ci k : Nat} {v : Int64} {r : List (Option Nat)} (hd : xfetch M pc = some (.putfield idx, 3)) (hf : xputOk M.1.cls idx ci k) (hσ : σ[a]? = some (.inl (ci, r))) (hk : xkind ci k = 1) (hq : pc + 3 = q) (kk : xA X d M c n mc ms q L st (σ, S, xul G a k v) Q) : xA X d M c n mc ms pc L (.long v :: .ref a :: st) (σ, S, G) Q := by
  subst hq
  intro p l e R s m args below meth cd Z b base yI yP D cx H locs ls hW hS hL
  obtain ⟨C, T, N, hc, hkN, hw, hfin⟩ := hf
  obtain ⟨hu, hnm, hN, ty, hty, htk⟩ := xlay hc
  have hty2 : ty k = .long := by
    have h1 := htk k hkN
    rw [hk] at h1
    revert h1
    cases ty k <;> intro h1 <;> first | rfl | (simp [xtyB] at h1)
  refine x_put cx.ex cx.co cx.ts hu ty hty hnm cx.ow cx.2.1.2.1 hW.2 (xws_D base yI yP (σ, S, G)) hS a (xws_get (h := (σ, S, G)) hσ) hc k hkN (cx.ts _ hw) (fun _ h => h) hfin (hty k hkN) (by rw [hty2]; exact rfl) (by rw [hty2]; exact rfl) (by simp; omega) (cx.de hd) (fun H1 locs1 hz hP hS1 => kk p l e R s m args below meth cd Z b base yI yP D cx H1 locs1 ls ⟨hz.trans hW.1, ?_⟩ hS1 hL)
  rw [xws_set (h := (σ, S, G)) (h' := (σ, S, xul G a k v)) hσ (x_setSelf hσ) (fun j hj z => xcell_eq (by funext i; simp [xu, hj]) (by funext i; simp [xul, hj]) z)]
  rw [xfs_set (h' := (σ, S, xul G a k v)) (r' := r) (by simp [xval, hk, xu, xul, xe]) (fun i hi => xval_eq (by simp [xu, hi]) (by simp [xul, hi]))] at hP
  exact hP
theorem xA.putR {idx a ci k v : Nat} {r : List (Option Nat)} (hd : xfetch M pc = some (.putfield idx, 3)) (hf : xputFOk M.1.cls idx ci k) (hin : M.1.name = "<init>") (hσ : σ[a]? = some (.inl (ci, r))) (hk : xkind ci k = 2) (hrl : k < r.length) (hq : pc + 3 = q) (kk : xA X d M c n mc ms q L st (σ.set a (.inl (ci, r.set k (some v))), S, G) Q) : xA X d M c n mc ms pc L (.ref v :: .ref a :: st) (σ, S, G) Q := by
  subst hq
  intro p l e R s m args below meth cd Z b base yI yP D cx H locs ls hW hS hL
  obtain ⟨C, T, N, hc, hkN, hw, hfin, hdecl⟩ := hf
  obtain ⟨hu, hnm, hN, ty, hty, htk⟩ := xlay hc
  have hty2 : (∃ nm, ty k = .object nm) ∨ ∃ t, ty k = .array t := by
    have h1 := htk k hkN
    rw [hk] at h1
    revert h1
    cases ty k <;> intro h1 <;> first | exact Or.inl ⟨_, rfl⟩ | exact Or.inr ⟨_, rfl⟩ | (simp [xtyB] at h1)
  refine x_putF cx.ex cx.co cx.ts hu ty hty hnm cx.ow cx.2.1.2.1 hW.2 (xws_D base yI yP (σ, S, G)) hS a (xws_get (h := (σ, S, G)) hσ) hc k hkN (cx.ts _ hw) (fun _ h => h) hfin (cx.2.2.1.1.trans hin) hdecl (hty k hkN) (by rcases hty2 with ⟨_, h⟩ | ⟨_, h⟩ <;> rw [h] <;> rfl) (by rcases hty2 with ⟨_, h⟩ | ⟨_, h⟩ <;> rw [h] <;> rfl) (by simp; omega) (cx.de hd) (fun H1 locs1 hz hP hS1 => kk p l e R s m args below meth cd Z b base yI yP D cx H1 locs1 ls ⟨by simpa using hz.trans hW.1, ?_⟩ hS1 hL)
  rw [xws_set (h := (σ, S, G)) (h' := (σ.set a (.inl (ci, r.set k (some v))), S, G)) hσ rfl (fun j hj z => xcell_eq rfl rfl z)]
  rw [xfs_set (h' := (σ.set a (.inl (ci, r.set k (some v))), S, G)) (r' := r.set k (some v)) (by simp [xval, hk, xe, hrl, va_rf]) (fun i hi => by simp [xval, List.getElem?_set_ne (Ne.symm hi)])] at hP
  exact hP
theorem xA.iald {a N : Nat} {i : Int32} (hd : xfetch M pc = some (.iaload, 1)) (hσ : σ[a]? = some (.inr (.inl N))) (hin : vp_in i N) (hq : pc + 1 = q) (kk : xA X d M c n mc ms q L (.int (S a i.toNatClampNeg) :: st) (σ, S, G) Q) : xA X d M c n mc ms pc L (.int i :: .ref a :: st) (σ, S, G) Q := by
  subst hq
  intro p l e R s m args below meth cd Z b base yI yP D cx H locs ls hW hS hL
  exact va_iald cx.ex cx.co cx.2.1.2.1 hW.2 a 0 (xws_get (h := (σ, S, G)) hσ) rfl hin (cx.de hd) (kk p l e R s m args below meth cd Z b base yI yP D cx H locs ls hW hS hL)
theorem xA.iast {a N : Nat} {i v : Int32} (hd : xfetch M pc = some (.iastore, 1)) (hσ : σ[a]? = some (.inr (.inl N))) (hin : vp_in i N) (hq : pc + 1 = q) (kk : xA X d M c n mc ms q L st (σ, xu S a i.toNatClampNeg v, G) Q) : xA X d M c n mc ms pc L (.int v :: .int i :: .ref a :: st) (σ, S, G) Q := by
  subst hq
  intro p l e R s m args below meth cd Z b base yI yP D cx H locs ls hW hS hL
  refine x_iast cx.ex cx.co cx.2.1.2.1 hW.2 (xws_D base yI yP (σ, S, G)) hS a 0 (xws_get (h := (σ, S, G)) hσ) rfl hin (cx.de hd) (fun H1 locs1 hz hP hS1 => kk p l e R s m args below meth cd Z b base yI yP D cx H1 locs1 ls ⟨hz.trans hW.1, ?_⟩ hS1 hL)
  rw [xws_set (h := (σ, S, G)) (h' := (σ, xu S a i.toNatClampNeg v, G)) hσ (x_setSelf hσ) (fun j hj z => xcell_eq (h := (σ, S, G)) (h' := (σ, xu S a i.toNatClampNeg v, G)) (by funext i; simp [xu, hj]) rfl z)]
  have e9 : upd (S a) i.toNatClampNeg v = xu S a i.toNatClampNeg v a := by funext j; simp [upd, xu]
  rw [e9] at hP
  exact hP
theorem xA.alen {a N : Nat} (hd : xfetch M pc = some (.arraylength, 1)) (hσ : σ[a]? = some (.inr (.inl N))) (hq : pc + 1 = q) (kk : xA X d M c n mc ms q L (.int (nI N) :: st) (σ, S, G) Q) : xA X d M c n mc ms pc L (.ref a :: st) (σ, S, G) Q := by
  subst hq
  intro p l e R s m args below meth cd Z b base yI yP D cx H locs ls hW hS hL
  exact va_alen cx.ex cx.co cx.2.1.2.1 hW.2 a 0 (xws_get (h := (σ, S, G)) hσ) rfl rfl (cx.de hd) (kk p l e R s m args below meth cd Z b base yI yP D cx H locs ls hW hS hL)
theorem xA.alenR {a : Nat} {l0 : List (Option Nat)} (hd : xfetch M pc = some (.arraylength, 1)) (hσ : σ[a]? = some (.inr (.inr l0))) (hq : pc + 1 = q) (kk : xA X d M c n mc ms q L (.int (nI l0.length) :: st) (σ, S, G) Q) : xA X d M c n mc ms pc L (.ref a :: st) (σ, S, G) Q := by
  subst hq
  intro p l e R s m args below meth cd Z b base yI yP D cx H locs ls hW hS hL
  exact va_alen cx.ex cx.co cx.2.1.2.1 hW.2 a 1 (xws_get (h := (σ, S, G)) hσ) rfl rfl (cx.de hd) (kk p l e R s m args below meth cd Z b base yI yP D cx H locs ls hW hS hL)
theorem xA.aald {a a' : Nat} {l0 : List (Option Nat)} {i : Int32} (hd : xfetch M pc = some (.aaload, 1)) (hσ : σ[a]? = some (.inr (.inr l0))) (hin : vp_in i l0.length) (hv : l0[i.toNatClampNeg]? = some (some a')) (hq : pc + 1 = q) (kk : xA X d M c n mc ms q L (.ref a' :: st) (σ, S, G) Q) : xA X d M c n mc ms pc L (.int i :: .ref a :: st) (σ, S, G) Q := by
  subst hq
  intro p l e R s m args below meth cd Z b base yI yP D cx H locs ls hW hS hL
  refine va_aldq cx.ex cx.co cx.2.1.2.1 hW.2 a 1 (xws_get (h := (σ, S, G)) hσ) rfl hin (cx.de hd) ?_
  have e9 : va_rf ((l0.getD i.toNatClampNeg none).map (fun j => base + j)) = .ref (base + a') := by simp [List.getD_eq_getElem?_getD, hv, va_rf]
  rw [e9]
  exact kk p l e R s m args below meth cd Z b base yI yP D cx H locs ls hW hS hL
theorem xA.aast {a v ci : Nat} {r l0 : List (Option Nat)} {i : Int32} (hd : xfetch M pc = some (.aastore, 1)) (hσ : σ[a]? = some (.inr (.inr l0))) (hσv : σ[v]? = some (.inl (5, r))) (hin : vp_in i l0.length) (hq : pc + 1 = q) (kk : xA X d M c n mc ms q L st (σ.set a (.inr (.inr (l0.set i.toNatClampNeg (some v)))), S, G) Q) : xA X d M c n mc ms pc L (.ref v :: .int i :: .ref a :: st) (σ, S, G) Q := by
  subst hq
  intro p l e R s m args below meth cd Z b base yI yP D cx H locs ls hW hS hL
  refine x_astq (r := (RX5, TX5, 2)) cx.ex cx.co cx.2.1.2.1 hW.2 (xws_D base yI yP (σ, S, G)) hS a 1 v 5 (xws_get (h := (σ, S, G)) hσ) rfl (xws_get (h := (σ, S, G)) hσv) rfl hin (cx.de hd) (fun H1 locs1 hz hP hS1 => kk p l e R s m args below meth cd Z b base yI yP D cx H1 locs1 ls ⟨by simpa using hz.trans hW.1, ?_⟩ hS1 hL)
  have hlt : i.toNatClampNeg < l0.length := Nat.not_le.mp fun q => hin (Or.inr q)
  rw [xws_set (h := (σ, S, G)) (h' := (σ.set a (.inr (.inr (l0.set i.toNatClampNeg (some v)))), S, G)) hσ rfl (fun j hj z => xcell_eq rfl rfl z)]
  have e9 : (fun j => ((l0.set i.toNatClampNeg (some v)).getD j none).map (fun j => base + j)) = va_up (fun j => (l0.getD j none).map (fun j => base + j)) i.toNatClampNeg (some (base + v)) := by
    funext j
    by_cases hj : j = i.toNatClampNeg
    · subst hj
      simp [va_up, List.getD_eq_getElem?_getD, hlt]
    · simp [va_up, List.getD_eq_getElem?_getD, hj, List.getElem?_set_ne (Ne.symm hj)]
  simp only [xcell, List.length_set, e9]
  exact hP
theorem xA.sld {N x : Nat} {xs : Nat → Int32} {i : Int32} {h : xH} (hd : xfetch M pc = some (.iaload, 1)) (hin : vp_in i N) (hq : pc + 1 = q) (kk : xA (some (N, xs)) d M c n mc ms q L (.int (xs i.toNatClampNeg) :: st) h Q) : xA (some (N, xs)) d M c n mc ms pc L (.int i :: .retAddr x :: st) h Q := by
  subst hq
  intro p l e R s m args below meth cd Z b base yI yP D cx H locs ls hW hS hL
  have hX := cx.2.2.2.2.2.1
  exact va_sld cx.ex cx.co hX.1 (Nat.lt_of_lt_of_le hX.2 cx.2.2.2.2.1) (Nat.not_le.mpr hX.2) hS hin (cx.de hd) (kk p l e R s m args below meth cd Z b base yI yP D cx H locs ls hW hS hL)
theorem xA.slen {N x : Nat} {xs : Nat → Int32} {h : xH} (hd : xfetch M pc = some (.arraylength, 1)) (hq : pc + 1 = q) (kk : xA (some (N, xs)) d M c n mc ms q L (.int (nI N) :: st) h Q) : xA (some (N, xs)) d M c n mc ms pc L (.retAddr x :: st) h Q := by
  subst hq
  intro p l e R s m args below meth cd Z b base yI yP D cx H locs ls hW hS hL
  have hX := cx.2.2.2.2.2.1
  exact va_slen cx.ex cx.co hX.1 (Nat.lt_of_lt_of_le hX.2 cx.2.2.2.2.1) (Nat.not_le.mpr hX.2) hS (cx.de hd) (kk p l e R s m args below meth cd Z b base yI yP D cx H locs ls hW hS hL)
end XF
end
section
/-! ===== making ===== -/
/-- a store with a new number's places at zero -/
def xz {α : Type} (z : α) (S : Nat → Nat → α) (k : Nat) : Nat → Nat → α := fun j => if j = k then fun _ => z else S j
theorem xws_push {base : Nat} {yI yP : ClassId} {σ : List xSh} {S S' : Nat → Nat → Int32} {G G' : Nat → Nat → Int64} {sh : xSh} (h1 : ∀ j, j ≠ σ.length → S' j = S j) (h2 : ∀ j, j ≠ σ.length → G' j = G j) :
    xws base yI yP (σ ++ [sh], S', G') = xws base yI yP (σ, S, G) ++ [(base + σ.length, xcell base yI yP (σ ++ [sh], S', G') σ.length sh)] := by
  refine List.ext_getElem? fun j => ?_
  by_cases hj : j < σ.length
  · rw [List.getElem?_append_left (by rw [xws_len]; exact hj)]
    simp only [xws, List.getElem?_mapIdx]
    rw [List.getElem?_append_left hj]
    have hne : j ≠ σ.length := by omega
    cases σ[j]? with
    | none => rfl
    | some z => exact congrArg some (congrArg (Prod.mk _) (xcell_eq (h1 j hne) (h2 j hne) z))
  · rw [List.getElem?_append_right (by rw [xws_len]; exact Nat.not_lt.mp hj), xws_len]
    simp only [xws, List.getElem?_mapIdx]
    rw [List.getElem?_append_right (Nat.not_lt.mp hj)]
    cases hz : j - σ.length with
    | zero =>
      have : j = σ.length := by omega
      subst this
      rfl
    | succ k => simp
def xnewOk (own : String) (idx ci : Nat) : Prop := ∃ (C : String) (T : u_T) (N : Nat), vwCl[ci]? = some (C, T, N) ∧ Cond.classLink own idx C ∈ xBW ∧ Cond.instantiable C N ∈ xBW ∧ Cond.initialized C ∈ xBW
section XN
variable {X : Option (Nat × (Nat → Int32))} {d : Nat} {M : xM} {c n mc ms pc q : Nat} {L : List (Option Value)} {st : List Value} {σ : List xSh} {S : Nat → Nat → Int32} {G : Nat → Nat → Int64} {Q : Option Value → xH → Prop}
theorem xA.new {idx ci N : Nat} (hd : xfetch M pc = some (.new idx, 3)) (hf : xnewOk M.1.cls idx ci) (hN : xnf ci = N) (h1 : c + 1 ≤ mc) (h2 : n + N ≤ ms) (hq : pc + 3 = q) (kk : xA X d M (c + 1) (n + N) mc ms q L (.ref σ.length :: st) (σ ++ [.inl (ci, List.replicate N none)], xz 0 S σ.length, xz 0 G σ.length) Q) : xA X d M c n mc ms pc L st (σ, S, G) Q := by
  subst hq; subst hN
  intro p l e R s m args below meth cd Z b base yI yP D cx H locs ls hW hS hL
  obtain ⟨C, T, N, hc, hw1, hw2, hw3⟩ := hf
  obtain ⟨hu, hnm, hN, ty, hty, htk⟩ := xlay hc
  subst hN
  refine x_new (fs := (List.range (xnf ci)).map (xval base (σ ++ [.inl (ci, List.replicate (xnf ci) none)], xz 0 S σ.length, xz 0 G σ.length) σ.length ci (List.replicate (xnf ci) none))) cx.ex cx.co cx.ts hu ty hty cx.ow (cx.ts _ hw1) (cx.ts _ hw2) (cx.ts _ hw3) cx.2.1.2.1 hW.2 hS hc ?_ (Nat.le_trans h1 cx.2.2.2.1.2.2.1) (Nat.le_trans h2 cx.2.2.2.1.2.2.2) (cx.de hd) (fun H1 hz hP hS1 => ?_)
  · intro j hj
    have h3 := htk j hj
    simp only [vp_V, List.getD_eq_getElem?_getD, List.getElem?_map, List.getElem?_range hj, Option.map_some, Option.getD_some, xval]
    generalize xkind ci j = kd at h3 ⊢
    generalize ty j = t at h3 ⊢
    revert h3
    rcases kd with _ | _ | _ | _ | kd <;> cases t <;> intro h3 <;> first | (simp [xtyB] at h3; done) | (simp [xz, defaultValue, va_rf, List.getElem?_replicate]; done) | (simp [xz, defaultValue, va_rf, List.getElem?_replicate]; split <;> simp_all)
  · have hsz : H.size = base + σ.length := hW.1
    rw [hsz] at hP ⊢
    refine kk p l e R s m args below meth cd Z b base yI yP D cx H1 locs ls ⟨by rw [hz, hsz]; simp [Nat.add_assoc], ?_⟩ hS1 hL
    rw [xws_push (S := S) (G := G) (fun j hj => by simp [xz, hj]) (fun j hj => by simp [xz, hj])]
    exact hP
theorem xA.newa {i : Int32} {N : Nat} (hd : xfetch M pc = some (.newarray .int, 2)) (hw : Cond.arrayClass .int ∈ xBW) (hi : ¬ i < 0) (hN : i.toNatClampNeg = N) (hb : N * 4 ≤ 536870912) (h1 : c + 1 ≤ mc) (h2 : n + N ≤ ms) (hq : pc + 2 = q) (kk : xA X d M (c + 1) (n + N) mc ms q L (.ref σ.length :: st) (σ ++ [.inr (.inl N)], xz 0 S σ.length, xz 0 G σ.length) Q) : xA X d M c n mc ms pc L (.int i :: st) (σ, S, G) Q := by
  subst hq
  intro p l e R s m args below meth cd Z b base yI yP D cx H locs ls hW hS hL
  refine x_newa cx.ex cx.co (cx.ts _ hw) cx.2.1.2.1 hW.2 hS 0 rfl hi hN hb (Nat.le_trans h1 cx.2.2.2.1.2.2.1) (Nat.le_trans h2 cx.2.2.2.1.2.2.2) (cx.de hd) (fun H1 hz hP hS1 => ?_)
  have hsz : H.size = base + σ.length := hW.1
  rw [hsz] at hP ⊢
  refine kk p l e R s m args below meth cd Z b base yI yP D cx H1 locs ls ⟨by rw [hz, hsz]; simp [Nat.add_assoc], ?_⟩ hS1 hL
  rw [xws_push (S := S) (G := G) (fun j hj => by simp [xz, hj]) (fun j hj => by simp [xz, hj])]
  have e9 : xz 0 S σ.length σ.length = fun _ => 0 := by simp [xz]
  simp only [xcell, e9]
  exact hP
theorem xA.newq {i : Int32} {idx N : Nat} (hd : xfetch M pc = some (.anewarray idx, 3)) (hw : Cond.classLink M.1.cls idx RX5 ∈ xBW) (hi : ¬ i < 0) (hN : i.toNatClampNeg = N) (hb : N * 4 ≤ 536870912) (h1 : c + 1 ≤ mc) (h2 : n + N ≤ ms) (hq : pc + 3 = q) (kk : xA X d M (c + 1) (n + N) mc ms q L (.ref σ.length :: st) (σ ++ [.inr (.inr (List.replicate N none))], xz 0 S σ.length, xz 0 G σ.length) Q) : xA X d M c n mc ms pc L (.int i :: st) (σ, S, G) Q := by
  subst hq
  intro p l e R s m args below meth cd Z b base yI yP D cx H locs ls hW hS hL
  refine x_newq cx.ex cx.co cx.ow (cx.ts _ hw) cx.2.1.2.2.1 cx.2.1.2.1 hW.2 hS 1 rfl hi hN hb (Nat.le_trans h1 cx.2.2.2.1.2.2.1) (Nat.le_trans h2 cx.2.2.2.1.2.2.2) (cx.de hd) (fun H1 hz hP hS1 => ?_)
  have hsz : H.size = base + σ.length := hW.1
  rw [hsz] at hP ⊢
  refine kk p l e R s m args below meth cd Z b base yI yP D cx H1 locs ls ⟨by rw [hz, hsz]; simp [Nat.add_assoc], ?_⟩ hS1 hL
  rw [xws_push (S := S) (G := G) (fun j hj => by simp [xz, hj]) (fun j hj => by simp [xz, hj])]
  have e9 : (fun j => ((List.replicate N (none : Option Nat)).getD j none).map (fun j => base + j)) = fun _ => none := by
    funext j
    by_cases hj : j < N <;> simp [List.getD_eq_getElem?_getD, List.getElem?_replicate, hj]
  simp only [xcell, List.length_replicate, e9]
  exact hP
end XN
/-! ===== calls ===== -/
def xmOk (M : xM) : Prop := Cond.code M.1 M.2.1 M.2.2.1 M.2.2.2.1 ∈ xBW ∧ (M.1.cls ≠ "java/lang/invoke/MethodHandle" ∧ M.1.cls ≠ "java/lang/invoke/VarHandle" ∧ (parseMethodDescriptor M.1.desc).map (fun d => d.parameters.length) = some M.2.2.2.2.1) ∧ M.2.2.1 ≤ 27 ∧ plainName M.1.cls = true ∧ ∀ pc i n, xfetch M pc = some (i, n) → decode M.2.1 pc = .ok (i, n)
theorem xfetch_of {M : xM} (h : M.2.2.2.2.2.all (fun q => decide (decode M.2.1 q.1 = .ok (q.2.1, q.2.2))) = true) : ∀ pc i n, xfetch M pc = some (i, n) → decode M.2.1 pc = .ok (i, n) := by
  intro pc i n hf
  unfold xfetch at hf
  obtain ⟨l1, l2, he, -⟩ := List.lookup_eq_some_iff.mp hf
  have h1 := List.all_eq_true.mp h (pc, i, n) (by rw [he]; simp)
  simpa using h1
def xcV (own : String) (idx : Nat) (M : xM) : Prop := Cond.methodLink own idx M.1 ∈ xBW ∧ Cond.instanceMethod M.1 ∈ xBW ∧ Cond.selects M.1.cls M.1 M.1 ∈ xBW ∧ Cond.initialized M.1.cls ∈ xBW
def xcS (own : String) (idx : Nat) (M : xM) : Prop := Cond.methodLink own idx M.1 ∈ xBW ∧ Cond.static M.1 ∈ xBW ∧ Cond.initialized M.1.cls ∈ xBW
def xcI (own : String) (idx : Nat) (M : xM) : Prop := Cond.methodLink own idx M.1 ∈ xBW ∧ Cond.instanceMethod M.1 ∈ xBW ∧ Cond.initialized M.1.cls ∈ xBW ∧ M.1.name = "<init>" ∧ M.2.2.2.1 = none
def xcSN (own : String) (idx : Nat) (M : xM) : Prop := Cond.methodLinkNest own idx M.1 "HourAgo" ∈ lw_tbl ∧ Cond.static M.1 ∈ xBW ∧ Cond.initialized M.1.cls ∈ xBW
def xcIN (own : String) (idx : Nat) (M : xM) : Prop := Cond.methodLinkNest own idx M.1 "HourAgo" ∈ lw_tbl ∧ Cond.instanceMethod M.1 ∈ xBW ∧ Cond.initialized M.1.cls ∈ xBW ∧ M.1.name = "<init>" ∧ M.2.2.2.1 = none
theorem x_good {w : Cond} (h : w ∈ xBW) : GoodIn xBW (w :: xBW) := by
  intro v hv
  have h1 : v ∈ xBW := by
    rcases List.mem_cons.mp hv with h2 | h2
    · rw [h2]; exact h
    · exact h2
  exact ⟨h1, good_of_word (xW_of h1).2⟩
theorem xTb_of {yI yP : ClassId} {D : va_G} {s U : State} (hvm : s.vm.Alike U.vm) (hn : ∀ w, w ∈ lw_tbl → xnest w = true → va_Nw w s → va_Nw w U) (h : xTb yI yP D s) : xTb yI yP D U := ⟨va_K.moved hvm h.1, va_AO.moved hvm h.2.1, fun w h1 h2 => hn w h1 h2 (h.2.2 w h1 h2)⟩
theorem xTb_warm {yI yP : ClassId} {D : va_G} {s U : State} (hW : s.WarmedH U.vm) (h : xTb yI yP D s) : xTb yI yP D U := by
  refine xTb_of hW.alike (fun w h1 h2 h3 => ?_) h
  cases w <;> first | exact va_Nw.warmM hW h3 | (simp [xnest] at h2)
theorem xPc_blind {b base : Nat} {yI yP : ClassId} {D : va_G} {args : List Value} {h : xH} : FrameBlind (xPc b base yI yP D args h) := by
  intro a U g mk q
  refine ⟨q.1, q.2.1, xTb_of (U := U.calling g mk a) (Vm.Alike.refl U.vm) (fun w h1 h2 h3 => ?_) q.2.2⟩
  cases w <;> first | exact va_Nw.same rfl rfl h3 | (simp [xnest] at h2)
theorem x_ret {b base : Nat} {r : Option Value} {st : List Value} : (r.toList ++ st).map (xe b base) = (r.map (xe b base)).toList ++ st.map (xe b base) := by cases r <;> simp
theorem x_cats {b base : Nat} {st : List Value} (h : (st.map Value.category).sum ≤ 8) : ((st.map (xe b base)).map (fun v => v.category)).sum ≤ 8 := by
  rw [List.map_map]
  have e : ((fun v : Value => v.category) ∘ xe b base) = Value.category := by funext v; exact xe_cat b base v
  rw [e]
  exact h
section XC
variable {X : Option (Nat × (Nat → Int32))} {d : Nat} {M M' : xM} {c n mc ms mc' ms' pc q idx : Nat} {L : List (Option Value)} {As st stk : List Value} {h : xH} {Q Q' : Option Value → xH → Prop}
theorem xA.callV {a ci : Nat} {r : List (Option Nat)} (hd : xfetch M pc = some (.invokevirtual idx, 3)) (hk : xcV M.1.cls idx M') (hm : xmOk M') (hσ : h.1[a]? = some (.inl (ci, r))) (hci : (vwCl[ci]?).map (fun z => z.1) = some M'.1.cls) (hn : As.length = M'.2.2.2.2.1) (hLn : L.length = M.2.2.1) (hst : (st.map Value.category).sum ≤ 8) (hC : xC d M' (.ref a :: As) h mc' ms' Q') (hc1 : c + mc' ≤ mc) (hc2 : n + ms' ≤ ms) (hq : pc + 3 = q) (hs : stk = As.reverse ++ .ref a :: st) (kk : ∀ r h', Q' r h' → xA X (d + 1) M (c + mc') (n + ms') mc ms q L (r.toList ++ st) h' Q) : xA X (d + 1) M c n mc ms pc L stk h Q := by
  subst hq; subst hs
  intro p l e R s m args below meth cd Z b base yI yP D cx H locs ls hW hS hL
  obtain ⟨w1, w2, w3, w4⟩ := hk
  have hro := cx.2.2.2.1
  have hml := hm.2.2.1
  obtain ⟨⟨C, T, N⟩, hc, hcC⟩ := Option.map_eq_some_iff.mp hci
  dsimp only at hcC
  have hr := va_runV (e := e) (below := below) (meth := meth) (ms := ms') (mc := mc') (cells := c) (slots := n) (locs := locs) (g := F0 m pc ls ((As.reverse ++ .ref a :: st).map (xe b base))) (C := M'.1.cls) (As := As.map (xe b base)) (rest := st.map (xe b base)) ⟨cx.ex, cx.co, cx.1.2.2.1, cx.ow, cx.ts⟩ (hC l b base yI yP D) ⟨callB_of (ws' := xBW) M'.2.2.2.2.1 cx.ts (x_good hm.1) rfl rfl rfl (cx.ts _ w4) (cx.ts _ w1) hm.2.1 ⟨by show d + 1 ≤ R.frames; omega, by show 8 + (M'.2.2.1 + 11) + 46 * d ≤ R.locals; omega⟩, cx.ts _ w2, cx.ts _ w3⟩ ⟨xPc_blind, hcC ▸ va_recv cx.2.1.2.1 hW.2 (q := (C, T, N)) hc (xws_get hσ), fun U hU hWm => ⟨rfl, by rw [hU]; exact hW, xTb_warm hWm cx.2.1.2⟩⟩ rfl (by rw [List.length_map]; exact hn) (hL.1.trans hLn) (by simp [xe]) (lv_room (x_cats hst)) (cx.de hd) ⟨Nat.le_trans hc1 hro.2.2.1, Nat.le_trans hc2 hro.2.2.2⟩
  refine x_call hr hS cx.2.2.2.2.1 (fun r h' H1 locs1 hq hW1 hS1 => ?_)
  rw [← x_ret]
  exact kk r h' hq p l e R s m args below meth cd Z b base yI yP D cx H1 locs1 ls hW1 hS1 hL
theorem xA.callS (hd : xfetch M pc = some (.invokestatic idx, 3)) (hk : xcS M.1.cls idx M') (hm : xmOk M') (hn : As.length = M'.2.2.2.2.1) (hLn : L.length = M.2.2.1) (hst : (st.map Value.category).sum ≤ 8) (hC : xC d M' As h mc' ms' Q') (hc1 : c + mc' ≤ mc) (hc2 : n + ms' ≤ ms) (hq : pc + 3 = q) (hs : stk = As.reverse ++ st) (kk : ∀ r h', Q' r h' → xA X (d + 1) M (c + mc') (n + ms') mc ms q L (r.toList ++ st) h' Q) : xA X (d + 1) M c n mc ms pc L stk h Q := by
  subst hq; subst hs
  intro p l e R s m args below meth cd Z b base yI yP D cx H locs ls hW hS hL
  obtain ⟨w1, w2, w4⟩ := hk
  have hro := cx.2.2.2.1
  have hml := hm.2.2.1
  have hr := va_runS (e := e) (below := below) (meth := meth) (ms := ms') (mc := mc') (cells := c) (slots := n) (locs := locs) (g := F0 m pc ls ((As.reverse ++ st).map (xe b base))) (As := As.map (xe b base)) (rest := st.map (xe b base)) ⟨cx.ex, cx.co, cx.1.2.2.1, cx.ow, cx.ts⟩ (hC l b base yI yP D) ⟨callB_of (ws' := xBW) M'.2.2.2.2.1 cx.ts (x_good hm.1) rfl rfl rfl (cx.ts _ w4) (cx.ts _ w1) hm.2.1 ⟨by show d + 1 ≤ R.frames; omega, by show 8 + (M'.2.2.1 + 11) + 46 * d ≤ R.locals; omega⟩, cx.ts _ w2⟩ ⟨xPc_blind, fun U hU hWm => ⟨rfl, by rw [hU]; exact hW, xTb_warm hWm cx.2.1.2⟩⟩ rfl (by rw [List.length_map]; exact hn) (hL.1.trans hLn) (by simp [xe]) (lv_room (x_cats hst)) (cx.de hd) ⟨Nat.le_trans hc1 hro.2.2.1, Nat.le_trans hc2 hro.2.2.2⟩
  refine x_call hr hS cx.2.2.2.2.1 (fun r h' H1 locs1 hq hW1 hS1 => ?_)
  rw [← x_ret]
  exact kk r h' hq p l e R s m args below meth cd Z b base yI yP D cx H1 locs1 ls hW1 hS1 hL
theorem xA.callI {a : Nat} (hd : xfetch M pc = some (.invokespecial idx, 3)) (hk : xcI M.1.cls idx M') (hm : xmOk M') (hn : As.length = M'.2.2.2.2.1) (hLn : L.length = M.2.2.1) (hst : (st.map Value.category).sum ≤ 8) (hC : xC d M' (.ref a :: As) h mc' ms' Q') (hc1 : c + mc' ≤ mc) (hc2 : n + ms' ≤ ms) (hq : pc + 3 = q) (hs : stk = As.reverse ++ .ref a :: st) (kk : ∀ r h', Q' r h' → xA X (d + 1) M (c + mc') (n + ms') mc ms q L (r.toList ++ st) h' Q) : xA X (d + 1) M c n mc ms pc L stk h Q := by
  subst hq; subst hs
  intro p l e R s m args below meth cd Z b base yI yP D cx H locs ls hW hS hL
  obtain ⟨w1, w2, w4, w5, w6⟩ := hk
  have hro := cx.2.2.2.1
  have hml := hm.2.2.1
  have hr := va_runI (e := e) (below := below) (meth := meth) (ms := ms') (mc := mc') (cells := c) (slots := n) (locs := locs) (g := F0 m pc ls ((As.reverse ++ .ref a :: st).map (xe b base))) (As := As.map (xe b base)) (rest := st.map (xe b base)) ⟨cx.ex, cx.co, cx.1.2.2.1, cx.ow, cx.ts⟩ (hC l b base yI yP D) ⟨by rw [← w6]; exact callB_of (ws' := xBW) M'.2.2.2.2.1 cx.ts (x_good hm.1) rfl rfl rfl (cx.ts _ w4) (cx.ts _ w1) hm.2.1 ⟨by show d + 1 ≤ R.frames; omega, by show 8 + (M'.2.2.1 + 11) + 46 * d ≤ R.locals; omega⟩, w5, cx.ts _ w2⟩ ⟨xPc_blind, fun U hU hWm => ⟨rfl, by rw [hU]; exact hW, xTb_warm hWm cx.2.1.2⟩⟩ rfl (by rw [List.length_map]; exact hn) (hL.1.trans hLn) (by simp [xe]) (lv_room (x_cats hst)) (cx.de hd) ⟨Nat.le_trans hc1 hro.2.2.1, Nat.le_trans hc2 hro.2.2.2⟩
  refine x_call hr hS cx.2.2.2.2.1 (fun r h' H1 locs1 hq hW1 hS1 => ?_)
  rw [← x_ret]
  exact kk r h' hq p l e R s m args below meth cd Z b base yI yP D cx H1 locs1 ls hW1 hS1 hL
theorem xA.callSN (hd : xfetch M pc = some (.invokestatic idx, 3)) (hk : xcSN M.1.cls idx M') (hm : xmOk M') (hn : As.length = M'.2.2.2.2.1) (hLn : L.length = M.2.2.1) (hst : (st.map Value.category).sum ≤ 8) (hC : xC d M' As h mc' ms' Q') (hc1 : c + mc' ≤ mc) (hc2 : n + ms' ≤ ms) (hq : pc + 3 = q) (hs : stk = As.reverse ++ st) (kk : ∀ r h', Q' r h' → xA X (d + 1) M (c + mc') (n + ms') mc ms q L (r.toList ++ st) h' Q) : xA X (d + 1) M c n mc ms pc L stk h Q := by
  subst hq; subst hs
  intro p l e R s m args below meth cd Z b base yI yP D cx H locs ls hW hS hL
  obtain ⟨w1, w2, w4⟩ := hk
  have hro := cx.2.2.2.1
  have hml := hm.2.2.1
  have hr := va_runSN (e := e) (below := below) (meth := meth) (ms := ms') (mc := mc') (cells := c) (slots := n) (locs := locs) (g := F0 m pc ls ((As.reverse ++ st).map (xe b base))) (As := As.map (xe b base)) (rest := st.map (xe b base)) ⟨cx.ex, cx.co, cx.1.2.2.1, cx.ow, cx.ts⟩ (hC l b base yI yP D) ⟨va_cnB (ws' := xBW) M'.2.2.2.2.1 cx.ts (x_good hm.1) rfl rfl rfl (cx.2.1.2.2.2 _ w1 rfl) (cx.ts _ w4) hm.2.1 ⟨by show d + 1 ≤ R.frames; omega, by show 8 + (M'.2.2.1 + 11) + 46 * d ≤ R.locals; omega⟩, cx.ts _ w2, trivial⟩ ⟨xPc_blind, fun U hU hWm => ⟨rfl, by rw [hU]; exact hW, xTb_warm hWm cx.2.1.2⟩⟩ rfl (by rw [List.length_map]; exact hn) (hL.1.trans hLn) (by simp [xe]) (lv_room (x_cats hst)) (cx.de hd) ⟨Nat.le_trans hc1 hro.2.2.1, Nat.le_trans hc2 hro.2.2.2⟩
  refine x_call hr hS cx.2.2.2.2.1 (fun r h' H1 locs1 hq hW1 hS1 => ?_)
  rw [← x_ret]
  exact kk r h' hq p l e R s m args below meth cd Z b base yI yP D cx H1 locs1 ls hW1 hS1 hL
theorem xA.callIN {a : Nat} (hd : xfetch M pc = some (.invokespecial idx, 3)) (hk : xcIN M.1.cls idx M') (hm : xmOk M') (hn : As.length = M'.2.2.2.2.1) (hLn : L.length = M.2.2.1) (hst : (st.map Value.category).sum ≤ 8) (hC : xC d M' (.ref a :: As) h mc' ms' Q') (hc1 : c + mc' ≤ mc) (hc2 : n + ms' ≤ ms) (hq : pc + 3 = q) (hs : stk = As.reverse ++ .ref a :: st) (kk : ∀ r h', Q' r h' → xA X (d + 1) M (c + mc') (n + ms') mc ms q L (r.toList ++ st) h' Q) : xA X (d + 1) M c n mc ms pc L stk h Q := by
  subst hq; subst hs
  intro p l e R s m args below meth cd Z b base yI yP D cx H locs ls hW hS hL
  obtain ⟨w1, w2, w4, w5, w6⟩ := hk
  have hro := cx.2.2.2.1
  have hml := hm.2.2.1
  have hr := va_runIN (e := e) (below := below) (meth := meth) (ms := ms') (mc := mc') (cells := c) (slots := n) (locs := locs) (g := F0 m pc ls ((As.reverse ++ .ref a :: st).map (xe b base))) (As := As.map (xe b base)) (rest := st.map (xe b base)) ⟨cx.ex, cx.co, cx.1.2.2.1, cx.ow, cx.ts⟩ (hC l b base yI yP D) ⟨by rw [← w6]; exact va_cnB (ws' := xBW) M'.2.2.2.2.1 cx.ts (x_good hm.1) rfl rfl rfl (cx.2.1.2.2.2 _ w1 rfl) (cx.ts _ w4) hm.2.1 ⟨by show d + 1 ≤ R.frames; omega, by show 8 + (M'.2.2.1 + 11) + 46 * d ≤ R.locals; omega⟩, w5, cx.ts _ w2⟩ ⟨xPc_blind, fun U hU hWm => ⟨rfl, by rw [hU]; exact hW, xTb_warm hWm cx.2.1.2⟩⟩ rfl (by rw [List.length_map]; exact hn) (hL.1.trans hLn) (by simp [xe]) (lv_room (x_cats hst)) (cx.de hd) ⟨Nat.le_trans hc1 hro.2.2.1, Nat.le_trans hc2 hro.2.2.2⟩
  refine x_call hr hS cx.2.2.2.2.1 (fun r h' H1 locs1 hq hW1 hS1 => ?_)
  rw [← x_ret]
  exact kk r h' hq p l e R s m args below meth cd Z b base yI yP D cx H1 locs1 ls hW1 hS1 hL
theorem xA.objInit {a : Nat} (hd : xfetch M pc = some (.invokespecial idx, 3)) (hk : Cond.methodLink M.1.cls idx objectInit ∈ xBW) (hk2 : Cond.instanceMethod objectInit ∈ xBW) (hk3 : Cond.code objectInit ⟨#[0xb1]⟩ 1 none ∈ xBW) (hLn : L.length = M.2.2.1) (hst : (st.map Value.category).sum ≤ 8) (hq : pc + 3 = q) (kk : xA X (d + 1) M c n mc ms q L st h Q) : xA X (d + 1) M c n mc ms pc L (.ref a :: st) h Q := by
  subst hq
  intro p l e R s m args below meth cd Z b base yI yP D cx H locs ls hW hS hL
  have hro := cx.2.2.2.1
  have h8 := lv_room (m := m) (pc := pc) (ls := ls) (rest := (.ref a :: st : List Value).map (xe b base)) (x_cats (b := b) (base := base) hst)
  refine W.objInit (g := F0 m pc ls ((.ref a :: st : List Value).map (xe b base))) cx.ex cx.co cx.ow (cx.ts _ hk) (cx.ts _ hk2) (cx.ts _ hk3) rfl (by rw [cx.1.2.2.1]; exact hL.1.trans hLn) rfl (cx.de hd) (by omega) (by omega) (kk p l e R s m args below meth cd Z b base yI yP D cx H locs ls hW hS hL)
end XC
/-! ===== entry ===== -/
def xlocs : List Value → List (Option Value)
  | [] => []
  | v :: vs => if v.category = 2 then some v :: none :: xlocs vs else some v :: xlocs vs
def xargs (n : Nat) (args : List Value) : List (Option Value) := xlocs args ++ List.replicate (n - (xlocs args).length) none
theorem xlocs_cons (v : Value) (vs : List Value) : xlocs (v :: vs) = if v.category = 2 then some v :: none :: xlocs vs else some v :: xlocs vs := rfl
theorem xlocs_mem {b base : Nat} : ∀ (args : List Value) (o i : Nat) (v : Value), (xlocs args)[i]? = some (some v) → (o + i, xe b base v) ∈ lv_args o (args.map (xe b base))
  | [], o, i, v, h => by simp [xlocs] at h
  | w :: vs, o, i, v, h => by
    unfold xlocs at h
    rw [List.map_cons]
    unfold lv_args
    rw [xe_cat]
    by_cases hc : w.category = 2
    · rw [if_pos hc] at h
      rw [if_pos hc]
      match i, h with
      | 0, h => simp at h; subst h; exact List.mem_cons_self
      | 1, h => simp at h
      | i + 2, h =>
        have h1 := xlocs_mem (b := b) (base := base) vs (o + 2) i v (by simpa using h)
        rw [show o + (i + 2) = o + 2 + i by omega]
        exact List.mem_cons_of_mem _ h1
    · rw [if_neg hc] at h
      rw [if_neg hc]
      match i, h with
      | 0, h => simp at h; subst h; exact List.mem_cons_self
      | i + 1, h =>
        have h1 := xlocs_mem (b := b) (base := base) vs (o + 1) i v (by simpa using h)
        rw [show o + (i + 1) = o + 1 + i by omega]
        exact List.mem_cons_of_mem _ h1
theorem xlocs_len {b base : Nat} : ∀ (args : List Value), (lg_sl (args.map (xe b base))).length = (xlocs args).length
  | [] => rfl
  | w :: vs => by
    have h1 := xlocs_len (b := b) (base := base) vs
    unfold lg_sl at h1 ⊢
    rw [List.map_cons, List.flatMap_cons, List.length_append, h1, xlocs_cons, xe_cat]
    by_cases hc : w.category = 2
    · simp [hc]; omega
    · simp [hc]; omega
theorem xLs_entry {b base : Nat} {args : List Value} {nL : Nat} (hlen : (xlocs args).length ≤ nL) : xLs b base ((lg_sl (args.map (xe b base)) ++ List.replicate (nL - (lg_sl (args.map (xe b base))).length) Slot.unset).toArray) (xargs nL args) := by
  have hl := lv_entry (args.map (xe b base)) (n := nL) (by rw [xlocs_len]; exact hlen)
  refine ⟨by rw [hl.1]; simp [xargs]; omega, hl.2.1, fun i v hi => ?_⟩
  refine hl.2.2 (i, xe b base v) ?_
  have h1 : (xlocs args)[i]? = some (some v) := by
    unfold xargs at hi
    by_cases hj : i < (xlocs args).length
    · rwa [List.getElem?_append_left hj] at hi
    · rw [List.getElem?_append_right (Nat.not_lt.mp hj)] at hi
      have := List.mem_of_getElem? hi
      simp at this
  have h2 := xlocs_mem (b := b) (base := base) args 0 i v h1
  rwa [Nat.zero_add] at h2
theorem xC.of {d : Nat} {M : xM} {args : List Value} {h : xH} {mc ms : Nat} {Q : Option Value → xH → Prop} {L : List (Option Value)} (hm : xmOk M) (hlen : (xlocs args).length ≤ M.2.2.1) (hL : xargs M.2.2.1 args = L) (k : xA none d M 0 0 mc ms 0 L [] h Q) : xC d M args h mc ms Q := by
  subst hL
  intro l b base yI yP D
  refine Met.ofW (cc := M.2.1) (maxL := M.2.2.1) (ret := M.2.2.2.1) hm.2.2.2.1 rfl ?_
  intro p e s m a below meth cd s₁ B hml hv
  obtain ⟨rfl, hW, hT⟩ := hv
  rw [lg_entry_eq]
  have hbs : base ≤ s.heap.size := by rw [hW.1]; omega
  refine k p l e _ s m _ below meth cd _ b base yI yP D ⟨⟨B.exec, B.bytes, hml, findClass_of_methodNamed B.named⟩, ⟨fun w hw => atoms_spec (ws := .code M.1 M.2.1 M.2.2.1 M.2.2.2.1 :: xBW) B.pre w (List.mem_cons_of_mem _ hw), hT⟩, ⟨(name_of_methodNamed B.named B.method).1, hm.2.2.2.2⟩, ⟨Nat.le_refl _, Nat.le_refl _, Nat.le_refl _, Nat.le_refl _⟩, hbs, trivial, ?_⟩ s.heap [] _ hW va_S.rf (xLs_entry hlen)
  intro pc ls i st r h' H locs hd hret hQ hW' hS'
  have post : ∀ (r : Option Value) (t : State), Q r h' → t.heap = H → xQc b base yI yP D Q (args.map (xe b base)).toArray s (.returned (r.map (xe b base))) t := fun r t hQ ht => ⟨r, h', rfl, hQ, by rw [ht]; exact hW', by rw [ht]; exact hS'.1, fun q hq => by rw [ht]; exact hS'.2.1 q (Nat.lt_of_lt_of_le hq hbs) (Nat.not_le.mpr hq)⟩
  rcases hret with ⟨rfl, v, rfl, rfl, ty, hr, hn⟩ | ⟨rfl, v, rfl, rfl, hr⟩ | ⟨rfl, v, rfl, rfl, ⟨nm, hr⟩, hv⟩ | ⟨rfl, rfl, rfl, hr⟩
  · exact W.zret B.exec B.bytes (B.returns.trans hr) hn (fun t ht hWm => post (some (.int v)) t hQ ht) hS'.2.2 hd B.notSynchronized
  · exact W.lret B.exec B.bytes (B.returns.trans hr) (fun t ht hWm => post (some (.long v)) t hQ ht) hS'.2.2 hd B.notSynchronized
  · refine W.aret (v := xe b base v) B.exec B.bytes (B.returns.trans hr) (Or.inl ⟨nm, rfl⟩) ?_ (fun t ht hWm => post (some v) t hQ ht) hS'.2.2 hd B.notSynchronized
    rcases hv with rfl | ⟨a, rfl⟩
    · exact Or.inl rfl
    · exact Or.inr ⟨_, rfl⟩
  · exact W.vret B.exec B.bytes (B.returns.trans hr) (fun t ht hWm => post none t hQ ht) hS'.2.2 hd B.notSynchronized
end
section
/-! ===== words of the tables, each at its place ===== -/
theorem w0 : Cond.selects RX1 yX1_clear yX1_clear ∈ xBW := xBW_of ⟨List.mem_of_getElem? (i := 0) (by decide +kernel), rfl⟩
theorem w1 : Cond.selects RX1 yX1_takes yX1_takes ∈ xBW := xBW_of ⟨List.mem_of_getElem? (i := 1) (by decide +kernel), rfl⟩
theorem w2 : Cond.selects RX1 yX1_goesOn yX1_goesOn ∈ xBW := xBW_of ⟨List.mem_of_getElem? (i := 2) (by decide +kernel), rfl⟩
theorem w3 : Cond.selects RX1 yX1_addsDoor yX1_addsDoor ∈ xBW := xBW_of ⟨List.mem_of_getElem? (i := 3) (by decide +kernel), rfl⟩
theorem w4 : Cond.selects RX1 yX1_addsSight yX1_addsSight ∈ xBW := xBW_of ⟨List.mem_of_getElem? (i := 4) (by decide +kernel), rfl⟩
theorem w5 : Cond.selects RX9 yX9_hasHouse yX9_hasHouse ∈ xBW := xBW_of ⟨List.mem_of_getElem? (i := 5) (by decide +kernel), rfl⟩
theorem w6 : Cond.selects RX9 yX9_personAt yX9_personAt ∈ xBW := xBW_of ⟨List.mem_of_getElem? (i := 6) (by decide +kernel), rfl⟩
theorem w7 : Cond.selects RX3 yX3_add yX3_add ∈ xBW := xBW_of ⟨List.mem_of_getElem? (i := 7) (by decide +kernel), rfl⟩
theorem w8 : Cond.selects RX3 yX3_takes yX3_takes ∈ xBW := xBW_of ⟨List.mem_of_getElem? (i := 8) (by decide +kernel), rfl⟩
theorem w9 : Cond.selects RX5 yX5_isMetBySelf yX5_isMetBySelf ∈ xBW := xBW_of ⟨List.mem_of_getElem? (i := 9) (by decide +kernel), rfl⟩
theorem w10 : Cond.selects RX8 yX8_waysOn yX8_waysOn ∈ xBW := xBW_of ⟨List.mem_of_getElem? (i := 10) (by decide +kernel), rfl⟩
theorem w11 : Cond.selects RX8 yX8_draw yX8_draw ∈ xBW := xBW_of ⟨List.mem_of_getElem? (i := 11) (by decide +kernel), rfl⟩
theorem w12 : Cond.selects RX8 yX8_take yX8_take ∈ xBW := xBW_of ⟨List.mem_of_getElem? (i := 12) (by decide +kernel), rfl⟩
theorem w13 : Cond.selects RX9 yX9_usersOf yX9_usersOf ∈ xBW := xBW_of ⟨List.mem_of_getElem? (i := 13) (by decide +kernel), rfl⟩
theorem w14 : Cond.initialized RL ∈ xBW := xBW_of ⟨List.mem_of_getElem? (i := 14) (by decide +kernel), rfl⟩
theorem w15 : Cond.initialized RX9 ∈ xBW := xBW_of ⟨List.mem_of_getElem? (i := 15) (by decide +kernel), rfl⟩
theorem w16 : Cond.initialized RX4 ∈ xBW := xBW_of ⟨List.mem_of_getElem? (i := 16) (by decide +kernel), rfl⟩
theorem w17 : Cond.initialized RX1 ∈ xBW := xBW_of ⟨List.mem_of_getElem? (i := 17) (by decide +kernel), rfl⟩
theorem w18 : Cond.initialized RX3 ∈ xBW := xBW_of ⟨List.mem_of_getElem? (i := 18) (by decide +kernel), rfl⟩
theorem w19 : Cond.initialized RX7 ∈ xBW := xBW_of ⟨List.mem_of_getElem? (i := 19) (by decide +kernel), rfl⟩
theorem w20 : Cond.initialized RX0 ∈ xBW := xBW_of ⟨List.mem_of_getElem? (i := 20) (by decide +kernel), rfl⟩
theorem w21 : Cond.initialized RX2 ∈ xBW := xBW_of ⟨List.mem_of_getElem? (i := 21) (by decide +kernel), rfl⟩
theorem w22 : Cond.initialized RX5 ∈ xBW := xBW_of ⟨List.mem_of_getElem? (i := 22) (by decide +kernel), rfl⟩
theorem w23 : Cond.initialized RX6 ∈ xBW := xBW_of ⟨List.mem_of_getElem? (i := 23) (by decide +kernel), rfl⟩
theorem w24 : Cond.initialized RX8 ∈ xBW := xBW_of ⟨List.mem_of_getElem? (i := 24) (by decide +kernel), rfl⟩
theorem w25 : Cond.classLink RL 19 RX9 ∈ xBW := xBW_of ⟨List.mem_of_getElem? (i := 25) (by decide +kernel), rfl⟩
theorem w26 : Cond.instantiable RX9 13 ∈ xBW := xBW_of ⟨List.mem_of_getElem? (i := 26) (by decide +kernel), rfl⟩
theorem w27 : Cond.methodLink RL 74 yX9_init ∈ xBW := xBW_of ⟨List.mem_of_getElem? (i := 27) (by decide +kernel), rfl⟩
theorem w28 : Cond.instanceMethod yX9_init ∈ xBW := xBW_of ⟨List.mem_of_getElem? (i := 28) (by decide +kernel), rfl⟩
set_option maxRecDepth 100000 in
theorem w29 : Cond.code yX9_init cX9_init 2 none ∈ xBW := xBW_of ⟨List.mem_of_getElem? (i := 29) rfl, rfl⟩
theorem w30 : Cond.methodLink RX9 3 objectInit ∈ xBW := xBW_of ⟨List.mem_of_getElem? (i := 30) (by decide +kernel), rfl⟩
theorem w31 : Cond.instanceMethod objectInit ∈ xBW := xBW_of ⟨List.mem_of_getElem? (i := 31) (by decide +kernel), rfl⟩
set_option maxRecDepth 100000 in
theorem w32 : Cond.code objectInit ⟨#[0xb1]⟩ 1 none ∈ xBW := xBW_of ⟨List.mem_of_getElem? (i := 32) rfl, rfl⟩
theorem w33 : Cond.classLink RX9 9 RX4 ∈ xBW := xBW_of ⟨List.mem_of_getElem? (i := 33) (by decide +kernel), rfl⟩
theorem w34 : Cond.instantiable RX4 2 ∈ xBW := xBW_of ⟨List.mem_of_getElem? (i := 34) (by decide +kernel), rfl⟩
theorem w35 : Cond.methodLinkNest RX9 11 yX4_init "HourAgo" ∈ lw_tbl := List.mem_of_getElem? (i := 35) (by decide +kernel)
theorem w36 : Cond.instanceMethod yX4_init ∈ xBW := xBW_of ⟨List.mem_of_getElem? (i := 36) (by decide +kernel), rfl⟩
set_option maxRecDepth 100000 in
theorem w37 : Cond.code yX4_init cX4_init 1 none ∈ xBW := xBW_of ⟨List.mem_of_getElem? (i := 37) rfl, rfl⟩
theorem w38 : Cond.methodLink RX4 3 objectInit ∈ xBW := xBW_of ⟨List.mem_of_getElem? (i := 38) (by decide +kernel), rfl⟩
theorem w39 : Cond.fieldLink RX4 9 "HourAgo$Page" "codes" "[I" ∈ xBW := xBW_of ⟨List.mem_of_getElem? (i := 39) (by decide +kernel), rfl⟩
theorem w40 : Cond.fieldLink RX4 21 "HourAgo$Page" "length" "I" ∈ xBW := xBW_of ⟨List.mem_of_getElem? (i := 40) (by decide +kernel), rfl⟩
theorem w46 : Cond.arrayClass .int ∈ xBW := xBW_of ⟨List.mem_of_getElem? (i := 46) (by decide +kernel), rfl⟩
theorem w47 : Cond.classLink RX9 16 RX1 ∈ xBW := xBW_of ⟨List.mem_of_getElem? (i := 47) (by decide +kernel), rfl⟩
theorem w48 : Cond.instantiable RX1 8 ∈ xBW := xBW_of ⟨List.mem_of_getElem? (i := 48) (by decide +kernel), rfl⟩
theorem w49 : Cond.methodLinkNest RX9 18 yX1_init "HourAgo" ∈ lw_tbl := List.mem_of_getElem? (i := 49) (by decide +kernel)
theorem w50 : Cond.instanceMethod yX1_init ∈ xBW := xBW_of ⟨List.mem_of_getElem? (i := 50) (by decide +kernel), rfl⟩
set_option maxRecDepth 100000 in
theorem w51 : Cond.code yX1_init cX1_init 1 none ∈ xBW := xBW_of ⟨List.mem_of_getElem? (i := 51) rfl, rfl⟩
theorem w52 : Cond.methodLink RX1 3 objectInit ∈ xBW := xBW_of ⟨List.mem_of_getElem? (i := 52) (by decide +kernel), rfl⟩
theorem w53 : Cond.fieldLink RX1 9 "HourAgo$House" "doorNumbers" "[I" ∈ xBW := xBW_of ⟨List.mem_of_getElem? (i := 53) (by decide +kernel), rfl⟩
theorem w54 : Cond.fieldLink RX1 15 "HourAgo$House" "seenRooms" "[I" ∈ xBW := xBW_of ⟨List.mem_of_getElem? (i := 54) (by decide +kernel), rfl⟩
theorem w55 : Cond.fieldLink RX1 42 "HourAgo$House" "doors" "I" ∈ xBW := xBW_of ⟨List.mem_of_getElem? (i := 55) (by decide +kernel), rfl⟩
theorem w56 : Cond.fieldLink RX1 45 "HourAgo$House" "sights" "I" ∈ xBW := xBW_of ⟨List.mem_of_getElem? (i := 56) (by decide +kernel), rfl⟩
theorem w57 : Cond.fieldLink RX1 18 "HourAgo$House" "lowRoom" "I" ∈ xBW := xBW_of ⟨List.mem_of_getElem? (i := 57) (by decide +kernel), rfl⟩
theorem w58 : Cond.fieldLink RX1 48 "HourAgo$House" "back" "I" ∈ xBW := xBW_of ⟨List.mem_of_getElem? (i := 58) (by decide +kernel), rfl⟩
theorem w59 : Cond.fieldLink RX1 39 "HourAgo$House" "stage" "I" ∈ xBW := xBW_of ⟨List.mem_of_getElem? (i := 59) (by decide +kernel), rfl⟩
theorem w60 : Cond.fieldLink RX1 54 "HourAgo$House" "firstRoom" "I" ∈ xBW := xBW_of ⟨List.mem_of_getElem? (i := 60) (by decide +kernel), rfl⟩
theorem w78 : Cond.classLink RX9 26 RX3 ∈ xBW := xBW_of ⟨List.mem_of_getElem? (i := 78) (by decide +kernel), rfl⟩
theorem w79 : Cond.instantiable RX3 4 ∈ xBW := xBW_of ⟨List.mem_of_getElem? (i := 79) (by decide +kernel), rfl⟩
theorem w80 : Cond.methodLinkNest RX9 28 yX3_init "HourAgo" ∈ lw_tbl := List.mem_of_getElem? (i := 80) (by decide +kernel)
theorem w81 : Cond.instanceMethod yX3_init ∈ xBW := xBW_of ⟨List.mem_of_getElem? (i := 81) (by decide +kernel), rfl⟩
set_option maxRecDepth 100000 in
theorem w82 : Cond.code yX3_init cX3_init 1 none ∈ xBW := xBW_of ⟨List.mem_of_getElem? (i := 82) rfl, rfl⟩
theorem w83 : Cond.methodLink RX3 3 objectInit ∈ xBW := xBW_of ⟨List.mem_of_getElem? (i := 83) (by decide +kernel), rfl⟩
theorem w84 : Cond.fieldLink RX3 11 "HourAgo$Life" "spots" "[I" ∈ xBW := xBW_of ⟨List.mem_of_getElem? (i := 84) (by decide +kernel), rfl⟩
theorem w85 : Cond.fieldLink RX3 79 "HourAgo$Life" "selves" "I" ∈ xBW := xBW_of ⟨List.mem_of_getElem? (i := 85) (by decide +kernel), rfl⟩
theorem w86 : Cond.fieldLink RX3 66 "HourAgo$Life" "throughs" "I" ∈ xBW := xBW_of ⟨List.mem_of_getElem? (i := 86) (by decide +kernel), rfl⟩
theorem w87 : Cond.fieldLink RX3 70 "HourAgo$Life" "doorBits" "I" ∈ xBW := xBW_of ⟨List.mem_of_getElem? (i := 87) (by decide +kernel), rfl⟩
theorem w97 : Cond.classLink RX9 33 RX5 ∈ xBW := xBW_of ⟨List.mem_of_getElem? (i := 97) (by decide +kernel), rfl⟩
theorem w99 : Cond.classLink RX9 39 RX7 ∈ xBW := xBW_of ⟨List.mem_of_getElem? (i := 99) (by decide +kernel), rfl⟩
theorem w100 : Cond.instantiable RX7 4 ∈ xBW := xBW_of ⟨List.mem_of_getElem? (i := 100) (by decide +kernel), rfl⟩
theorem w101 : Cond.methodLinkNest RX9 41 yX7_init "HourAgo" ∈ lw_tbl := List.mem_of_getElem? (i := 101) (by decide +kernel)
theorem w102 : Cond.instanceMethod yX7_init ∈ xBW := xBW_of ⟨List.mem_of_getElem? (i := 102) (by decide +kernel), rfl⟩
set_option maxRecDepth 100000 in
theorem w103 : Cond.code yX7_init cX7_init 1 none ∈ xBW := xBW_of ⟨List.mem_of_getElem? (i := 103) rfl, rfl⟩
theorem w104 : Cond.methodLink RX7 3 objectInit ∈ xBW := xBW_of ⟨List.mem_of_getElem? (i := 104) (by decide +kernel), rfl⟩
theorem w105 : Cond.fieldLink RX7 9 "HourAgo$Tasks" "rooms" "[I" ∈ xBW := xBW_of ⟨List.mem_of_getElem? (i := 105) (by decide +kernel), rfl⟩
theorem w106 : Cond.fieldLink RX7 15 "HourAgo$Tasks" "froms" "[I" ∈ xBW := xBW_of ⟨List.mem_of_getElem? (i := 106) (by decide +kernel), rfl⟩
theorem w107 : Cond.fieldLink RX7 18 "HourAgo$Tasks" "tos" "[I" ∈ xBW := xBW_of ⟨List.mem_of_getElem? (i := 107) (by decide +kernel), rfl⟩
theorem w108 : Cond.fieldLink RX7 21 "HourAgo$Tasks" "size" "I" ∈ xBW := xBW_of ⟨List.mem_of_getElem? (i := 108) (by decide +kernel), rfl⟩
theorem w118 : Cond.classLink RX9 46 RX0 ∈ xBW := xBW_of ⟨List.mem_of_getElem? (i := 118) (by decide +kernel), rfl⟩
theorem w119 : Cond.instantiable RX0 2 ∈ xBW := xBW_of ⟨List.mem_of_getElem? (i := 119) (by decide +kernel), rfl⟩
theorem w120 : Cond.methodLinkNest RX9 48 yX0_init "HourAgo" ∈ lw_tbl := List.mem_of_getElem? (i := 120) (by decide +kernel)
theorem w121 : Cond.instanceMethod yX0_init ∈ xBW := xBW_of ⟨List.mem_of_getElem? (i := 121) (by decide +kernel), rfl⟩
set_option maxRecDepth 100000 in
theorem w122 : Cond.code yX0_init cX0_init 1 none ∈ xBW := xBW_of ⟨List.mem_of_getElem? (i := 122) rfl, rfl⟩
theorem w123 : Cond.methodLink RX0 3 objectInit ∈ xBW := xBW_of ⟨List.mem_of_getElem? (i := 123) (by decide +kernel), rfl⟩
theorem w124 : Cond.fieldLink RX0 9 "HourAgo$Glimpses" "spots" "[I" ∈ xBW := xBW_of ⟨List.mem_of_getElem? (i := 124) (by decide +kernel), rfl⟩
theorem w125 : Cond.fieldLink RX0 15 "HourAgo$Glimpses" "size" "I" ∈ xBW := xBW_of ⟨List.mem_of_getElem? (i := 125) (by decide +kernel), rfl⟩
theorem w131 : Cond.classLink RX9 53 RX2 ∈ xBW := xBW_of ⟨List.mem_of_getElem? (i := 131) (by decide +kernel), rfl⟩
theorem w132 : Cond.instantiable RX2 5 ∈ xBW := xBW_of ⟨List.mem_of_getElem? (i := 132) (by decide +kernel), rfl⟩
theorem w133 : Cond.methodLink RX9 55 yX2_init ∈ xBW := xBW_of ⟨List.mem_of_getElem? (i := 133) (by decide +kernel), rfl⟩
theorem w134 : Cond.instanceMethod yX2_init ∈ xBW := xBW_of ⟨List.mem_of_getElem? (i := 134) (by decide +kernel), rfl⟩
set_option maxRecDepth 100000 in
theorem w135 : Cond.code yX2_init cX2_init 2 none ∈ xBW := xBW_of ⟨List.mem_of_getElem? (i := 135) rfl, rfl⟩
theorem w136 : Cond.methodLink RX2 3 objectInit ∈ xBW := xBW_of ⟨List.mem_of_getElem? (i := 136) (by decide +kernel), rfl⟩
theorem w137 : Cond.classLink RX2 9 RX5 ∈ xBW := xBW_of ⟨List.mem_of_getElem? (i := 137) (by decide +kernel), rfl⟩
theorem w138 : Cond.classLink RX2 17 RX7 ∈ xBW := xBW_of ⟨List.mem_of_getElem? (i := 138) (by decide +kernel), rfl⟩
theorem w139 : Cond.methodLinkNest RX2 19 yX7_init "HourAgo" ∈ lw_tbl := List.mem_of_getElem? (i := 139) (by decide +kernel)
theorem w140 : Cond.classLink RX2 24 RX0 ∈ xBW := xBW_of ⟨List.mem_of_getElem? (i := 140) (by decide +kernel), rfl⟩
theorem w141 : Cond.methodLinkNest RX2 26 yX0_init "HourAgo" ∈ lw_tbl := List.mem_of_getElem? (i := 141) (by decide +kernel)
theorem w142 : Cond.instantiable RX5 2 ∈ xBW := xBW_of ⟨List.mem_of_getElem? (i := 142) (by decide +kernel), rfl⟩
theorem w143 : Cond.methodLinkNest RX2 31 yX5_init "HourAgo" ∈ lw_tbl := List.mem_of_getElem? (i := 143) (by decide +kernel)
theorem w144 : Cond.instanceMethod yX5_init ∈ xBW := xBW_of ⟨List.mem_of_getElem? (i := 144) (by decide +kernel), rfl⟩
set_option maxRecDepth 100000 in
theorem w145 : Cond.code yX5_init cX5_init 1 none ∈ xBW := xBW_of ⟨List.mem_of_getElem? (i := 145) rfl, rfl⟩
theorem w146 : Cond.methodLink RX5 3 objectInit ∈ xBW := xBW_of ⟨List.mem_of_getElem? (i := 146) (by decide +kernel), rfl⟩
theorem w147 : Cond.classLink RX5 9 RX3 ∈ xBW := xBW_of ⟨List.mem_of_getElem? (i := 147) (by decide +kernel), rfl⟩
theorem w148 : Cond.methodLinkNest RX5 11 yX3_init "HourAgo" ∈ lw_tbl := List.mem_of_getElem? (i := 148) (by decide +kernel)
theorem w149 : Cond.fieldLink RX5 12 "HourAgo$Person" "life" "LHourAgo$Life;" ∈ xBW := xBW_of ⟨List.mem_of_getElem? (i := 149) (by decide +kernel), rfl⟩
theorem w150 : Cond.fieldLink RX5 18 "HourAgo$Person" "kind" "I" ∈ xBW := xBW_of ⟨List.mem_of_getElem? (i := 150) (by decide +kernel), rfl⟩
theorem w156 : Cond.fieldLink RX2 11 "HourAgo$Image" "people" "[LHourAgo$Person;" ∈ xBW := xBW_of ⟨List.mem_of_getElem? (i := 156) (by decide +kernel), rfl⟩
theorem w157 : Cond.fieldLink RX2 20 "HourAgo$Image" "tasks" "LHourAgo$Tasks;" ∈ xBW := xBW_of ⟨List.mem_of_getElem? (i := 157) (by decide +kernel), rfl⟩
theorem w158 : Cond.fieldLink RX2 27 "HourAgo$Image" "glimpses" "LHourAgo$Glimpses;" ∈ xBW := xBW_of ⟨List.mem_of_getElem? (i := 158) (by decide +kernel), rfl⟩
theorem w159 : Cond.fieldLink RX2 32 "HourAgo$Image" "kept" "Z" ∈ xBW := xBW_of ⟨List.mem_of_getElem? (i := 159) (by decide +kernel), rfl⟩
theorem w171 : Cond.classLink RX9 60 RX6 ∈ xBW := xBW_of ⟨List.mem_of_getElem? (i := 171) (by decide +kernel), rfl⟩
theorem w172 : Cond.instantiable RX6 7 ∈ xBW := xBW_of ⟨List.mem_of_getElem? (i := 172) (by decide +kernel), rfl⟩
theorem w173 : Cond.methodLinkNest RX9 62 yX6_init "HourAgo" ∈ lw_tbl := List.mem_of_getElem? (i := 173) (by decide +kernel)
theorem w174 : Cond.instanceMethod yX6_init ∈ xBW := xBW_of ⟨List.mem_of_getElem? (i := 174) (by decide +kernel), rfl⟩
set_option maxRecDepth 100000 in
theorem w175 : Cond.code yX6_init cX6_init 1 none ∈ xBW := xBW_of ⟨List.mem_of_getElem? (i := 175) rfl, rfl⟩
theorem w176 : Cond.methodLink RX6 3 objectInit ∈ xBW := xBW_of ⟨List.mem_of_getElem? (i := 176) (by decide +kernel), rfl⟩
theorem w177 : Cond.fieldLink RX6 11 "HourAgo$Search" "reach" "[I" ∈ xBW := xBW_of ⟨List.mem_of_getElem? (i := 177) (by decide +kernel), rfl⟩
theorem w178 : Cond.fieldLink RX6 15 "HourAgo$Search" "roomsTaken" "[I" ∈ xBW := xBW_of ⟨List.mem_of_getElem? (i := 178) (by decide +kernel), rfl⟩
theorem w194 : Cond.classLink RX9 67 RX8 ∈ xBW := xBW_of ⟨List.mem_of_getElem? (i := 194) (by decide +kernel), rfl⟩
theorem w195 : Cond.instantiable RX8 3 ∈ xBW := xBW_of ⟨List.mem_of_getElem? (i := 195) (by decide +kernel), rfl⟩
theorem w196 : Cond.methodLinkNest RX9 69 yX8_init "HourAgo" ∈ lw_tbl := List.mem_of_getElem? (i := 196) (by decide +kernel)
theorem w197 : Cond.instanceMethod yX8_init ∈ xBW := xBW_of ⟨List.mem_of_getElem? (i := 197) (by decide +kernel), rfl⟩
set_option maxRecDepth 100000 in
theorem w198 : Cond.code yX8_init cX8_init 1 none ∈ xBW := xBW_of ⟨List.mem_of_getElem? (i := 198) rfl, rfl⟩
theorem w199 : Cond.methodLink RX8 3 objectInit ∈ xBW := xBW_of ⟨List.mem_of_getElem? (i := 199) (by decide +kernel), rfl⟩
theorem w200 : Cond.fieldLink RX8 9 "HourAgo$Walk" "spot" "I" ∈ xBW := xBW_of ⟨List.mem_of_getElem? (i := 200) (by decide +kernel), rfl⟩
theorem w201 : Cond.fieldLink RX8 15 "HourAgo$Walk" "throughs" "I" ∈ xBW := xBW_of ⟨List.mem_of_getElem? (i := 201) (by decide +kernel), rfl⟩
theorem w202 : Cond.fieldLink RX8 18 "HourAgo$Walk" "seed" "I" ∈ xBW := xBW_of ⟨List.mem_of_getElem? (i := 202) (by decide +kernel), rfl⟩
theorem w210 : Cond.methodLinkNest RX9 74 yX5_init "HourAgo" ∈ lw_tbl := List.mem_of_getElem? (i := 210) (by decide +kernel)
theorem w211 : Cond.fieldLink RX9 12 "HourAgo" "page" "LHourAgo$Page;" ∈ xBW := xBW_of ⟨List.mem_of_getElem? (i := 211) (by decide +kernel), rfl⟩
theorem w212 : Cond.fieldLink RX9 19 "HourAgo" "house" "LHourAgo$House;" ∈ xBW := xBW_of ⟨List.mem_of_getElem? (i := 212) (by decide +kernel), rfl⟩
theorem w213 : Cond.fieldLink RX9 23 "HourAgo" "draftHouse" "LHourAgo$House;" ∈ xBW := xBW_of ⟨List.mem_of_getElem? (i := 213) (by decide +kernel), rfl⟩
theorem w214 : Cond.fieldLink RX9 29 "HourAgo" "draftLife" "LHourAgo$Life;" ∈ xBW := xBW_of ⟨List.mem_of_getElem? (i := 214) (by decide +kernel), rfl⟩
theorem w215 : Cond.fieldLink RX9 35 "HourAgo" "people" "[LHourAgo$Person;" ∈ xBW := xBW_of ⟨List.mem_of_getElem? (i := 215) (by decide +kernel), rfl⟩
theorem w216 : Cond.fieldLink RX9 42 "HourAgo" "tasks" "LHourAgo$Tasks;" ∈ xBW := xBW_of ⟨List.mem_of_getElem? (i := 216) (by decide +kernel), rfl⟩
theorem w217 : Cond.fieldLink RX9 49 "HourAgo" "glimpses" "LHourAgo$Glimpses;" ∈ xBW := xBW_of ⟨List.mem_of_getElem? (i := 217) (by decide +kernel), rfl⟩
theorem w218 : Cond.fieldLink RX9 56 "HourAgo" "image" "LHourAgo$Image;" ∈ xBW := xBW_of ⟨List.mem_of_getElem? (i := 218) (by decide +kernel), rfl⟩
theorem w219 : Cond.fieldLink RX9 63 "HourAgo" "search" "LHourAgo$Search;" ∈ xBW := xBW_of ⟨List.mem_of_getElem? (i := 219) (by decide +kernel), rfl⟩
theorem w220 : Cond.fieldLink RX9 70 "HourAgo" "walk" "LHourAgo$Walk;" ∈ xBW := xBW_of ⟨List.mem_of_getElem? (i := 220) (by decide +kernel), rfl⟩
theorem w221 : Cond.fieldLink RX9 105 "HourAgo" "peopleCount" "I" ∈ xBW := xBW_of ⟨List.mem_of_getElem? (i := 221) (by decide +kernel), rfl⟩
theorem w222 : Cond.fieldLink RX9 101 "HourAgo" "housesRead" "I" ∈ xBW := xBW_of ⟨List.mem_of_getElem? (i := 222) (by decide +kernel), rfl⟩
theorem w223 : Cond.fieldLink RX9 217 "HourAgo" "searchesDone" "I" ∈ xBW := xBW_of ⟨List.mem_of_getElem? (i := 223) (by decide +kernel), rfl⟩
theorem w251 : Cond.methodLink RL 43 yX9_fault ∈ xBW := xBW_of ⟨List.mem_of_getElem? (i := 251) (by decide +kernel), rfl⟩
theorem w252 : Cond.instanceMethod yX9_fault ∈ xBW := xBW_of ⟨List.mem_of_getElem? (i := 252) (by decide +kernel), rfl⟩
theorem w253 : Cond.selects RX9 yX9_fault yX9_fault ∈ xBW := xBW_of ⟨List.mem_of_getElem? (i := 253) (by decide +kernel), rfl⟩
set_option maxRecDepth 100000 in
theorem w254 : Cond.code yX9_fault cX9_fault 2 (some .int) ∈ xBW := xBW_of ⟨List.mem_of_getElem? (i := 254) rfl, rfl⟩
theorem w255 : Cond.methodLink RX9 90 yX1_read ∈ xBW := xBW_of ⟨List.mem_of_getElem? (i := 255) (by decide +kernel), rfl⟩
theorem w256 : Cond.instanceMethod yX1_read ∈ xBW := xBW_of ⟨List.mem_of_getElem? (i := 256) (by decide +kernel), rfl⟩
theorem w257 : Cond.selects RX1 yX1_read yX1_read ∈ xBW := xBW_of ⟨List.mem_of_getElem? (i := 257) (by decide +kernel), rfl⟩
set_option maxRecDepth 100000 in
theorem w258 : Cond.code yX1_read cX1_read 3 (some .int) ∈ xBW := xBW_of ⟨List.mem_of_getElem? (i := 258) rfl, rfl⟩
theorem w259 : Cond.methodLink RX1 22 yX1_clear ∈ xBW := xBW_of ⟨List.mem_of_getElem? (i := 259) (by decide +kernel), rfl⟩
theorem w261 : Cond.instanceMethod yX1_clear ∈ xBW := xBW_of ⟨List.mem_of_getElem? (i := 261) (by decide +kernel), rfl⟩
set_option maxRecDepth 100000 in
theorem w262 : Cond.code yX1_clear cX1_clear 2 none ∈ xBW := xBW_of ⟨List.mem_of_getElem? (i := 262) rfl, rfl⟩
theorem w263 : Cond.methodLink RX1 25 yX4_length ∈ xBW := xBW_of ⟨List.mem_of_getElem? (i := 263) (by decide +kernel), rfl⟩
theorem w264 : Cond.instanceMethod yX4_length ∈ xBW := xBW_of ⟨List.mem_of_getElem? (i := 264) (by decide +kernel), rfl⟩
theorem w265 : Cond.selects RX4 yX4_length yX4_length ∈ xBW := xBW_of ⟨List.mem_of_getElem? (i := 265) (by decide +kernel), rfl⟩
set_option maxRecDepth 100000 in
theorem w266 : Cond.code yX4_length cX4_length 1 (some .int) ∈ xBW := xBW_of ⟨List.mem_of_getElem? (i := 266) rfl, rfl⟩
theorem w267 : Cond.methodLink RX1 31 yX4_at ∈ xBW := xBW_of ⟨List.mem_of_getElem? (i := 267) (by decide +kernel), rfl⟩
theorem w268 : Cond.instanceMethod yX4_at ∈ xBW := xBW_of ⟨List.mem_of_getElem? (i := 268) (by decide +kernel), rfl⟩
theorem w269 : Cond.selects RX4 yX4_at yX4_at ∈ xBW := xBW_of ⟨List.mem_of_getElem? (i := 269) (by decide +kernel), rfl⟩
set_option maxRecDepth 100000 in
theorem w270 : Cond.code yX4_at cX4_at 2 (some .int) ∈ xBW := xBW_of ⟨List.mem_of_getElem? (i := 270) rfl, rfl⟩
theorem w271 : Cond.methodLink RX1 35 yX1_takes ∈ xBW := xBW_of ⟨List.mem_of_getElem? (i := 271) (by decide +kernel), rfl⟩
theorem w273 : Cond.instanceMethod yX1_takes ∈ xBW := xBW_of ⟨List.mem_of_getElem? (i := 273) (by decide +kernel), rfl⟩
set_option maxRecDepth 100000 in
theorem w274 : Cond.code yX1_takes cX1_takes 2 (some .boolean) ∈ xBW := xBW_of ⟨List.mem_of_getElem? (i := 274) rfl, rfl⟩
theorem w275 : Cond.methodLinkNest RX1 51 yX9_roomDigitOf "HourAgo" ∈ lw_tbl := List.mem_of_getElem? (i := 275) (by decide +kernel)
theorem w276 : Cond.static yX9_roomDigitOf ∈ xBW := xBW_of ⟨List.mem_of_getElem? (i := 276) (by decide +kernel), rfl⟩
set_option maxRecDepth 100000 in
theorem w277 : Cond.code yX9_roomDigitOf cX9_roomDigitOf 1 (some .int) ∈ xBW := xBW_of ⟨List.mem_of_getElem? (i := 277) rfl, rfl⟩
theorem w278 : Cond.methodLink RX9 334 yX9_digitOf ∈ xBW := xBW_of ⟨List.mem_of_getElem? (i := 278) (by decide +kernel), rfl⟩
theorem w279 : Cond.static yX9_digitOf ∈ xBW := xBW_of ⟨List.mem_of_getElem? (i := 279) (by decide +kernel), rfl⟩
set_option maxRecDepth 100000 in
theorem w280 : Cond.code yX9_digitOf cX9_digitOf 4 (some .int) ∈ xBW := xBW_of ⟨List.mem_of_getElem? (i := 280) rfl, rfl⟩
theorem w281 : Cond.methodLink RX1 57 yX1_goesOn ∈ xBW := xBW_of ⟨List.mem_of_getElem? (i := 281) (by decide +kernel), rfl⟩
theorem w283 : Cond.instanceMethod yX1_goesOn ∈ xBW := xBW_of ⟨List.mem_of_getElem? (i := 283) (by decide +kernel), rfl⟩
set_option maxRecDepth 100000 in
theorem w284 : Cond.code yX1_goesOn cX1_goesOn 3 (some .boolean) ∈ xBW := xBW_of ⟨List.mem_of_getElem? (i := 284) rfl, rfl⟩
theorem w285 : Cond.methodLink RX1 61 yX1_addsDoor ∈ xBW := xBW_of ⟨List.mem_of_getElem? (i := 285) (by decide +kernel), rfl⟩
theorem w287 : Cond.instanceMethod yX1_addsDoor ∈ xBW := xBW_of ⟨List.mem_of_getElem? (i := 287) (by decide +kernel), rfl⟩
set_option maxRecDepth 100000 in
theorem w288 : Cond.code yX1_addsDoor cX1_addsDoor 3 (some .boolean) ∈ xBW := xBW_of ⟨List.mem_of_getElem? (i := 288) rfl, rfl⟩
theorem w289 : Cond.methodLinkNest RX1 72 yX9_isRoom "HourAgo" ∈ lw_tbl := List.mem_of_getElem? (i := 289) (by decide +kernel)
theorem w290 : Cond.static yX9_isRoom ∈ xBW := xBW_of ⟨List.mem_of_getElem? (i := 290) (by decide +kernel), rfl⟩
set_option maxRecDepth 100000 in
theorem w291 : Cond.code yX9_isRoom cX9_isRoom 1 (some .boolean) ∈ xBW := xBW_of ⟨List.mem_of_getElem? (i := 291) rfl, rfl⟩
theorem w292 : Cond.methodLink RX1 75 yX1_doorBetween ∈ xBW := xBW_of ⟨List.mem_of_getElem? (i := 292) (by decide +kernel), rfl⟩
theorem w293 : Cond.instanceMethod yX1_doorBetween ∈ xBW := xBW_of ⟨List.mem_of_getElem? (i := 293) (by decide +kernel), rfl⟩
theorem w294 : Cond.selects RX1 yX1_doorBetween yX1_doorBetween ∈ xBW := xBW_of ⟨List.mem_of_getElem? (i := 294) (by decide +kernel), rfl⟩
set_option maxRecDepth 100000 in
theorem w295 : Cond.code yX1_doorBetween cX1_doorBetween 3 (some .int) ∈ xBW := xBW_of ⟨List.mem_of_getElem? (i := 295) rfl, rfl⟩
theorem w296 : Cond.methodLinkNest RX1 65 yX9_digitOf "HourAgo" ∈ lw_tbl := List.mem_of_getElem? (i := 296) (by decide +kernel)
theorem w297 : Cond.methodLink RX1 69 yX1_addsSight ∈ xBW := xBW_of ⟨List.mem_of_getElem? (i := 297) (by decide +kernel), rfl⟩
theorem w299 : Cond.instanceMethod yX1_addsSight ∈ xBW := xBW_of ⟨List.mem_of_getElem? (i := 299) (by decide +kernel), rfl⟩
set_option maxRecDepth 100000 in
theorem w300 : Cond.code yX1_addsSight cX1_addsSight 3 (some .boolean) ∈ xBW := xBW_of ⟨List.mem_of_getElem? (i := 300) rfl, rfl⟩
theorem w301 : Cond.methodLink RX1 79 yX1_isSeenFrom ∈ xBW := xBW_of ⟨List.mem_of_getElem? (i := 301) (by decide +kernel), rfl⟩
theorem w302 : Cond.instanceMethod yX1_isSeenFrom ∈ xBW := xBW_of ⟨List.mem_of_getElem? (i := 302) (by decide +kernel), rfl⟩
theorem w303 : Cond.selects RX1 yX1_isSeenFrom yX1_isSeenFrom ∈ xBW := xBW_of ⟨List.mem_of_getElem? (i := 303) (by decide +kernel), rfl⟩
set_option maxRecDepth 100000 in
theorem w304 : Cond.code yX1_isSeenFrom cX1_isSeenFrom 3 (some .boolean) ∈ xBW := xBW_of ⟨List.mem_of_getElem? (i := 304) rfl, rfl⟩
theorem w305 : Cond.methodLink RX9 94 yX3_faultIn ∈ xBW := xBW_of ⟨List.mem_of_getElem? (i := 305) (by decide +kernel), rfl⟩
theorem w306 : Cond.static yX3_faultIn ∈ xBW := xBW_of ⟨List.mem_of_getElem? (i := 306) (by decide +kernel), rfl⟩
set_option maxRecDepth 100000 in
theorem w307 : Cond.code yX3_faultIn cX3_faultIn 2 (some .int) ∈ xBW := xBW_of ⟨List.mem_of_getElem? (i := 307) rfl, rfl⟩
theorem w308 : Cond.methodLink RX3 15 yX4_length ∈ xBW := xBW_of ⟨List.mem_of_getElem? (i := 308) (by decide +kernel), rfl⟩
theorem w309 : Cond.methodLink RX3 21 yX4_at ∈ xBW := xBW_of ⟨List.mem_of_getElem? (i := 309) (by decide +kernel), rfl⟩
theorem w310 : Cond.methodLink RX3 25 yX3_mayStand ∈ xBW := xBW_of ⟨List.mem_of_getElem? (i := 310) (by decide +kernel), rfl⟩
theorem w311 : Cond.static yX3_mayStand ∈ xBW := xBW_of ⟨List.mem_of_getElem? (i := 311) (by decide +kernel), rfl⟩
set_option maxRecDepth 100000 in
theorem w312 : Cond.code yX3_mayStand cX3_mayStand 2 (some .boolean) ∈ xBW := xBW_of ⟨List.mem_of_getElem? (i := 312) rfl, rfl⟩
theorem w313 : Cond.methodLinkNest RX3 29 yX9_digitOf "HourAgo" ∈ lw_tbl := List.mem_of_getElem? (i := 313) (by decide +kernel)
theorem w314 : Cond.methodLinkNest RX3 33 yX9_roomDigitOf "HourAgo" ∈ lw_tbl := List.mem_of_getElem? (i := 314) (by decide +kernel)
theorem w315 : Cond.methodLink RX3 36 yX3_stepOf ∈ xBW := xBW_of ⟨List.mem_of_getElem? (i := 315) (by decide +kernel), rfl⟩
theorem w316 : Cond.static yX3_stepOf ∈ xBW := xBW_of ⟨List.mem_of_getElem? (i := 316) (by decide +kernel), rfl⟩
set_option maxRecDepth 100000 in
theorem w317 : Cond.code yX3_stepOf cX3_stepOf 1 (some .int) ∈ xBW := xBW_of ⟨List.mem_of_getElem? (i := 317) rfl, rfl⟩
theorem w318 : Cond.methodLink RL 79 yX9_house ∈ xBW := xBW_of ⟨List.mem_of_getElem? (i := 318) (by decide +kernel), rfl⟩
theorem w319 : Cond.instanceMethod yX9_house ∈ xBW := xBW_of ⟨List.mem_of_getElem? (i := 319) (by decide +kernel), rfl⟩
theorem w320 : Cond.selects RX9 yX9_house yX9_house ∈ xBW := xBW_of ⟨List.mem_of_getElem? (i := 320) (by decide +kernel), rfl⟩
set_option maxRecDepth 100000 in
theorem w321 : Cond.code yX9_house cX9_house 1 (some .int) ∈ xBW := xBW_of ⟨List.mem_of_getElem? (i := 321) rfl, rfl⟩
theorem w322 : Cond.methodLink RX9 79 yX4_length ∈ xBW := xBW_of ⟨List.mem_of_getElem? (i := 322) (by decide +kernel), rfl⟩
theorem w323 : Cond.methodLink RX9 97 yX1_isWhole ∈ xBW := xBW_of ⟨List.mem_of_getElem? (i := 323) (by decide +kernel), rfl⟩
theorem w324 : Cond.instanceMethod yX1_isWhole ∈ xBW := xBW_of ⟨List.mem_of_getElem? (i := 324) (by decide +kernel), rfl⟩
theorem w325 : Cond.selects RX1 yX1_isWhole yX1_isWhole ∈ xBW := xBW_of ⟨List.mem_of_getElem? (i := 325) (by decide +kernel), rfl⟩
set_option maxRecDepth 100000 in
theorem w326 : Cond.code yX1_isWhole cX1_isWhole 1 (some .boolean) ∈ xBW := xBW_of ⟨List.mem_of_getElem? (i := 326) rfl, rfl⟩
theorem w327 : Cond.methodLink RX9 108 yX7_clear ∈ xBW := xBW_of ⟨List.mem_of_getElem? (i := 327) (by decide +kernel), rfl⟩
theorem w328 : Cond.instanceMethod yX7_clear ∈ xBW := xBW_of ⟨List.mem_of_getElem? (i := 328) (by decide +kernel), rfl⟩
theorem w329 : Cond.selects RX7 yX7_clear yX7_clear ∈ xBW := xBW_of ⟨List.mem_of_getElem? (i := 329) (by decide +kernel), rfl⟩
set_option maxRecDepth 100000 in
theorem w330 : Cond.code yX7_clear cX7_clear 1 none ∈ xBW := xBW_of ⟨List.mem_of_getElem? (i := 330) rfl, rfl⟩
theorem w331 : Cond.methodLink RX9 109 yX0_clear ∈ xBW := xBW_of ⟨List.mem_of_getElem? (i := 331) (by decide +kernel), rfl⟩
theorem w332 : Cond.instanceMethod yX0_clear ∈ xBW := xBW_of ⟨List.mem_of_getElem? (i := 332) (by decide +kernel), rfl⟩
theorem w333 : Cond.selects RX0 yX0_clear yX0_clear ∈ xBW := xBW_of ⟨List.mem_of_getElem? (i := 333) (by decide +kernel), rfl⟩
set_option maxRecDepth 100000 in
theorem w334 : Cond.code yX0_clear cX0_clear 1 none ∈ xBW := xBW_of ⟨List.mem_of_getElem? (i := 334) rfl, rfl⟩
theorem w335 : Cond.methodLink RX9 110 yX2_drop ∈ xBW := xBW_of ⟨List.mem_of_getElem? (i := 335) (by decide +kernel), rfl⟩
theorem w336 : Cond.instanceMethod yX2_drop ∈ xBW := xBW_of ⟨List.mem_of_getElem? (i := 336) (by decide +kernel), rfl⟩
theorem w337 : Cond.selects RX2 yX2_drop yX2_drop ∈ xBW := xBW_of ⟨List.mem_of_getElem? (i := 337) (by decide +kernel), rfl⟩
set_option maxRecDepth 100000 in
theorem w338 : Cond.code yX2_drop cX2_drop 1 none ∈ xBW := xBW_of ⟨List.mem_of_getElem? (i := 338) rfl, rfl⟩
theorem w339 : Cond.methodLink RX9 87 yX4_clear ∈ xBW := xBW_of ⟨List.mem_of_getElem? (i := 339) (by decide +kernel), rfl⟩
theorem w340 : Cond.instanceMethod yX4_clear ∈ xBW := xBW_of ⟨List.mem_of_getElem? (i := 340) (by decide +kernel), rfl⟩
theorem w341 : Cond.selects RX4 yX4_clear yX4_clear ∈ xBW := xBW_of ⟨List.mem_of_getElem? (i := 341) (by decide +kernel), rfl⟩
set_option maxRecDepth 100000 in
theorem w342 : Cond.code yX4_clear cX4_clear 1 none ∈ xBW := xBW_of ⟨List.mem_of_getElem? (i := 342) rfl, rfl⟩
theorem w343 : Cond.methodLink RX9 113 yX1_doors ∈ xBW := xBW_of ⟨List.mem_of_getElem? (i := 343) (by decide +kernel), rfl⟩
theorem w344 : Cond.instanceMethod yX1_doors ∈ xBW := xBW_of ⟨List.mem_of_getElem? (i := 344) (by decide +kernel), rfl⟩
theorem w345 : Cond.selects RX1 yX1_doors yX1_doors ∈ xBW := xBW_of ⟨List.mem_of_getElem? (i := 345) (by decide +kernel), rfl⟩
set_option maxRecDepth 100000 in
theorem w346 : Cond.code yX1_doors cX1_doors 1 (some .int) ∈ xBW := xBW_of ⟨List.mem_of_getElem? (i := 346) rfl, rfl⟩
theorem w347 : Cond.methodLink RL 83 yX9_between ∈ xBW := xBW_of ⟨List.mem_of_getElem? (i := 347) (by decide +kernel), rfl⟩
theorem w348 : Cond.instanceMethod yX9_between ∈ xBW := xBW_of ⟨List.mem_of_getElem? (i := 348) (by decide +kernel), rfl⟩
theorem w349 : Cond.selects RX9 yX9_between yX9_between ∈ xBW := xBW_of ⟨List.mem_of_getElem? (i := 349) (by decide +kernel), rfl⟩
set_option maxRecDepth 100000 in
theorem w350 : Cond.code yX9_between cX9_between 4 (some .int) ∈ xBW := xBW_of ⟨List.mem_of_getElem? (i := 350) rfl, rfl⟩
theorem w351 : Cond.methodLink RX9 116 yX9_isRoom ∈ xBW := xBW_of ⟨List.mem_of_getElem? (i := 351) (by decide +kernel), rfl⟩
theorem w352 : Cond.methodLink RX9 120 yX9_hasHouse ∈ xBW := xBW_of ⟨List.mem_of_getElem? (i := 352) (by decide +kernel), rfl⟩
theorem w354 : Cond.instanceMethod yX9_hasHouse ∈ xBW := xBW_of ⟨List.mem_of_getElem? (i := 354) (by decide +kernel), rfl⟩
set_option maxRecDepth 100000 in
theorem w355 : Cond.code yX9_hasHouse cX9_hasHouse 1 (some .boolean) ∈ xBW := xBW_of ⟨List.mem_of_getElem? (i := 355) rfl, rfl⟩
theorem w356 : Cond.methodLink RX9 123 yX1_doorBetween ∈ xBW := xBW_of ⟨List.mem_of_getElem? (i := 356) (by decide +kernel), rfl⟩
theorem w357 : Cond.methodLink RX9 127 yX1_isSeenFrom ∈ xBW := xBW_of ⟨List.mem_of_getElem? (i := 357) (by decide +kernel), rfl⟩
theorem w358 : Cond.methodLink RL 31 yX9_person ∈ xBW := xBW_of ⟨List.mem_of_getElem? (i := 358) (by decide +kernel), rfl⟩
theorem w359 : Cond.instanceMethod yX9_person ∈ xBW := xBW_of ⟨List.mem_of_getElem? (i := 359) (by decide +kernel), rfl⟩
theorem w360 : Cond.selects RX9 yX9_person yX9_person ∈ xBW := xBW_of ⟨List.mem_of_getElem? (i := 360) (by decide +kernel), rfl⟩
set_option maxRecDepth 100000 in
theorem w361 : Cond.code yX9_person cX9_person 4 (some .int) ∈ xBW := xBW_of ⟨List.mem_of_getElem? (i := 361) rfl, rfl⟩
theorem w362 : Cond.methodLink RX9 131 yX9_isKind ∈ xBW := xBW_of ⟨List.mem_of_getElem? (i := 362) (by decide +kernel), rfl⟩
theorem w363 : Cond.static yX9_isKind ∈ xBW := xBW_of ⟨List.mem_of_getElem? (i := 363) (by decide +kernel), rfl⟩
set_option maxRecDepth 100000 in
theorem w364 : Cond.code yX9_isKind cX9_isKind 1 (some .boolean) ∈ xBW := xBW_of ⟨List.mem_of_getElem? (i := 364) rfl, rfl⟩
theorem w365 : Cond.methodLink RX9 134 yX9_personAt ∈ xBW := xBW_of ⟨List.mem_of_getElem? (i := 365) (by decide +kernel), rfl⟩
theorem w367 : Cond.instanceMethod yX9_personAt ∈ xBW := xBW_of ⟨List.mem_of_getElem? (i := 367) (by decide +kernel), rfl⟩
set_option maxRecDepth 100000 in
theorem w368 : Cond.code yX9_personAt cX9_personAt 2 (some (.object "HourAgo$Person")) ∈ xBW := xBW_of ⟨List.mem_of_getElem? (i := 368) rfl, rfl⟩
theorem w369 : Cond.methodLink RX9 138 yX5_begin ∈ xBW := xBW_of ⟨List.mem_of_getElem? (i := 369) (by decide +kernel), rfl⟩
theorem w370 : Cond.instanceMethod yX5_begin ∈ xBW := xBW_of ⟨List.mem_of_getElem? (i := 370) (by decide +kernel), rfl⟩
theorem w371 : Cond.selects RX5 yX5_begin yX5_begin ∈ xBW := xBW_of ⟨List.mem_of_getElem? (i := 371) (by decide +kernel), rfl⟩
set_option maxRecDepth 100000 in
theorem w372 : Cond.code yX5_begin cX5_begin 2 none ∈ xBW := xBW_of ⟨List.mem_of_getElem? (i := 372) rfl, rfl⟩
theorem w373 : Cond.methodLink RX5 22 yX3_clear ∈ xBW := xBW_of ⟨List.mem_of_getElem? (i := 373) (by decide +kernel), rfl⟩
theorem w374 : Cond.instanceMethod yX3_clear ∈ xBW := xBW_of ⟨List.mem_of_getElem? (i := 374) (by decide +kernel), rfl⟩
theorem w375 : Cond.selects RX3 yX3_clear yX3_clear ∈ xBW := xBW_of ⟨List.mem_of_getElem? (i := 375) (by decide +kernel), rfl⟩
set_option maxRecDepth 100000 in
theorem w376 : Cond.code yX3_clear cX3_clear 1 none ∈ xBW := xBW_of ⟨List.mem_of_getElem? (i := 376) rfl, rfl⟩
theorem w377 : Cond.methodLink RL 46 yX9_life ∈ xBW := xBW_of ⟨List.mem_of_getElem? (i := 377) (by decide +kernel), rfl⟩
theorem w378 : Cond.instanceMethod yX9_life ∈ xBW := xBW_of ⟨List.mem_of_getElem? (i := 378) (by decide +kernel), rfl⟩
theorem w379 : Cond.selects RX9 yX9_life yX9_life ∈ xBW := xBW_of ⟨List.mem_of_getElem? (i := 379) (by decide +kernel), rfl⟩
set_option maxRecDepth 100000 in
theorem w380 : Cond.code yX9_life cX9_life 4 (some .int) ∈ xBW := xBW_of ⟨List.mem_of_getElem? (i := 380) rfl, rfl⟩
theorem w381 : Cond.methodLink RX9 142 yX5_kind ∈ xBW := xBW_of ⟨List.mem_of_getElem? (i := 381) (by decide +kernel), rfl⟩
theorem w382 : Cond.instanceMethod yX5_kind ∈ xBW := xBW_of ⟨List.mem_of_getElem? (i := 382) (by decide +kernel), rfl⟩
theorem w383 : Cond.selects RX5 yX5_kind yX5_kind ∈ xBW := xBW_of ⟨List.mem_of_getElem? (i := 383) (by decide +kernel), rfl⟩
set_option maxRecDepth 100000 in
theorem w384 : Cond.code yX5_kind cX5_kind 1 (some .int) ∈ xBW := xBW_of ⟨List.mem_of_getElem? (i := 384) rfl, rfl⟩
theorem w385 : Cond.methodLink RX9 145 yX1_leapOf ∈ xBW := xBW_of ⟨List.mem_of_getElem? (i := 385) (by decide +kernel), rfl⟩
theorem w386 : Cond.instanceMethod yX1_leapOf ∈ xBW := xBW_of ⟨List.mem_of_getElem? (i := 386) (by decide +kernel), rfl⟩
theorem w387 : Cond.selects RX1 yX1_leapOf yX1_leapOf ∈ xBW := xBW_of ⟨List.mem_of_getElem? (i := 387) (by decide +kernel), rfl⟩
set_option maxRecDepth 100000 in
theorem w388 : Cond.code yX1_leapOf cX1_leapOf 2 (some .int) ∈ xBW := xBW_of ⟨List.mem_of_getElem? (i := 388) rfl, rfl⟩
theorem w389 : Cond.methodLinkNest RX1 82 yX9_isOfKind "HourAgo" ∈ lw_tbl := List.mem_of_getElem? (i := 389) (by decide +kernel)
theorem w390 : Cond.static yX9_isOfKind ∈ xBW := xBW_of ⟨List.mem_of_getElem? (i := 390) (by decide +kernel), rfl⟩
set_option maxRecDepth 100000 in
theorem w391 : Cond.code yX9_isOfKind cX9_isOfKind 2 (some .boolean) ∈ xBW := xBW_of ⟨List.mem_of_getElem? (i := 391) rfl, rfl⟩
theorem w392 : Cond.methodLink RX9 149 yX3_read ∈ xBW := xBW_of ⟨List.mem_of_getElem? (i := 392) (by decide +kernel), rfl⟩
theorem w393 : Cond.instanceMethod yX3_read ∈ xBW := xBW_of ⟨List.mem_of_getElem? (i := 393) (by decide +kernel), rfl⟩
theorem w394 : Cond.selects RX3 yX3_read yX3_read ∈ xBW := xBW_of ⟨List.mem_of_getElem? (i := 394) (by decide +kernel), rfl⟩
set_option maxRecDepth 100000 in
theorem w395 : Cond.code yX3_read cX3_read 6 (some .boolean) ∈ xBW := xBW_of ⟨List.mem_of_getElem? (i := 395) rfl, rfl⟩
theorem w396 : Cond.methodLink RX3 39 yX3_clear ∈ xBW := xBW_of ⟨List.mem_of_getElem? (i := 396) (by decide +kernel), rfl⟩
theorem w397 : Cond.methodLink RX3 42 yX3_faultIn ∈ xBW := xBW_of ⟨List.mem_of_getElem? (i := 397) (by decide +kernel), rfl⟩
theorem w398 : Cond.methodLinkNest RX3 46 yX9_spotOf "HourAgo" ∈ lw_tbl := List.mem_of_getElem? (i := 398) (by decide +kernel)
theorem w399 : Cond.static yX9_spotOf ∈ xBW := xBW_of ⟨List.mem_of_getElem? (i := 399) (by decide +kernel), rfl⟩
set_option maxRecDepth 100000 in
theorem w400 : Cond.code yX9_spotOf cX9_spotOf 2 (some .int) ∈ xBW := xBW_of ⟨List.mem_of_getElem? (i := 400) rfl, rfl⟩
theorem w401 : Cond.methodLink RX3 50 yX3_add ∈ xBW := xBW_of ⟨List.mem_of_getElem? (i := 401) (by decide +kernel), rfl⟩
theorem w403 : Cond.instanceMethod yX3_add ∈ xBW := xBW_of ⟨List.mem_of_getElem? (i := 403) (by decide +kernel), rfl⟩
set_option maxRecDepth 100000 in
theorem w404 : Cond.code yX3_add cX3_add 2 none ∈ xBW := xBW_of ⟨List.mem_of_getElem? (i := 404) rfl, rfl⟩
theorem w405 : Cond.methodLink RX3 54 yX3_takes ∈ xBW := xBW_of ⟨List.mem_of_getElem? (i := 405) (by decide +kernel), rfl⟩
theorem w407 : Cond.instanceMethod yX3_takes ∈ xBW := xBW_of ⟨List.mem_of_getElem? (i := 407) (by decide +kernel), rfl⟩
set_option maxRecDepth 100000 in
theorem w408 : Cond.code yX3_takes cX3_takes 6 (some .boolean) ∈ xBW := xBW_of ⟨List.mem_of_getElem? (i := 408) rfl, rfl⟩
theorem w409 : Cond.methodLink RX3 58 yX3_lastSpot ∈ xBW := xBW_of ⟨List.mem_of_getElem? (i := 409) (by decide +kernel), rfl⟩
theorem w410 : Cond.instanceMethod yX3_lastSpot ∈ xBW := xBW_of ⟨List.mem_of_getElem? (i := 410) (by decide +kernel), rfl⟩
theorem w411 : Cond.selects RX3 yX3_lastSpot yX3_lastSpot ∈ xBW := xBW_of ⟨List.mem_of_getElem? (i := 411) (by decide +kernel), rfl⟩
set_option maxRecDepth 100000 in
theorem w412 : Cond.code yX3_lastSpot cX3_lastSpot 1 (some .int) ∈ xBW := xBW_of ⟨List.mem_of_getElem? (i := 412) rfl, rfl⟩
theorem w413 : Cond.methodLink RX3 82 yX3_spotAt ∈ xBW := xBW_of ⟨List.mem_of_getElem? (i := 413) (by decide +kernel), rfl⟩
theorem w414 : Cond.instanceMethod yX3_spotAt ∈ xBW := xBW_of ⟨List.mem_of_getElem? (i := 414) (by decide +kernel), rfl⟩
theorem w415 : Cond.selects RX3 yX3_spotAt yX3_spotAt ∈ xBW := xBW_of ⟨List.mem_of_getElem? (i := 415) (by decide +kernel), rfl⟩
set_option maxRecDepth 100000 in
theorem w416 : Cond.code yX3_spotAt cX3_spotAt 2 (some .int) ∈ xBW := xBW_of ⟨List.mem_of_getElem? (i := 416) rfl, rfl⟩
theorem w417 : Cond.methodLink RX3 61 yX1_spotAfter ∈ xBW := xBW_of ⟨List.mem_of_getElem? (i := 417) (by decide +kernel), rfl⟩
theorem w418 : Cond.instanceMethod yX1_spotAfter ∈ xBW := xBW_of ⟨List.mem_of_getElem? (i := 418) (by decide +kernel), rfl⟩
theorem w419 : Cond.selects RX1 yX1_spotAfter yX1_spotAfter ∈ xBW := xBW_of ⟨List.mem_of_getElem? (i := 419) (by decide +kernel), rfl⟩
set_option maxRecDepth 100000 in
theorem w420 : Cond.code yX1_spotAfter cX1_spotAfter 6 (some .int) ∈ xBW := xBW_of ⟨List.mem_of_getElem? (i := 420) rfl, rfl⟩
theorem w421 : Cond.methodLinkNest RX1 85 yX9_minuteOf "HourAgo" ∈ lw_tbl := List.mem_of_getElem? (i := 421) (by decide +kernel)
theorem w422 : Cond.static yX9_minuteOf ∈ xBW := xBW_of ⟨List.mem_of_getElem? (i := 422) (by decide +kernel), rfl⟩
set_option maxRecDepth 100000 in
theorem w423 : Cond.code yX9_minuteOf cX9_minuteOf 1 (some .int) ∈ xBW := xBW_of ⟨List.mem_of_getElem? (i := 423) rfl, rfl⟩
theorem w424 : Cond.methodLinkNest RX1 88 yX9_roomOf "HourAgo" ∈ lw_tbl := List.mem_of_getElem? (i := 424) (by decide +kernel)
theorem w425 : Cond.static yX9_roomOf ∈ xBW := xBW_of ⟨List.mem_of_getElem? (i := 425) (by decide +kernel), rfl⟩
set_option maxRecDepth 100000 in
theorem w426 : Cond.code yX9_roomOf cX9_roomOf 1 (some .int) ∈ xBW := xBW_of ⟨List.mem_of_getElem? (i := 426) rfl, rfl⟩
theorem w427 : Cond.methodLinkNest RX1 91 yX9_spotOf "HourAgo" ∈ lw_tbl := List.mem_of_getElem? (i := 427) (by decide +kernel)
theorem w428 : Cond.methodLinkNest RX1 94 yX9_isMinute "HourAgo" ∈ lw_tbl := List.mem_of_getElem? (i := 428) (by decide +kernel)
theorem w429 : Cond.static yX9_isMinute ∈ xBW := xBW_of ⟨List.mem_of_getElem? (i := 429) (by decide +kernel), rfl⟩
set_option maxRecDepth 100000 in
theorem w430 : Cond.code yX9_isMinute cX9_isMinute 1 (some .boolean) ∈ xBW := xBW_of ⟨List.mem_of_getElem? (i := 430) rfl, rfl⟩
theorem w431 : Cond.methodLinkNest RX3 73 yX9_roomOf "HourAgo" ∈ lw_tbl := List.mem_of_getElem? (i := 431) (by decide +kernel)
theorem w432 : Cond.methodLink RX3 76 yX1_doorBetween ∈ xBW := xBW_of ⟨List.mem_of_getElem? (i := 432) (by decide +kernel), rfl⟩
theorem w433 : Cond.methodLink RX9 152 yX5_lived ∈ xBW := xBW_of ⟨List.mem_of_getElem? (i := 433) (by decide +kernel), rfl⟩
theorem w434 : Cond.instanceMethod yX5_lived ∈ xBW := xBW_of ⟨List.mem_of_getElem? (i := 434) (by decide +kernel), rfl⟩
theorem w435 : Cond.selects RX5 yX5_lived yX5_lived ∈ xBW := xBW_of ⟨List.mem_of_getElem? (i := 435) (by decide +kernel), rfl⟩
set_option maxRecDepth 100000 in
theorem w436 : Cond.code yX5_lived cX5_lived 1 (some (.object "HourAgo$Life")) ∈ xBW := xBW_of ⟨List.mem_of_getElem? (i := 436) rfl, rfl⟩
theorem w437 : Cond.methodLink RX9 156 yX3_copyFrom ∈ xBW := xBW_of ⟨List.mem_of_getElem? (i := 437) (by decide +kernel), rfl⟩
theorem w438 : Cond.instanceMethod yX3_copyFrom ∈ xBW := xBW_of ⟨List.mem_of_getElem? (i := 438) (by decide +kernel), rfl⟩
theorem w439 : Cond.selects RX3 yX3_copyFrom yX3_copyFrom ∈ xBW := xBW_of ⟨List.mem_of_getElem? (i := 439) (by decide +kernel), rfl⟩
set_option maxRecDepth 100000 in
theorem w440 : Cond.code yX3_copyFrom cX3_copyFrom 3 none ∈ xBW := xBW_of ⟨List.mem_of_getElem? (i := 440) rfl, rfl⟩
theorem w441 : Cond.methodLink RX9 160 yX3_selves ∈ xBW := xBW_of ⟨List.mem_of_getElem? (i := 441) (by decide +kernel), rfl⟩
theorem w442 : Cond.instanceMethod yX3_selves ∈ xBW := xBW_of ⟨List.mem_of_getElem? (i := 442) (by decide +kernel), rfl⟩
theorem w443 : Cond.selects RX3 yX3_selves yX3_selves ∈ xBW := xBW_of ⟨List.mem_of_getElem? (i := 443) (by decide +kernel), rfl⟩
set_option maxRecDepth 100000 in
theorem w444 : Cond.code yX3_selves cX3_selves 1 (some .int) ∈ xBW := xBW_of ⟨List.mem_of_getElem? (i := 444) rfl, rfl⟩
theorem w445 : Cond.methodLink RL 63 yX9_about ∈ xBW := xBW_of ⟨List.mem_of_getElem? (i := 445) (by decide +kernel), rfl⟩
theorem w446 : Cond.instanceMethod yX9_about ∈ xBW := xBW_of ⟨List.mem_of_getElem? (i := 446) (by decide +kernel), rfl⟩
theorem w447 : Cond.selects RX9 yX9_about yX9_about ∈ xBW := xBW_of ⟨List.mem_of_getElem? (i := 447) (by decide +kernel), rfl⟩
set_option maxRecDepth 100000 in
theorem w448 : Cond.code yX9_about cX9_about 5 (some .int) ∈ xBW := xBW_of ⟨List.mem_of_getElem? (i := 448) rfl, rfl⟩
theorem w449 : Cond.methodLink RX9 163 yX3_lastSpot ∈ xBW := xBW_of ⟨List.mem_of_getElem? (i := 449) (by decide +kernel), rfl⟩
theorem w450 : Cond.methodLink RX9 166 yX3_throughs ∈ xBW := xBW_of ⟨List.mem_of_getElem? (i := 450) (by decide +kernel), rfl⟩
theorem w451 : Cond.instanceMethod yX3_throughs ∈ xBW := xBW_of ⟨List.mem_of_getElem? (i := 451) (by decide +kernel), rfl⟩
theorem w452 : Cond.selects RX3 yX3_throughs yX3_throughs ∈ xBW := xBW_of ⟨List.mem_of_getElem? (i := 452) (by decide +kernel), rfl⟩
set_option maxRecDepth 100000 in
theorem w453 : Cond.code yX3_throughs cX3_throughs 1 (some .int) ∈ xBW := xBW_of ⟨List.mem_of_getElem? (i := 453) rfl, rfl⟩
theorem w454 : Cond.methodLink RX9 169 yX9_minuteOf ∈ xBW := xBW_of ⟨List.mem_of_getElem? (i := 454) (by decide +kernel), rfl⟩
theorem w455 : Cond.methodLink RX9 172 yX9_roomOf ∈ xBW := xBW_of ⟨List.mem_of_getElem? (i := 455) (by decide +kernel), rfl⟩
theorem w456 : Cond.methodLink RL 94 yX9_as ∈ xBW := xBW_of ⟨List.mem_of_getElem? (i := 456) (by decide +kernel), rfl⟩
theorem w457 : Cond.instanceMethod yX9_as ∈ xBW := xBW_of ⟨List.mem_of_getElem? (i := 457) (by decide +kernel), rfl⟩
theorem w458 : Cond.selects RX9 yX9_as yX9_as ∈ xBW := xBW_of ⟨List.mem_of_getElem? (i := 458) (by decide +kernel), rfl⟩
set_option maxRecDepth 100000 in
theorem w459 : Cond.code yX9_as cX9_as 4 (some .int) ∈ xBW := xBW_of ⟨List.mem_of_getElem? (i := 459) rfl, rfl⟩
theorem w460 : Cond.methodLink RX9 175 yX9_isOfKind ∈ xBW := xBW_of ⟨List.mem_of_getElem? (i := 460) (by decide +kernel), rfl⟩
theorem w461 : Cond.methodLink RL 49 yX9_self ∈ xBW := xBW_of ⟨List.mem_of_getElem? (i := 461) (by decide +kernel), rfl⟩
theorem w462 : Cond.instanceMethod yX9_self ∈ xBW := xBW_of ⟨List.mem_of_getElem? (i := 462) (by decide +kernel), rfl⟩
theorem w463 : Cond.selects RX9 yX9_self yX9_self ∈ xBW := xBW_of ⟨List.mem_of_getElem? (i := 463) (by decide +kernel), rfl⟩
set_option maxRecDepth 100000 in
theorem w464 : Cond.code yX9_self cX9_self 6 (some .int) ∈ xBW := xBW_of ⟨List.mem_of_getElem? (i := 464) rfl, rfl⟩
theorem w465 : Cond.methodLink RX9 178 yX3_spotAt ∈ xBW := xBW_of ⟨List.mem_of_getElem? (i := 465) (by decide +kernel), rfl⟩
theorem w466 : Cond.methodLink RL 53 yX9_there ∈ xBW := xBW_of ⟨List.mem_of_getElem? (i := 466) (by decide +kernel), rfl⟩
theorem w467 : Cond.instanceMethod yX9_there ∈ xBW := xBW_of ⟨List.mem_of_getElem? (i := 467) (by decide +kernel), rfl⟩
theorem w468 : Cond.selects RX9 yX9_there yX9_there ∈ xBW := xBW_of ⟨List.mem_of_getElem? (i := 468) (by decide +kernel), rfl⟩
set_option maxRecDepth 100000 in
theorem w469 : Cond.code yX9_there cX9_there 5 (some .int) ∈ xBW := xBW_of ⟨List.mem_of_getElem? (i := 469) rfl, rfl⟩
theorem w470 : Cond.methodLink RX9 181 yX9_isMinute ∈ xBW := xBW_of ⟨List.mem_of_getElem? (i := 470) (by decide +kernel), rfl⟩
theorem w471 : Cond.methodLink RX9 184 yX9_spotOf ∈ xBW := xBW_of ⟨List.mem_of_getElem? (i := 471) (by decide +kernel), rfl⟩
theorem w472 : Cond.methodLink RX9 187 yX3_selvesAt ∈ xBW := xBW_of ⟨List.mem_of_getElem? (i := 472) (by decide +kernel), rfl⟩
theorem w473 : Cond.instanceMethod yX3_selvesAt ∈ xBW := xBW_of ⟨List.mem_of_getElem? (i := 473) (by decide +kernel), rfl⟩
theorem w474 : Cond.selects RX3 yX3_selvesAt yX3_selvesAt ∈ xBW := xBW_of ⟨List.mem_of_getElem? (i := 474) (by decide +kernel), rfl⟩
set_option maxRecDepth 100000 in
theorem w475 : Cond.code yX3_selvesAt cX3_selvesAt 4 (some .int) ∈ xBW := xBW_of ⟨List.mem_of_getElem? (i := 475) rfl, rfl⟩
theorem w476 : Cond.methodLink RL 66 yX9_met ∈ xBW := xBW_of ⟨List.mem_of_getElem? (i := 476) (by decide +kernel), rfl⟩
theorem w477 : Cond.instanceMethod yX9_met ∈ xBW := xBW_of ⟨List.mem_of_getElem? (i := 477) (by decide +kernel), rfl⟩
theorem w478 : Cond.selects RX9 yX9_met yX9_met ∈ xBW := xBW_of ⟨List.mem_of_getElem? (i := 478) (by decide +kernel), rfl⟩
set_option maxRecDepth 100000 in
theorem w479 : Cond.code yX9_met cX9_met 3 (some .int) ∈ xBW := xBW_of ⟨List.mem_of_getElem? (i := 479) rfl, rfl⟩
theorem w480 : Cond.methodLink RX9 190 yX5_firstMeeting ∈ xBW := xBW_of ⟨List.mem_of_getElem? (i := 480) (by decide +kernel), rfl⟩
theorem w481 : Cond.instanceMethod yX5_firstMeeting ∈ xBW := xBW_of ⟨List.mem_of_getElem? (i := 481) (by decide +kernel), rfl⟩
theorem w482 : Cond.selects RX5 yX5_firstMeeting yX5_firstMeeting ∈ xBW := xBW_of ⟨List.mem_of_getElem? (i := 482) (by decide +kernel), rfl⟩
set_option maxRecDepth 100000 in
theorem w483 : Cond.code yX5_firstMeeting cX5_firstMeeting 5 (some .int) ∈ xBW := xBW_of ⟨List.mem_of_getElem? (i := 483) rfl, rfl⟩
theorem w484 : Cond.methodLink RX5 25 yX3_selves ∈ xBW := xBW_of ⟨List.mem_of_getElem? (i := 484) (by decide +kernel), rfl⟩
theorem w485 : Cond.methodLink RX5 29 yX3_spotAt ∈ xBW := xBW_of ⟨List.mem_of_getElem? (i := 485) (by decide +kernel), rfl⟩
theorem w486 : Cond.methodLinkNest RX5 33 yX9_minuteOf "HourAgo" ∈ lw_tbl := List.mem_of_getElem? (i := 486) (by decide +kernel)
theorem w487 : Cond.methodLink RX5 36 yX5_isMetBySelf ∈ xBW := xBW_of ⟨List.mem_of_getElem? (i := 487) (by decide +kernel), rfl⟩
theorem w489 : Cond.instanceMethod yX5_isMetBySelf ∈ xBW := xBW_of ⟨List.mem_of_getElem? (i := 489) (by decide +kernel), rfl⟩
set_option maxRecDepth 100000 in
theorem w490 : Cond.code yX5_isMetBySelf cX5_isMetBySelf 7 (some .boolean) ∈ xBW := xBW_of ⟨List.mem_of_getElem? (i := 490) rfl, rfl⟩
theorem w491 : Cond.methodLinkNest RX5 40 yX9_roomOf "HourAgo" ∈ lw_tbl := List.mem_of_getElem? (i := 491) (by decide +kernel)
theorem w492 : Cond.methodLink RX5 43 yX1_meetingRooms ∈ xBW := xBW_of ⟨List.mem_of_getElem? (i := 492) (by decide +kernel), rfl⟩
theorem w493 : Cond.instanceMethod yX1_meetingRooms ∈ xBW := xBW_of ⟨List.mem_of_getElem? (i := 493) (by decide +kernel), rfl⟩
theorem w494 : Cond.selects RX1 yX1_meetingRooms yX1_meetingRooms ∈ xBW := xBW_of ⟨List.mem_of_getElem? (i := 494) (by decide +kernel), rfl⟩
set_option maxRecDepth 100000 in
theorem w495 : Cond.code yX1_meetingRooms cX1_meetingRooms 4 (some .int) ∈ xBW := xBW_of ⟨List.mem_of_getElem? (i := 495) rfl, rfl⟩
theorem w496 : Cond.methodLink RL 68 yX9_most ∈ xBW := xBW_of ⟨List.mem_of_getElem? (i := 496) (by decide +kernel), rfl⟩
theorem w497 : Cond.instanceMethod yX9_most ∈ xBW := xBW_of ⟨List.mem_of_getElem? (i := 497) (by decide +kernel), rfl⟩
theorem w498 : Cond.selects RX9 yX9_most yX9_most ∈ xBW := xBW_of ⟨List.mem_of_getElem? (i := 498) (by decide +kernel), rfl⟩
set_option maxRecDepth 100000 in
theorem w499 : Cond.code yX9_most cX9_most 5 (some .int) ∈ xBW := xBW_of ⟨List.mem_of_getElem? (i := 499) rfl, rfl⟩
theorem w500 : Cond.methodLink RX9 194 yX3_fullestMinute ∈ xBW := xBW_of ⟨List.mem_of_getElem? (i := 500) (by decide +kernel), rfl⟩
theorem w501 : Cond.instanceMethod yX3_fullestMinute ∈ xBW := xBW_of ⟨List.mem_of_getElem? (i := 501) (by decide +kernel), rfl⟩
theorem w502 : Cond.selects RX3 yX3_fullestMinute yX3_fullestMinute ∈ xBW := xBW_of ⟨List.mem_of_getElem? (i := 502) (by decide +kernel), rfl⟩
set_option maxRecDepth 100000 in
theorem w503 : Cond.code yX3_fullestMinute cX3_fullestMinute 6 (some .int) ∈ xBW := xBW_of ⟨List.mem_of_getElem? (i := 503) rfl, rfl⟩
theorem w504 : Cond.methodLinkNest RX3 85 yX9_minuteOf "HourAgo" ∈ lw_tbl := List.mem_of_getElem? (i := 504) (by decide +kernel)
theorem w505 : Cond.methodLink RX3 88 yX3_selvesIn ∈ xBW := xBW_of ⟨List.mem_of_getElem? (i := 505) (by decide +kernel), rfl⟩
theorem w506 : Cond.instanceMethod yX3_selvesIn ∈ xBW := xBW_of ⟨List.mem_of_getElem? (i := 506) (by decide +kernel), rfl⟩
theorem w507 : Cond.selects RX3 yX3_selvesIn yX3_selvesIn ∈ xBW := xBW_of ⟨List.mem_of_getElem? (i := 507) (by decide +kernel), rfl⟩
set_option maxRecDepth 100000 in
theorem w508 : Cond.code yX3_selvesIn cX3_selvesIn 4 (some .int) ∈ xBW := xBW_of ⟨List.mem_of_getElem? (i := 508) rfl, rfl⟩
theorem w509 : Cond.methodLink RX9 197 yX3_selvesIn ∈ xBW := xBW_of ⟨List.mem_of_getElem? (i := 509) (by decide +kernel), rfl⟩
theorem w510 : Cond.methodLink RL 122 yX9_task ∈ xBW := xBW_of ⟨List.mem_of_getElem? (i := 510) (by decide +kernel), rfl⟩
theorem w511 : Cond.instanceMethod yX9_task ∈ xBW := xBW_of ⟨List.mem_of_getElem? (i := 511) (by decide +kernel), rfl⟩
theorem w512 : Cond.selects RX9 yX9_task yX9_task ∈ xBW := xBW_of ⟨List.mem_of_getElem? (i := 512) (by decide +kernel), rfl⟩
set_option maxRecDepth 100000 in
theorem w513 : Cond.code yX9_task cX9_task 4 (some .int) ∈ xBW := xBW_of ⟨List.mem_of_getElem? (i := 513) rfl, rfl⟩
theorem w514 : Cond.methodLink RX9 207 yX7_add ∈ xBW := xBW_of ⟨List.mem_of_getElem? (i := 514) (by decide +kernel), rfl⟩
theorem w515 : Cond.instanceMethod yX7_add ∈ xBW := xBW_of ⟨List.mem_of_getElem? (i := 515) (by decide +kernel), rfl⟩
theorem w516 : Cond.selects RX7 yX7_add yX7_add ∈ xBW := xBW_of ⟨List.mem_of_getElem? (i := 516) (by decide +kernel), rfl⟩
set_option maxRecDepth 100000 in
theorem w517 : Cond.code yX7_add cX7_add 5 (some .int) ∈ xBW := xBW_of ⟨List.mem_of_getElem? (i := 517) rfl, rfl⟩
theorem w518 : Cond.methodLink RL 119 yX9_done ∈ xBW := xBW_of ⟨List.mem_of_getElem? (i := 518) (by decide +kernel), rfl⟩
theorem w519 : Cond.instanceMethod yX9_done ∈ xBW := xBW_of ⟨List.mem_of_getElem? (i := 519) (by decide +kernel), rfl⟩
theorem w520 : Cond.selects RX9 yX9_done yX9_done ∈ xBW := xBW_of ⟨List.mem_of_getElem? (i := 520) (by decide +kernel), rfl⟩
set_option maxRecDepth 100000 in
theorem w521 : Cond.code yX9_done cX9_done 3 (some .int) ∈ xBW := xBW_of ⟨List.mem_of_getElem? (i := 521) rfl, rfl⟩
theorem w522 : Cond.methodLink RX9 211 yX7_doneBy ∈ xBW := xBW_of ⟨List.mem_of_getElem? (i := 522) (by decide +kernel), rfl⟩
theorem w523 : Cond.instanceMethod yX7_doneBy ∈ xBW := xBW_of ⟨List.mem_of_getElem? (i := 523) (by decide +kernel), rfl⟩
theorem w524 : Cond.selects RX7 yX7_doneBy yX7_doneBy ∈ xBW := xBW_of ⟨List.mem_of_getElem? (i := 524) (by decide +kernel), rfl⟩
set_option maxRecDepth 100000 in
theorem w525 : Cond.code yX7_doneBy cX7_doneBy 4 (some .int) ∈ xBW := xBW_of ⟨List.mem_of_getElem? (i := 525) rfl, rfl⟩
theorem w526 : Cond.methodLink RX7 39 yX3_selves ∈ xBW := xBW_of ⟨List.mem_of_getElem? (i := 526) (by decide +kernel), rfl⟩
theorem w527 : Cond.methodLink RX7 45 yX3_spotAt ∈ xBW := xBW_of ⟨List.mem_of_getElem? (i := 527) (by decide +kernel), rfl⟩
theorem w528 : Cond.methodLink RX7 48 yX7_doneAt ∈ xBW := xBW_of ⟨List.mem_of_getElem? (i := 528) (by decide +kernel), rfl⟩
theorem w529 : Cond.instanceMethod yX7_doneAt ∈ xBW := xBW_of ⟨List.mem_of_getElem? (i := 529) (by decide +kernel), rfl⟩
theorem w530 : Cond.selects RX7 yX7_doneAt yX7_doneAt ∈ xBW := xBW_of ⟨List.mem_of_getElem? (i := 530) (by decide +kernel), rfl⟩
set_option maxRecDepth 100000 in
theorem w531 : Cond.code yX7_doneAt cX7_doneAt 6 (some .int) ∈ xBW := xBW_of ⟨List.mem_of_getElem? (i := 531) rfl, rfl⟩
theorem w532 : Cond.methodLinkNest RX7 32 yX9_minuteOf "HourAgo" ∈ lw_tbl := List.mem_of_getElem? (i := 532) (by decide +kernel)
theorem w533 : Cond.methodLinkNest RX7 36 yX9_roomOf "HourAgo" ∈ lw_tbl := List.mem_of_getElem? (i := 533) (by decide +kernel)
theorem w534 : Cond.methodLink RL 125 yX9_glimpse ∈ xBW := xBW_of ⟨List.mem_of_getElem? (i := 534) (by decide +kernel), rfl⟩
theorem w535 : Cond.instanceMethod yX9_glimpse ∈ xBW := xBW_of ⟨List.mem_of_getElem? (i := 535) (by decide +kernel), rfl⟩
theorem w536 : Cond.selects RX9 yX9_glimpse yX9_glimpse ∈ xBW := xBW_of ⟨List.mem_of_getElem? (i := 536) (by decide +kernel), rfl⟩
set_option maxRecDepth 100000 in
theorem w537 : Cond.code yX9_glimpse cX9_glimpse 3 (some .int) ∈ xBW := xBW_of ⟨List.mem_of_getElem? (i := 537) rfl, rfl⟩
theorem w538 : Cond.methodLink RX9 233 yX0_add ∈ xBW := xBW_of ⟨List.mem_of_getElem? (i := 538) (by decide +kernel), rfl⟩
theorem w539 : Cond.instanceMethod yX0_add ∈ xBW := xBW_of ⟨List.mem_of_getElem? (i := 539) (by decide +kernel), rfl⟩
theorem w540 : Cond.selects RX0 yX0_add yX0_add ∈ xBW := xBW_of ⟨List.mem_of_getElem? (i := 540) (by decide +kernel), rfl⟩
set_option maxRecDepth 100000 in
theorem w541 : Cond.code yX0_add cX0_add 2 (some .int) ∈ xBW := xBW_of ⟨List.mem_of_getElem? (i := 541) rfl, rfl⟩
theorem w542 : Cond.methodLink RL 115 yX9_lives ∈ xBW := xBW_of ⟨List.mem_of_getElem? (i := 542) (by decide +kernel), rfl⟩
theorem w543 : Cond.instanceMethod yX9_lives ∈ xBW := xBW_of ⟨List.mem_of_getElem? (i := 543) (by decide +kernel), rfl⟩
theorem w544 : Cond.selects RX9 yX9_lives yX9_lives ∈ xBW := xBW_of ⟨List.mem_of_getElem? (i := 544) (by decide +kernel), rfl⟩
set_option maxRecDepth 100000 in
theorem w545 : Cond.code yX9_lives cX9_lives 6 (some .int) ∈ xBW := xBW_of ⟨List.mem_of_getElem? (i := 545) rfl, rfl⟩
theorem w546 : Cond.methodLink RX9 244 yX8_begin ∈ xBW := xBW_of ⟨List.mem_of_getElem? (i := 546) (by decide +kernel), rfl⟩
theorem w547 : Cond.instanceMethod yX8_begin ∈ xBW := xBW_of ⟨List.mem_of_getElem? (i := 547) (by decide +kernel), rfl⟩
theorem w548 : Cond.selects RX8 yX8_begin yX8_begin ∈ xBW := xBW_of ⟨List.mem_of_getElem? (i := 548) (by decide +kernel), rfl⟩
set_option maxRecDepth 100000 in
theorem w549 : Cond.code yX8_begin cX8_begin 3 none ∈ xBW := xBW_of ⟨List.mem_of_getElem? (i := 549) rfl, rfl⟩
theorem w550 : Cond.methodLink RX9 247 yX8_go ∈ xBW := xBW_of ⟨List.mem_of_getElem? (i := 550) (by decide +kernel), rfl⟩
theorem w551 : Cond.instanceMethod yX8_go ∈ xBW := xBW_of ⟨List.mem_of_getElem? (i := 551) (by decide +kernel), rfl⟩
theorem w552 : Cond.selects RX8 yX8_go yX8_go ∈ xBW := xBW_of ⟨List.mem_of_getElem? (i := 552) (by decide +kernel), rfl⟩
set_option maxRecDepth 100000 in
theorem w553 : Cond.code yX8_go cX8_go 6 none ∈ xBW := xBW_of ⟨List.mem_of_getElem? (i := 553) rfl, rfl⟩
theorem w554 : Cond.methodLink RX8 21 yX8_waysOn ∈ xBW := xBW_of ⟨List.mem_of_getElem? (i := 554) (by decide +kernel), rfl⟩
theorem w556 : Cond.instanceMethod yX8_waysOn ∈ xBW := xBW_of ⟨List.mem_of_getElem? (i := 556) (by decide +kernel), rfl⟩
set_option maxRecDepth 100000 in
theorem w557 : Cond.code yX8_waysOn cX8_waysOn 5 (some .int) ∈ xBW := xBW_of ⟨List.mem_of_getElem? (i := 557) rfl, rfl⟩
theorem w558 : Cond.methodLink RX8 39 yX1_spotAfter ∈ xBW := xBW_of ⟨List.mem_of_getElem? (i := 558) (by decide +kernel), rfl⟩
theorem w559 : Cond.methodLink RX8 25 yX8_draw ∈ xBW := xBW_of ⟨List.mem_of_getElem? (i := 559) (by decide +kernel), rfl⟩
theorem w561 : Cond.instanceMethod yX8_draw ∈ xBW := xBW_of ⟨List.mem_of_getElem? (i := 561) (by decide +kernel), rfl⟩
set_option maxRecDepth 100000 in
theorem w562 : Cond.code yX8_draw cX8_draw 2 (some .int) ∈ xBW := xBW_of ⟨List.mem_of_getElem? (i := 562) rfl, rfl⟩
theorem w563 : Cond.constantLong RX8 45 (1103515245) ∈ xBW := xBW_of ⟨List.mem_of_getElem? (i := 563) (by decide +kernel), rfl⟩
theorem w564 : Cond.constantLong RX8 47 (12345) ∈ xBW := xBW_of ⟨List.mem_of_getElem? (i := 564) (by decide +kernel), rfl⟩
theorem w565 : Cond.constantLong RX8 49 (2147483647) ∈ xBW := xBW_of ⟨List.mem_of_getElem? (i := 565) (by decide +kernel), rfl⟩
theorem w566 : Cond.constant RX8 51 (65536) ∈ xBW := xBW_of ⟨List.mem_of_getElem? (i := 566) (by decide +kernel), rfl⟩
theorem w567 : Cond.methodLink RX8 29 yX8_take ∈ xBW := xBW_of ⟨List.mem_of_getElem? (i := 567) (by decide +kernel), rfl⟩
theorem w569 : Cond.instanceMethod yX8_take ∈ xBW := xBW_of ⟨List.mem_of_getElem? (i := 569) (by decide +kernel), rfl⟩
set_option maxRecDepth 100000 in
theorem w570 : Cond.code yX8_take cX8_take 7 none ∈ xBW := xBW_of ⟨List.mem_of_getElem? (i := 570) rfl, rfl⟩
theorem w571 : Cond.methodLink RX9 251 yX8_tell ∈ xBW := xBW_of ⟨List.mem_of_getElem? (i := 571) (by decide +kernel), rfl⟩
theorem w572 : Cond.instanceMethod yX8_tell ∈ xBW := xBW_of ⟨List.mem_of_getElem? (i := 572) (by decide +kernel), rfl⟩
theorem w573 : Cond.selects RX8 yX8_tell yX8_tell ∈ xBW := xBW_of ⟨List.mem_of_getElem? (i := 573) (by decide +kernel), rfl⟩
set_option maxRecDepth 100000 in
theorem w574 : Cond.code yX8_tell cX8_tell 2 (some .int) ∈ xBW := xBW_of ⟨List.mem_of_getElem? (i := 574) rfl, rfl⟩
theorem w575 : Cond.methodLinkNest RX8 33 yX9_minuteOf "HourAgo" ∈ lw_tbl := List.mem_of_getElem? (i := 575) (by decide +kernel)
theorem w576 : Cond.methodLinkNest RX8 36 yX9_roomOf "HourAgo" ∈ lw_tbl := List.mem_of_getElem? (i := 576) (by decide +kernel)
theorem w577 : Cond.methodLink RL 71 yX9_count ∈ xBW := xBW_of ⟨List.mem_of_getElem? (i := 577) (by decide +kernel), rfl⟩
theorem w578 : Cond.instanceMethod yX9_count ∈ xBW := xBW_of ⟨List.mem_of_getElem? (i := 578) (by decide +kernel), rfl⟩
theorem w579 : Cond.selects RX9 yX9_count yX9_count ∈ xBW := xBW_of ⟨List.mem_of_getElem? (i := 579) (by decide +kernel), rfl⟩
set_option maxRecDepth 100000 in
theorem w580 : Cond.code yX9_count cX9_count 2 (some .int) ∈ xBW := xBW_of ⟨List.mem_of_getElem? (i := 580) rfl, rfl⟩
theorem w581 : Cond.methodLink RX9 270 yX1_sights ∈ xBW := xBW_of ⟨List.mem_of_getElem? (i := 581) (by decide +kernel), rfl⟩
theorem w582 : Cond.instanceMethod yX1_sights ∈ xBW := xBW_of ⟨List.mem_of_getElem? (i := 582) (by decide +kernel), rfl⟩
theorem w583 : Cond.selects RX1 yX1_sights yX1_sights ∈ xBW := xBW_of ⟨List.mem_of_getElem? (i := 583) (by decide +kernel), rfl⟩
set_option maxRecDepth 100000 in
theorem w584 : Cond.code yX1_sights cX1_sights 1 (some .int) ∈ xBW := xBW_of ⟨List.mem_of_getElem? (i := 584) rfl, rfl⟩
theorem w585 : Cond.methodLink RX9 214 yX7_size ∈ xBW := xBW_of ⟨List.mem_of_getElem? (i := 585) (by decide +kernel), rfl⟩
theorem w586 : Cond.instanceMethod yX7_size ∈ xBW := xBW_of ⟨List.mem_of_getElem? (i := 586) (by decide +kernel), rfl⟩
theorem w587 : Cond.selects RX7 yX7_size yX7_size ∈ xBW := xBW_of ⟨List.mem_of_getElem? (i := 587) (by decide +kernel), rfl⟩
set_option maxRecDepth 100000 in
theorem w588 : Cond.code yX7_size cX7_size 1 (some .int) ∈ xBW := xBW_of ⟨List.mem_of_getElem? (i := 588) rfl, rfl⟩
theorem w589 : Cond.methodLink RX9 235 yX0_size ∈ xBW := xBW_of ⟨List.mem_of_getElem? (i := 589) (by decide +kernel), rfl⟩
theorem w590 : Cond.instanceMethod yX0_size ∈ xBW := xBW_of ⟨List.mem_of_getElem? (i := 590) (by decide +kernel), rfl⟩
theorem w591 : Cond.selects RX0 yX0_size yX0_size ∈ xBW := xBW_of ⟨List.mem_of_getElem? (i := 591) (by decide +kernel), rfl⟩
set_option maxRecDepth 100000 in
theorem w592 : Cond.code yX0_size cX0_size 1 (some .int) ∈ xBW := xBW_of ⟨List.mem_of_getElem? (i := 592) rfl, rfl⟩
theorem w593 : Cond.methodLink RX9 273 yX1_back ∈ xBW := xBW_of ⟨List.mem_of_getElem? (i := 593) (by decide +kernel), rfl⟩
theorem w594 : Cond.instanceMethod yX1_back ∈ xBW := xBW_of ⟨List.mem_of_getElem? (i := 594) (by decide +kernel), rfl⟩
theorem w595 : Cond.selects RX1 yX1_back yX1_back ∈ xBW := xBW_of ⟨List.mem_of_getElem? (i := 595) (by decide +kernel), rfl⟩
set_option maxRecDepth 100000 in
theorem w596 : Cond.code yX1_back cX1_back 1 (some .int) ∈ xBW := xBW_of ⟨List.mem_of_getElem? (i := 596) rfl, rfl⟩
theorem w597 : Cond.methodLink RX9 276 yX1_lowRoom ∈ xBW := xBW_of ⟨List.mem_of_getElem? (i := 597) (by decide +kernel), rfl⟩
theorem w598 : Cond.instanceMethod yX1_lowRoom ∈ xBW := xBW_of ⟨List.mem_of_getElem? (i := 598) (by decide +kernel), rfl⟩
theorem w599 : Cond.selects RX1 yX1_lowRoom yX1_lowRoom ∈ xBW := xBW_of ⟨List.mem_of_getElem? (i := 599) (by decide +kernel), rfl⟩
set_option maxRecDepth 100000 in
theorem w600 : Cond.code yX1_lowRoom cX1_lowRoom 1 (some .int) ∈ xBW := xBW_of ⟨List.mem_of_getElem? (i := 600) rfl, rfl⟩
theorem w601 : Cond.methodLink RL 8 yL_cell ∈ xBW := xBW_of ⟨List.mem_of_getElem? (i := 601) (by decide +kernel), rfl⟩
theorem w602 : Cond.static yL_cell ∈ xBW := xBW_of ⟨List.mem_of_getElem? (i := 602) (by decide +kernel), rfl⟩
set_option maxRecDepth 100000 in
theorem w603 : Cond.code yL_cell cL_cell 2 (some .int) ∈ xBW := xBW_of ⟨List.mem_of_getElem? (i := 603) rfl, rfl⟩
theorem w604 : Cond.constant RL 7 (747796405) ∈ xBW := xBW_of ⟨List.mem_of_getElem? (i := 604) (by decide +kernel), rfl⟩
theorem w605 : Cond.methodLink RL 14 yL_at ∈ xBW := xBW_of ⟨List.mem_of_getElem? (i := 605) (by decide +kernel), rfl⟩
theorem w606 : Cond.static yL_at ∈ xBW := xBW_of ⟨List.mem_of_getElem? (i := 606) (by decide +kernel), rfl⟩
set_option maxRecDepth 100000 in
theorem w607 : Cond.code yL_at cL_at 2 (some .int) ∈ xBW := xBW_of ⟨List.mem_of_getElem? (i := 607) rfl, rfl⟩
theorem w608 : Cond.methodLink RL 75 yL_houseText ∈ xBW := xBW_of ⟨List.mem_of_getElem? (i := 608) (by decide +kernel), rfl⟩
theorem w609 : Cond.static yL_houseText ∈ xBW := xBW_of ⟨List.mem_of_getElem? (i := 609) (by decide +kernel), rfl⟩
set_option maxRecDepth 100000 in
theorem w610 : Cond.code yL_houseText cL_houseText 13 (some .int) ∈ xBW := xBW_of ⟨List.mem_of_getElem? (i := 610) rfl, rfl⟩
theorem w611 : Cond.methodLink RL 39 yL_write ∈ xBW := xBW_of ⟨List.mem_of_getElem? (i := 611) (by decide +kernel), rfl⟩
theorem w612 : Cond.static yL_write ∈ xBW := xBW_of ⟨List.mem_of_getElem? (i := 612) (by decide +kernel), rfl⟩
set_option maxRecDepth 100000 in
theorem w613 : Cond.code yL_write cL_write 4 (some .boolean) ∈ xBW := xBW_of ⟨List.mem_of_getElem? (i := 613) rfl, rfl⟩
theorem w614 : Cond.methodLink RL 18 yX9_letters ∈ xBW := xBW_of ⟨List.mem_of_getElem? (i := 614) (by decide +kernel), rfl⟩
theorem w615 : Cond.instanceMethod yX9_letters ∈ xBW := xBW_of ⟨List.mem_of_getElem? (i := 615) (by decide +kernel), rfl⟩
theorem w616 : Cond.selects RX9 yX9_letters yX9_letters ∈ xBW := xBW_of ⟨List.mem_of_getElem? (i := 616) (by decide +kernel), rfl⟩
set_option maxRecDepth 100000 in
theorem w617 : Cond.code yX9_letters cX9_letters 4 (some .int) ∈ xBW := xBW_of ⟨List.mem_of_getElem? (i := 617) rfl, rfl⟩
theorem w618 : Cond.methodLink RX9 75 yX4_lettersIn ∈ xBW := xBW_of ⟨List.mem_of_getElem? (i := 618) (by decide +kernel), rfl⟩
theorem w619 : Cond.static yX4_lettersIn ∈ xBW := xBW_of ⟨List.mem_of_getElem? (i := 619) (by decide +kernel), rfl⟩
set_option maxRecDepth 100000 in
theorem w620 : Cond.code yX4_lettersIn cX4_lettersIn 6 (some .int) ∈ xBW := xBW_of ⟨List.mem_of_getElem? (i := 620) rfl, rfl⟩
theorem w621 : Cond.methodLink RX4 15 yX4_byteOf ∈ xBW := xBW_of ⟨List.mem_of_getElem? (i := 621) (by decide +kernel), rfl⟩
theorem w622 : Cond.static yX4_byteOf ∈ xBW := xBW_of ⟨List.mem_of_getElem? (i := 622) (by decide +kernel), rfl⟩
set_option maxRecDepth 100000 in
theorem w623 : Cond.code yX4_byteOf cX4_byteOf 3 (some .int) ∈ xBW := xBW_of ⟨List.mem_of_getElem? (i := 623) rfl, rfl⟩
theorem w624 : Cond.constantLong RX4 19 (255) ∈ xBW := xBW_of ⟨List.mem_of_getElem? (i := 624) (by decide +kernel), rfl⟩
theorem w625 : Cond.methodLink RX9 83 yX4_addAll ∈ xBW := xBW_of ⟨List.mem_of_getElem? (i := 625) (by decide +kernel), rfl⟩
theorem w626 : Cond.instanceMethod yX4_addAll ∈ xBW := xBW_of ⟨List.mem_of_getElem? (i := 626) (by decide +kernel), rfl⟩
theorem w627 : Cond.selects RX4 yX4_addAll yX4_addAll ∈ xBW := xBW_of ⟨List.mem_of_getElem? (i := 627) (by decide +kernel), rfl⟩
set_option maxRecDepth 100000 in
theorem w628 : Cond.code yX4_addAll cX4_addAll 5 none ∈ xBW := xBW_of ⟨List.mem_of_getElem? (i := 628) rfl, rfl⟩
theorem w629 : Cond.methodLink RL 27 yL_step ∈ xBW := xBW_of ⟨List.mem_of_getElem? (i := 629) (by decide +kernel), rfl⟩
theorem w630 : Cond.static yL_step ∈ xBW := xBW_of ⟨List.mem_of_getElem? (i := 630) (by decide +kernel), rfl⟩
set_option maxRecDepth 100000 in
theorem w631 : Cond.code yL_step cL_step 6 (some .int) ∈ xBW := xBW_of ⟨List.mem_of_getElem? (i := 631) rfl, rfl⟩
theorem w632 : Cond.methodLink RL 24 yL_back ∈ xBW := xBW_of ⟨List.mem_of_getElem? (i := 632) (by decide +kernel), rfl⟩
theorem w633 : Cond.static yL_back ∈ xBW := xBW_of ⟨List.mem_of_getElem? (i := 633) (by decide +kernel), rfl⟩
set_option maxRecDepth 100000 in
theorem w634 : Cond.code yL_back cL_back 2 (some .int) ∈ xBW := xBW_of ⟨List.mem_of_getElem? (i := 634) rfl, rfl⟩
theorem w635 : Cond.methodLink RL 86 yL_people ∈ xBW := xBW_of ⟨List.mem_of_getElem? (i := 635) (by decide +kernel), rfl⟩
theorem w636 : Cond.static yL_people ∈ xBW := xBW_of ⟨List.mem_of_getElem? (i := 636) (by decide +kernel), rfl⟩
set_option maxRecDepth 100000 in
theorem w637 : Cond.code yL_people cL_people 13 (some .boolean) ∈ xBW := xBW_of ⟨List.mem_of_getElem? (i := 637) rfl, rfl⟩
theorem w638 : Cond.methodLink RL 35 yL_lifeText ∈ xBW := xBW_of ⟨List.mem_of_getElem? (i := 638) (by decide +kernel), rfl⟩
theorem w639 : Cond.static yL_lifeText ∈ xBW := xBW_of ⟨List.mem_of_getElem? (i := 639) (by decide +kernel), rfl⟩
set_option maxRecDepth 100000 in
theorem w640 : Cond.code yL_lifeText cL_lifeText 16 (some .int) ∈ xBW := xBW_of ⟨List.mem_of_getElem? (i := 640) rfl, rfl⟩
theorem w641 : Cond.methodLink RL 90 yL_stands ∈ xBW := xBW_of ⟨List.mem_of_getElem? (i := 641) (by decide +kernel), rfl⟩
theorem w642 : Cond.static yL_stands ∈ xBW := xBW_of ⟨List.mem_of_getElem? (i := 642) (by decide +kernel), rfl⟩
set_option maxRecDepth 100000 in
theorem w643 : Cond.code yL_stands cL_stands 13 (some .boolean) ∈ xBW := xBW_of ⟨List.mem_of_getElem? (i := 643) rfl, rfl⟩
theorem w644 : Cond.methodLink RL 56 yL_there ∈ xBW := xBW_of ⟨List.mem_of_getElem? (i := 644) (by decide +kernel), rfl⟩
theorem w645 : Cond.static yL_there ∈ xBW := xBW_of ⟨List.mem_of_getElem? (i := 645) (by decide +kernel), rfl⟩
set_option maxRecDepth 100000 in
theorem w646 : Cond.code yL_there cL_there 6 (some .int) ∈ xBW := xBW_of ⟨List.mem_of_getElem? (i := 646) rfl, rfl⟩
theorem w647 : Cond.methodLink RL 59 yL_met ∈ xBW := xBW_of ⟨List.mem_of_getElem? (i := 647) (by decide +kernel), rfl⟩
theorem w648 : Cond.static yL_met ∈ xBW := xBW_of ⟨List.mem_of_getElem? (i := 648) (by decide +kernel), rfl⟩
set_option maxRecDepth 100000 in
theorem w649 : Cond.code yL_met cL_met 4 (some .boolean) ∈ xBW := xBW_of ⟨List.mem_of_getElem? (i := 649) rfl, rfl⟩
theorem w650 : Cond.methodLink RL 97 yL_tasks ∈ xBW := xBW_of ⟨List.mem_of_getElem? (i := 650) (by decide +kernel), rfl⟩
theorem w651 : Cond.static yL_tasks ∈ xBW := xBW_of ⟨List.mem_of_getElem? (i := 651) (by decide +kernel), rfl⟩
set_option maxRecDepth 100000 in
theorem w652 : Cond.code yL_tasks cL_tasks 12 (some .boolean) ∈ xBW := xBW_of ⟨List.mem_of_getElem? (i := 652) rfl, rfl⟩
theorem w653 : Cond.methodLink RL 100 yL_glimpses ∈ xBW := xBW_of ⟨List.mem_of_getElem? (i := 653) (by decide +kernel), rfl⟩
theorem w654 : Cond.static yL_glimpses ∈ xBW := xBW_of ⟨List.mem_of_getElem? (i := 654) (by decide +kernel), rfl⟩
set_option maxRecDepth 100000 in
theorem w655 : Cond.code yL_glimpses cL_glimpses 13 (some .boolean) ∈ xBW := xBW_of ⟨List.mem_of_getElem? (i := 655) rfl, rfl⟩
theorem w656 : Cond.methodLink RL 128 yX9_pair ∈ xBW := xBW_of ⟨List.mem_of_getElem? (i := 656) (by decide +kernel), rfl⟩
theorem w657 : Cond.instanceMethod yX9_pair ∈ xBW := xBW_of ⟨List.mem_of_getElem? (i := 657) (by decide +kernel), rfl⟩
theorem w658 : Cond.selects RX9 yX9_pair yX9_pair ∈ xBW := xBW_of ⟨List.mem_of_getElem? (i := 658) (by decide +kernel), rfl⟩
set_option maxRecDepth 100000 in
theorem w659 : Cond.code yX9_pair cX9_pair 5 (some .int) ∈ xBW := xBW_of ⟨List.mem_of_getElem? (i := 659) rfl, rfl⟩
theorem w660 : Cond.methodLink RX9 240 yX0_waysBetween ∈ xBW := xBW_of ⟨List.mem_of_getElem? (i := 660) (by decide +kernel), rfl⟩
theorem w661 : Cond.instanceMethod yX0_waysBetween ∈ xBW := xBW_of ⟨List.mem_of_getElem? (i := 661) (by decide +kernel), rfl⟩
theorem w662 : Cond.selects RX0 yX0_waysBetween yX0_waysBetween ∈ xBW := xBW_of ⟨List.mem_of_getElem? (i := 662) (by decide +kernel), rfl⟩
set_option maxRecDepth 100000 in
theorem w663 : Cond.code yX0_waysBetween cX0_waysBetween 6 (some .int) ∈ xBW := xBW_of ⟨List.mem_of_getElem? (i := 663) rfl, rfl⟩
theorem w664 : Cond.methodLink RX0 26 yX3_selvesAt ∈ xBW := xBW_of ⟨List.mem_of_getElem? (i := 664) (by decide +kernel), rfl⟩
theorem w665 : Cond.methodLink RL 131 yX9_whose ∈ xBW := xBW_of ⟨List.mem_of_getElem? (i := 665) (by decide +kernel), rfl⟩
theorem w666 : Cond.instanceMethod yX9_whose ∈ xBW := xBW_of ⟨List.mem_of_getElem? (i := 666) (by decide +kernel), rfl⟩
theorem w667 : Cond.selects RX9 yX9_whose yX9_whose ∈ xBW := xBW_of ⟨List.mem_of_getElem? (i := 667) (by decide +kernel), rfl⟩
set_option maxRecDepth 100000 in
theorem w668 : Cond.code yX9_whose cX9_whose 4 (some .int) ∈ xBW := xBW_of ⟨List.mem_of_getElem? (i := 668) rfl, rfl⟩
theorem w669 : Cond.methodLink RX9 236 yX0_areAllOf ∈ xBW := xBW_of ⟨List.mem_of_getElem? (i := 669) (by decide +kernel), rfl⟩
theorem w670 : Cond.instanceMethod yX0_areAllOf ∈ xBW := xBW_of ⟨List.mem_of_getElem? (i := 670) (by decide +kernel), rfl⟩
theorem w671 : Cond.selects RX0 yX0_areAllOf yX0_areAllOf ∈ xBW := xBW_of ⟨List.mem_of_getElem? (i := 671) (by decide +kernel), rfl⟩
set_option maxRecDepth 100000 in
theorem w672 : Cond.code yX0_areAllOf cX0_areAllOf 3 (some .boolean) ∈ xBW := xBW_of ⟨List.mem_of_getElem? (i := 672) rfl, rfl⟩
theorem w673 : Cond.methodLink RL 134 yX9_forget ∈ xBW := xBW_of ⟨List.mem_of_getElem? (i := 673) (by decide +kernel), rfl⟩
theorem w674 : Cond.instanceMethod yX9_forget ∈ xBW := xBW_of ⟨List.mem_of_getElem? (i := 674) (by decide +kernel), rfl⟩
theorem w675 : Cond.selects RX9 yX9_forget yX9_forget ∈ xBW := xBW_of ⟨List.mem_of_getElem? (i := 675) (by decide +kernel), rfl⟩
set_option maxRecDepth 100000 in
theorem w676 : Cond.code yX9_forget cX9_forget 2 (some .int) ∈ xBW := xBW_of ⟨List.mem_of_getElem? (i := 676) rfl, rfl⟩
theorem w677 : Cond.methodLink RL 103 yL_doors ∈ xBW := xBW_of ⟨List.mem_of_getElem? (i := 677) (by decide +kernel), rfl⟩
theorem w678 : Cond.static yL_doors ∈ xBW := xBW_of ⟨List.mem_of_getElem? (i := 678) (by decide +kernel), rfl⟩
set_option maxRecDepth 100000 in
theorem w679 : Cond.code yL_doors cL_doors 11 (some .boolean) ∈ xBW := xBW_of ⟨List.mem_of_getElem? (i := 679) rfl, rfl⟩
theorem w680 : Cond.methodLink RL 137 yX9_meet ∈ xBW := xBW_of ⟨List.mem_of_getElem? (i := 680) (by decide +kernel), rfl⟩
theorem w681 : Cond.instanceMethod yX9_meet ∈ xBW := xBW_of ⟨List.mem_of_getElem? (i := 681) (by decide +kernel), rfl⟩
theorem w682 : Cond.selects RX9 yX9_meet yX9_meet ∈ xBW := xBW_of ⟨List.mem_of_getElem? (i := 682) (by decide +kernel), rfl⟩
set_option maxRecDepth 100000 in
theorem w683 : Cond.code yX9_meet cX9_meet 5 (some .int) ∈ xBW := xBW_of ⟨List.mem_of_getElem? (i := 683) rfl, rfl⟩
theorem w684 : Cond.methodLink RX9 200 yX3_firstMinuteWith ∈ xBW := xBW_of ⟨List.mem_of_getElem? (i := 684) (by decide +kernel), rfl⟩
theorem w685 : Cond.instanceMethod yX3_firstMinuteWith ∈ xBW := xBW_of ⟨List.mem_of_getElem? (i := 685) (by decide +kernel), rfl⟩
theorem w686 : Cond.selects RX3 yX3_firstMinuteWith yX3_firstMinuteWith ∈ xBW := xBW_of ⟨List.mem_of_getElem? (i := 686) (by decide +kernel), rfl⟩
set_option maxRecDepth 100000 in
theorem w687 : Cond.code yX3_firstMinuteWith cX3_firstMinuteWith 5 (some .int) ∈ xBW := xBW_of ⟨List.mem_of_getElem? (i := 687) rfl, rfl⟩
theorem w688 : Cond.methodLink RX3 91 yX3_selvesAt ∈ xBW := xBW_of ⟨List.mem_of_getElem? (i := 688) (by decide +kernel), rfl⟩
theorem w689 : Cond.methodLink RL 140 yX9_locked ∈ xBW := xBW_of ⟨List.mem_of_getElem? (i := 689) (by decide +kernel), rfl⟩
theorem w690 : Cond.instanceMethod yX9_locked ∈ xBW := xBW_of ⟨List.mem_of_getElem? (i := 690) (by decide +kernel), rfl⟩
theorem w691 : Cond.selects RX9 yX9_locked yX9_locked ∈ xBW := xBW_of ⟨List.mem_of_getElem? (i := 691) (by decide +kernel), rfl⟩
set_option maxRecDepth 100000 in
theorem w692 : Cond.code yX9_locked cX9_locked 5 (some .int) ∈ xBW := xBW_of ⟨List.mem_of_getElem? (i := 692) rfl, rfl⟩
theorem w693 : Cond.methodLink RX9 204 yX9_usersOf ∈ xBW := xBW_of ⟨List.mem_of_getElem? (i := 693) (by decide +kernel), rfl⟩
theorem w695 : Cond.instanceMethod yX9_usersOf ∈ xBW := xBW_of ⟨List.mem_of_getElem? (i := 695) (by decide +kernel), rfl⟩
set_option maxRecDepth 100000 in
theorem w696 : Cond.code yX9_usersOf cX9_usersOf 5 (some .int) ∈ xBW := xBW_of ⟨List.mem_of_getElem? (i := 696) rfl, rfl⟩
theorem w697 : Cond.methodLink RX9 331 yX3_usesDoor ∈ xBW := xBW_of ⟨List.mem_of_getElem? (i := 697) (by decide +kernel), rfl⟩
theorem w698 : Cond.instanceMethod yX3_usesDoor ∈ xBW := xBW_of ⟨List.mem_of_getElem? (i := 698) (by decide +kernel), rfl⟩
theorem w699 : Cond.selects RX3 yX3_usesDoor yX3_usesDoor ∈ xBW := xBW_of ⟨List.mem_of_getElem? (i := 699) (by decide +kernel), rfl⟩
set_option maxRecDepth 100000 in
theorem w700 : Cond.code yX3_usesDoor cX3_usesDoor 2 (some .boolean) ∈ xBW := xBW_of ⟨List.mem_of_getElem? (i := 700) rfl, rfl⟩
theorem w701 : Cond.constant RL 106 (2147483647) ∈ xBW := xBW_of ⟨List.mem_of_getElem? (i := 701) (by decide +kernel), rfl⟩
theorem w702 : Cond.constantLong RL 107 (1103515245) ∈ xBW := xBW_of ⟨List.mem_of_getElem? (i := 702) (by decide +kernel), rfl⟩
theorem w703 : Cond.constantLong RL 109 (12345) ∈ xBW := xBW_of ⟨List.mem_of_getElem? (i := 703) (by decide +kernel), rfl⟩
theorem w704 : Cond.constantLong RL 111 (2147483648) ∈ xBW := xBW_of ⟨List.mem_of_getElem? (i := 704) (by decide +kernel), rfl⟩
theorem w705 : Cond.constantLong RL 113 (65536) ∈ xBW := xBW_of ⟨List.mem_of_getElem? (i := 705) (by decide +kernel), rfl⟩
end
section
/-! ===== the methods: their instructions ===== -/
def tX0_init : List (Nat × Instr × Nat) := [(0, .aload_n 0, 1), (1, .invokespecial 3, 3), (4, .aload_n 0, 1), (5, .bipush 8, 2), (7, .newarray .int, 2), (9, .putfield 9, 3), (12, .return_, 1)]
def mX0_init : xM := (yX0_init, cX0_init, 1, none, 0, tX0_init)
theorem okX0_init : xmOk mX0_init := ⟨w122, ⟨by decide +kernel, by decide +kernel, by decide +kernel⟩, by decide, by decide +kernel, xfetch_of (by decide +kernel)⟩
def tX0_size : List (Nat × Instr × Nat) := [(0, .aload_n 0, 1), (1, .getfield 15, 3), (4, .ireturn, 1)]
def mX0_size : xM := (yX0_size, cX0_size, 1, (some .int), 0, tX0_size)
theorem okX0_size : xmOk mX0_size := ⟨w592, ⟨by decide +kernel, by decide +kernel, by decide +kernel⟩, by decide, by decide +kernel, xfetch_of (by decide +kernel)⟩
def tX0_clear : List (Nat × Instr × Nat) := [(0, .aload_n 0, 1), (1, .iconst 0, 1), (2, .putfield 15, 3), (5, .return_, 1)]
def mX0_clear : xM := (yX0_clear, cX0_clear, 1, none, 0, tX0_clear)
theorem okX0_clear : xmOk mX0_clear := ⟨w334, ⟨by decide +kernel, by decide +kernel, by decide +kernel⟩, by decide, by decide +kernel, xfetch_of (by decide +kernel)⟩
def tX0_add : List (Nat × Instr × Nat) := [(0, .aload_n 0, 1), (1, .getfield 15, 3), (4, .ifCond .lt 15, 3), (7, .aload_n 0, 1), (8, .getfield 15, 3), (11, .aload_n 0, 1), (12, .getfield 9, 3), (15, .arraylength, 1), (16, .if_icmp .lt 6, 3), (19, .bipush (-104), 2), (21, .ireturn, 1), (22, .aload_n 0, 1), (23, .getfield 9, 3), (26, .aload_n 0, 1), (27, .getfield 15, 3), (30, .iload_n 1, 1), (31, .iastore, 1), (32, .aload_n 0, 1), (33, .dup, 1), (34, .getfield 15, 3), (37, .iconst 1, 1), (38, .iadd, 1), (39, .putfield 15, 3), (42, .aload_n 0, 1), (43, .getfield 15, 3), (46, .ireturn, 1)]
def mX0_add : xM := (yX0_add, cX0_add, 2, (some .int), 1, tX0_add)
theorem okX0_add : xmOk mX0_add := ⟨w541, ⟨by decide +kernel, by decide +kernel, by decide +kernel⟩, by decide, by decide +kernel, xfetch_of (by decide +kernel)⟩
def tX0_areAllOf : List (Nat × Instr × Nat) := [(0, .iconst 0, 1), (1, .istore_n 2, 1), (2, .iload_n 2, 1), (3, .aload_n 0, 1), (4, .getfield 15, 3), (7, .if_icmp .ge 33, 3), (10, .iload_n 2, 1), (11, .aload_n 0, 1), (12, .getfield 9, 3), (15, .arraylength, 1), (16, .if_icmp .ge 24, 3), (19, .aload_n 1, 1), (20, .aload_n 0, 1), (21, .getfield 9, 3), (24, .iload_n 2, 1), (25, .iaload, 1), (26, .invokevirtual 26, 3), (29, .ifCond .ne 5, 3), (32, .iconst 0, 1), (33, .ireturn, 1), (34, .iinc 2 1, 3), (37, .goto (-35), 3), (40, .iconst 1, 1), (41, .ireturn, 1)]
def mX0_areAllOf : xM := (yX0_areAllOf, cX0_areAllOf, 3, (some .boolean), 1, tX0_areAllOf)
theorem okX0_areAllOf : xmOk mX0_areAllOf := ⟨w672, ⟨by decide +kernel, by decide +kernel, by decide +kernel⟩, by decide, by decide +kernel, xfetch_of (by decide +kernel)⟩
def tX0_waysBetween : List (Nat × Instr × Nat) := [(0, .iconst 1, 1), (1, .istore_n 3, 1), (2, .iconst 0, 1), (3, .istore 4, 2), (5, .iload 4, 2), (7, .aload_n 0, 1), (8, .getfield 15, 3), (11, .if_icmp .ge 69, 3), (14, .iload 4, 2), (16, .aload_n 0, 1), (17, .getfield 9, 3), (20, .arraylength, 1), (21, .if_icmp .ge 59, 3), (24, .aload_n 1, 1), (25, .aload_n 0, 1), (26, .getfield 9, 3), (29, .iload 4, 2), (31, .iaload, 1), (32, .invokevirtual 26, 3), (35, .ifCond .le 7, 3), (38, .iconst 1, 1), (39, .goto 4, 3), (42, .iconst 0, 1), (43, .istore 5, 2), (45, .iload 5, 2), (47, .aload_n 2, 1), (48, .aload_n 0, 1), (49, .getfield 9, 3), (52, .iload 4, 2), (54, .iaload, 1), (55, .invokevirtual 26, 3), (58, .ifCond .le 7, 3), (61, .iconst 1, 1), (62, .goto 4, 3), (65, .iconst 0, 1), (66, .iadd, 1), (67, .istore 5, 2), (69, .iload_n 3, 1), (70, .iload 5, 2), (72, .imul, 1), (73, .istore_n 3, 1), (74, .iinc 4 1, 3), (77, .goto (-72), 3), (80, .iload_n 3, 1), (81, .ireturn, 1)]
def mX0_waysBetween : xM := (yX0_waysBetween, cX0_waysBetween, 6, (some .int), 2, tX0_waysBetween)
theorem okX0_waysBetween : xmOk mX0_waysBetween := ⟨w663, ⟨by decide +kernel, by decide +kernel, by decide +kernel⟩, by decide, by decide +kernel, xfetch_of (by decide +kernel)⟩
def tX1_init : List (Nat × Instr × Nat) := [(0, .aload_n 0, 1), (1, .invokespecial 3, 3), (4, .aload_n 0, 1), (5, .bipush 36, 2), (7, .newarray .int, 2), (9, .putfield 9, 3), (12, .aload_n 0, 1), (13, .bipush 6, 2), (15, .newarray .int, 2), (17, .putfield 15, 3), (20, .aload_n 0, 1), (21, .iconst (-1), 1), (22, .putfield 18, 3), (25, .return_, 1)]
def mX1_init : xM := (yX1_init, cX1_init, 1, none, 0, tX1_init)
theorem okX1_init : xmOk mX1_init := ⟨w51, ⟨by decide +kernel, by decide +kernel, by decide +kernel⟩, by decide, by decide +kernel, xfetch_of (by decide +kernel)⟩
def tX1_read : List (Nat × Instr × Nat) := [(0, .aload_n 0, 1), (1, .invokevirtual 22, 3), (4, .iconst 0, 1), (5, .istore_n 2, 1), (6, .iload_n 2, 1), (7, .aload_n 1, 1), (8, .invokevirtual 25, 3), (11, .if_icmp .ge 23, 3), (14, .aload_n 0, 1), (15, .aload_n 1, 1), (16, .iload_n 2, 1), (17, .invokevirtual 31, 3), (20, .invokevirtual 35, 3), (23, .ifCond .ne 5, 3), (26, .iload_n 2, 1), (27, .ireturn, 1), (28, .iinc 2 1, 3), (31, .goto (-25), 3), (34, .aload_n 1, 1), (35, .invokevirtual 25, 3), (38, .ireturn, 1)]
def mX1_read : xM := (yX1_read, cX1_read, 3, (some .int), 1, tX1_read)
theorem okX1_read : xmOk mX1_read := ⟨w258, ⟨by decide +kernel, by decide +kernel, by decide +kernel⟩, by decide, by decide +kernel, xfetch_of (by decide +kernel)⟩
def tX1_isWhole : List (Nat × Instr × Nat) := [(0, .aload_n 0, 1), (1, .getfield 39, 3), (4, .iconst 5, 1), (5, .if_icmp .eq 12, 3), (8, .aload_n 0, 1), (9, .getfield 39, 3), (12, .bipush 8, 2), (14, .if_icmp .ne 7, 3), (17, .iconst 1, 1), (18, .goto 4, 3), (21, .iconst 0, 1), (22, .ireturn, 1)]
def mX1_isWhole : xM := (yX1_isWhole, cX1_isWhole, 1, (some .boolean), 0, tX1_isWhole)
theorem okX1_isWhole : xmOk mX1_isWhole := ⟨w326, ⟨by decide +kernel, by decide +kernel, by decide +kernel⟩, by decide, by decide +kernel, xfetch_of (by decide +kernel)⟩
def tX1_clear : List (Nat × Instr × Nat) := [(0, .iconst 0, 1), (1, .istore_n 1, 1), (2, .iload_n 1, 1), (3, .aload_n 0, 1), (4, .getfield 9, 3), (7, .arraylength, 1), (8, .if_icmp .ge 16, 3), (11, .aload_n 0, 1), (12, .getfield 9, 3), (15, .iload_n 1, 1), (16, .iconst 0, 1), (17, .iastore, 1), (18, .iinc 1 1, 3), (21, .goto (-19), 3), (24, .iconst 0, 1), (25, .istore_n 1, 1), (26, .iload_n 1, 1), (27, .aload_n 0, 1), (28, .getfield 15, 3), (31, .arraylength, 1), (32, .if_icmp .ge 16, 3), (35, .aload_n 0, 1), (36, .getfield 15, 3), (39, .iload_n 1, 1), (40, .iconst 0, 1), (41, .iastore, 1), (42, .iinc 1 1, 3), (45, .goto (-19), 3), (48, .aload_n 0, 1), (49, .iconst 0, 1), (50, .putfield 42, 3), (53, .aload_n 0, 1), (54, .iconst 0, 1), (55, .putfield 45, 3), (58, .aload_n 0, 1), (59, .iconst (-1), 1), (60, .putfield 18, 3), (63, .aload_n 0, 1), (64, .iconst 0, 1), (65, .putfield 48, 3), (68, .aload_n 0, 1), (69, .iconst 0, 1), (70, .putfield 39, 3), (73, .return_, 1)]
def mX1_clear : xM := (yX1_clear, cX1_clear, 2, none, 0, tX1_clear)
theorem okX1_clear : xmOk mX1_clear := ⟨w262, ⟨by decide +kernel, by decide +kernel, by decide +kernel⟩, by decide, by decide +kernel, xfetch_of (by decide +kernel)⟩
def tX1_takes : List (Nat × Instr × Nat) := [(0, .aload_n 0, 1), (1, .getfield 39, 3), (4, .tableswitch 263 0 8 #[52, 84, 102, 143, 170, 200, 52, 218, 237], 52), (56, .aload_n 0, 1), (57, .iload_n 1, 1), (58, .invokestatic 51, 3), (61, .putfield 54, 3), (64, .aload_n 0, 1), (65, .aload_n 0, 1), (66, .getfield 54, 3), (69, .iconst (-1), 1), (70, .if_icmp .eq 7, 3), (73, .iconst 1, 1), (74, .goto 4, 3), (77, .iconst 0, 1), (78, .aload_n 0, 1), (79, .getfield 39, 3), (82, .iconst 1, 1), (83, .iadd, 1), (84, .invokevirtual 57, 3), (87, .ireturn, 1), (88, .aload_n 0, 1), (89, .aload_n 0, 1), (90, .aload_n 0, 1), (91, .getfield 54, 3), (94, .iload_n 1, 1), (95, .invokestatic 51, 3), (98, .invokevirtual 61, 3), (101, .iconst 2, 1), (102, .invokevirtual 57, 3), (105, .ireturn, 1), (106, .iload_n 1, 1), (107, .bipush 59, 2), (109, .if_icmp .ne 12, 3), (112, .aload_n 0, 1), (113, .iconst 1, 1), (114, .iconst 3, 1), (115, .invokevirtual 57, 3), (118, .goto 28, 3), (121, .aload_n 0, 1), (122, .iload_n 1, 1), (123, .bipush 44, 2), (125, .if_icmp .ne 16, 3), (128, .aload_n 0, 1), (129, .getfield 42, 3), (132, .bipush 10, 2), (134, .if_icmp .ge 7, 3), (137, .iconst 1, 1), (138, .goto 4, 3), (141, .iconst 0, 1), (142, .iconst 0, 1), (143, .invokevirtual 57, 3), (146, .ireturn, 1), (147, .aload_n 0, 1), (148, .iload_n 1, 1), (149, .invokestatic 51, 3), (152, .putfield 18, 3), (155, .aload_n 0, 1), (156, .aload_n 0, 1), (157, .getfield 18, 3), (160, .iconst (-1), 1), (161, .if_icmp .eq 7, 3), (164, .iconst 1, 1), (165, .goto 4, 3), (168, .iconst 0, 1), (169, .iconst 4, 1), (170, .invokevirtual 57, 3), (173, .ireturn, 1), (174, .aload_n 0, 1), (175, .iload_n 1, 1), (176, .iconst 1, 1), (177, .bipush 9, 2), (179, .invokestatic 65, 3), (182, .putfield 48, 3), (185, .aload_n 0, 1), (186, .aload_n 0, 1), (187, .getfield 48, 3), (190, .iconst (-1), 1), (191, .if_icmp .eq 7, 3), (194, .iconst 1, 1), (195, .goto 4, 3), (198, .iconst 0, 1), (199, .iconst 5, 1), (200, .invokevirtual 57, 3), (203, .ireturn, 1), (204, .aload_n 0, 1), (205, .iload_n 1, 1), (206, .bipush 59, 2), (208, .if_icmp .ne 7, 3), (211, .iconst 1, 1), (212, .goto 4, 3), (215, .iconst 0, 1), (216, .bipush 6, 2), (218, .invokevirtual 57, 3), (221, .ireturn, 1), (222, .aload_n 0, 1), (223, .aload_n 0, 1), (224, .aload_n 0, 1), (225, .getfield 54, 3), (228, .iload_n 1, 1), (229, .invokestatic 51, 3), (232, .invokevirtual 69, 3), (235, .bipush 8, 2), (237, .invokevirtual 57, 3), (240, .ireturn, 1), (241, .aload_n 0, 1), (242, .iload_n 1, 1), (243, .bipush 44, 2), (245, .if_icmp .ne 15, 3), (248, .aload_n 0, 1), (249, .getfield 45, 3), (252, .iconst 4, 1), (253, .if_icmp .ge 7, 3), (256, .iconst 1, 1), (257, .goto 4, 3), (260, .iconst 0, 1), (261, .bipush 6, 2), (263, .invokevirtual 57, 3), (266, .ireturn, 1), (267, .iconst 0, 1), (268, .ireturn, 1)]
def mX1_takes : xM := (yX1_takes, cX1_takes, 2, (some .boolean), 1, tX1_takes)
theorem okX1_takes : xmOk mX1_takes := ⟨w274, ⟨by decide +kernel, by decide +kernel, by decide +kernel⟩, by decide, by decide +kernel, xfetch_of (by decide +kernel)⟩
def tX1_goesOn : List (Nat × Instr × Nat) := [(0, .iload_n 1, 1), (1, .ifCond .eq 8, 3), (4, .aload_n 0, 1), (5, .iload_n 2, 1), (6, .putfield 39, 3), (9, .iload_n 1, 1), (10, .ireturn, 1)]
def mX1_goesOn : xM := (yX1_goesOn, cX1_goesOn, 3, (some .boolean), 2, tX1_goesOn)
theorem okX1_goesOn : xmOk mX1_goesOn := ⟨w284, ⟨by decide +kernel, by decide +kernel, by decide +kernel⟩, by decide, by decide +kernel, xfetch_of (by decide +kernel)⟩
def tX1_addsDoor : List (Nat × Instr × Nat) := [(0, .iload_n 1, 1), (1, .invokestatic 72, 3), (4, .ifCond .eq 25, 3), (7, .iload_n 2, 1), (8, .invokestatic 72, 3), (11, .ifCond .eq 18, 3), (14, .iload_n 1, 1), (15, .iload_n 2, 1), (16, .if_icmp .eq 13, 3), (19, .aload_n 0, 1), (20, .iload_n 1, 1), (21, .iload_n 2, 1), (22, .invokevirtual 75, 3), (25, .iconst (-1), 1), (26, .if_icmp .eq 5, 3), (29, .iconst 0, 1), (30, .ireturn, 1), (31, .aload_n 0, 1), (32, .dup, 1), (33, .getfield 42, 3), (36, .iconst 1, 1), (37, .iadd, 1), (38, .putfield 42, 3), (41, .aload_n 0, 1), (42, .getfield 9, 3), (45, .iload_n 1, 1), (46, .bipush 6, 2), (48, .imul, 1), (49, .iload_n 2, 1), (50, .iadd, 1), (51, .aload_n 0, 1), (52, .getfield 42, 3), (55, .iastore, 1), (56, .aload_n 0, 1), (57, .getfield 9, 3), (60, .iload_n 2, 1), (61, .bipush 6, 2), (63, .imul, 1), (64, .iload_n 1, 1), (65, .iadd, 1), (66, .aload_n 0, 1), (67, .getfield 42, 3), (70, .iastore, 1), (71, .iconst 1, 1), (72, .ireturn, 1)]
def mX1_addsDoor : xM := (yX1_addsDoor, cX1_addsDoor, 3, (some .boolean), 2, tX1_addsDoor)
theorem okX1_addsDoor : xmOk mX1_addsDoor := ⟨w288, ⟨by decide +kernel, by decide +kernel, by decide +kernel⟩, by decide, by decide +kernel, xfetch_of (by decide +kernel)⟩
def tX1_addsSight : List (Nat × Instr × Nat) := [(0, .iload_n 1, 1), (1, .invokestatic 72, 3), (4, .ifCond .eq 24, 3), (7, .iload_n 2, 1), (8, .invokestatic 72, 3), (11, .ifCond .eq 17, 3), (14, .iload_n 1, 1), (15, .iload_n 2, 1), (16, .if_icmp .eq 12, 3), (19, .aload_n 0, 1), (20, .iload_n 1, 1), (21, .iload_n 2, 1), (22, .invokevirtual 79, 3), (25, .ifCond .eq 5, 3), (28, .iconst 0, 1), (29, .ireturn, 1), (30, .aload_n 0, 1), (31, .dup, 1), (32, .getfield 45, 3), (35, .iconst 1, 1), (36, .iadd, 1), (37, .putfield 45, 3), (40, .aload_n 0, 1), (41, .getfield 15, 3), (44, .iload_n 1, 1), (45, .dup2, 1), (46, .iaload, 1), (47, .iconst 1, 1), (48, .iload_n 2, 1), (49, .ishl, 1), (50, .ior, 1), (51, .iastore, 1), (52, .aload_n 0, 1), (53, .getfield 15, 3), (56, .iload_n 2, 1), (57, .dup2, 1), (58, .iaload, 1), (59, .iconst 1, 1), (60, .iload_n 1, 1), (61, .ishl, 1), (62, .ior, 1), (63, .iastore, 1), (64, .iconst 1, 1), (65, .ireturn, 1)]
def mX1_addsSight : xM := (yX1_addsSight, cX1_addsSight, 3, (some .boolean), 2, tX1_addsSight)
theorem okX1_addsSight : xmOk mX1_addsSight := ⟨w300, ⟨by decide +kernel, by decide +kernel, by decide +kernel⟩, by decide, by decide +kernel, xfetch_of (by decide +kernel)⟩
def tX1_doors : List (Nat × Instr × Nat) := [(0, .aload_n 0, 1), (1, .getfield 42, 3), (4, .ireturn, 1)]
def mX1_doors : xM := (yX1_doors, cX1_doors, 1, (some .int), 0, tX1_doors)
theorem okX1_doors : xmOk mX1_doors := ⟨w346, ⟨by decide +kernel, by decide +kernel, by decide +kernel⟩, by decide, by decide +kernel, xfetch_of (by decide +kernel)⟩
def tX1_sights : List (Nat × Instr × Nat) := [(0, .aload_n 0, 1), (1, .getfield 45, 3), (4, .ireturn, 1)]
def mX1_sights : xM := (yX1_sights, cX1_sights, 1, (some .int), 0, tX1_sights)
theorem okX1_sights : xmOk mX1_sights := ⟨w584, ⟨by decide +kernel, by decide +kernel, by decide +kernel⟩, by decide, by decide +kernel, xfetch_of (by decide +kernel)⟩
def tX1_lowRoom : List (Nat × Instr × Nat) := [(0, .aload_n 0, 1), (1, .getfield 18, 3), (4, .ireturn, 1)]
def mX1_lowRoom : xM := (yX1_lowRoom, cX1_lowRoom, 1, (some .int), 0, tX1_lowRoom)
theorem okX1_lowRoom : xmOk mX1_lowRoom := ⟨w600, ⟨by decide +kernel, by decide +kernel, by decide +kernel⟩, by decide, by decide +kernel, xfetch_of (by decide +kernel)⟩
def tX1_back : List (Nat × Instr × Nat) := [(0, .aload_n 0, 1), (1, .getfield 48, 3), (4, .ireturn, 1)]
def mX1_back : xM := (yX1_back, cX1_back, 1, (some .int), 0, tX1_back)
theorem okX1_back : xmOk mX1_back := ⟨w596, ⟨by decide +kernel, by decide +kernel, by decide +kernel⟩, by decide, by decide +kernel, xfetch_of (by decide +kernel)⟩
def tX1_leapOf : List (Nat × Instr × Nat) := [(0, .iload_n 1, 1), (1, .iconst 2, 1), (2, .invokestatic 82, 3), (5, .ifCond .eq 12, 3), (8, .aload_n 0, 1), (9, .getfield 48, 3), (12, .iconst 1, 1), (13, .iadd, 1), (14, .goto 7, 3), (17, .aload_n 0, 1), (18, .getfield 48, 3), (21, .ireturn, 1)]
def mX1_leapOf : xM := (yX1_leapOf, cX1_leapOf, 2, (some .int), 1, tX1_leapOf)
theorem okX1_leapOf : xmOk mX1_leapOf := ⟨w388, ⟨by decide +kernel, by decide +kernel, by decide +kernel⟩, by decide, by decide +kernel, xfetch_of (by decide +kernel)⟩
def tX1_doorBetween : List (Nat × Instr × Nat) := [(0, .iload_n 1, 1), (1, .invokestatic 72, 3), (4, .ifCond .eq 26, 3), (7, .iload_n 2, 1), (8, .invokestatic 72, 3), (11, .ifCond .eq 19, 3), (14, .aload_n 0, 1), (15, .getfield 9, 3), (18, .iload_n 1, 1), (19, .bipush 6, 2), (21, .imul, 1), (22, .iload_n 2, 1), (23, .iadd, 1), (24, .iaload, 1), (25, .iconst 1, 1), (26, .isub, 1), (27, .goto 4, 3), (30, .iconst (-1), 1), (31, .ireturn, 1)]
def mX1_doorBetween : xM := (yX1_doorBetween, cX1_doorBetween, 3, (some .int), 2, tX1_doorBetween)
theorem okX1_doorBetween : xmOk mX1_doorBetween := ⟨w295, ⟨by decide +kernel, by decide +kernel, by decide +kernel⟩, by decide, by decide +kernel, xfetch_of (by decide +kernel)⟩
def tX1_isSeenFrom : List (Nat × Instr × Nat) := [(0, .iload_n 1, 1), (1, .invokestatic 72, 3), (4, .ifCond .eq 27, 3), (7, .iload_n 2, 1), (8, .invokestatic 72, 3), (11, .ifCond .eq 20, 3), (14, .aload_n 0, 1), (15, .getfield 15, 3), (18, .iload_n 1, 1), (19, .iaload, 1), (20, .iload_n 2, 1), (21, .ishr, 1), (22, .iconst 1, 1), (23, .iand, 1), (24, .ifCond .eq 7, 3), (27, .iconst 1, 1), (28, .goto 4, 3), (31, .iconst 0, 1), (32, .ireturn, 1)]
def mX1_isSeenFrom : xM := (yX1_isSeenFrom, cX1_isSeenFrom, 3, (some .boolean), 2, tX1_isSeenFrom)
theorem okX1_isSeenFrom : xmOk mX1_isSeenFrom := ⟨w304, ⟨by decide +kernel, by decide +kernel, by decide +kernel⟩, by decide, by decide +kernel, xfetch_of (by decide +kernel)⟩
def tX1_meetingRooms : List (Nat × Instr × Nat) := [(0, .iload_n 2, 1), (1, .invokestatic 72, 3), (4, .ifCond .eq 11, 3), (7, .iload_n 1, 1), (8, .iconst 3, 1), (9, .invokestatic 82, 3), (12, .ifCond .eq 5, 3), (15, .iconst 0, 1), (16, .ireturn, 1), (17, .iconst 1, 1), (18, .iload_n 2, 1), (19, .ishl, 1), (20, .istore_n 3, 1), (21, .iload_n 1, 1), (22, .iconst 1, 1), (23, .invokestatic 82, 3), (26, .ifCond .eq 7, 3), (29, .iload_n 3, 1), (30, .goto 11, 3), (33, .iload_n 3, 1), (34, .aload_n 0, 1), (35, .getfield 15, 3), (38, .iload_n 2, 1), (39, .iaload, 1), (40, .ior, 1), (41, .ireturn, 1)]
def mX1_meetingRooms : xM := (yX1_meetingRooms, cX1_meetingRooms, 4, (some .int), 2, tX1_meetingRooms)
theorem okX1_meetingRooms : xmOk mX1_meetingRooms := ⟨w495, ⟨by decide +kernel, by decide +kernel, by decide +kernel⟩, by decide, by decide +kernel, xfetch_of (by decide +kernel)⟩
def tX1_spotAfter : List (Nat × Instr × Nat) := [(0, .iload_n 1, 1), (1, .invokestatic 85, 3), (4, .istore 4, 2), (6, .iload_n 1, 1), (7, .invokestatic 88, 3), (10, .istore 5, 2), (12, .iload_n 2, 1), (13, .bipush 7, 2), (15, .if_icmp .ne 32, 3), (18, .iload 5, 2), (20, .aload_n 0, 1), (21, .getfield 18, 3), (24, .if_icmp .ne 21, 3), (27, .iload 4, 2), (29, .iload_n 3, 1), (30, .if_icmp .lt 15, 3), (33, .iload 4, 2), (35, .iload_n 3, 1), (36, .isub, 1), (37, .iload 5, 2), (39, .invokestatic 91, 3), (42, .goto 4, 3), (45, .iconst (-1), 1), (46, .ireturn, 1), (47, .iload 4, 2), (49, .invokestatic 94, 3), (52, .ifCond .eq 13, 3), (55, .iload 4, 2), (57, .iconst 1, 1), (58, .iadd, 1), (59, .invokestatic 94, 3), (62, .ifCond .ne 5, 3), (65, .iconst (-1), 1), (66, .ireturn, 1), (67, .iload_n 2, 1), (68, .bipush 6, 2), (70, .if_icmp .ne 13, 3), (73, .iload 4, 2), (75, .iconst 1, 1), (76, .iadd, 1), (77, .iload 5, 2), (79, .invokestatic 91, 3), (82, .ireturn, 1), (83, .aload_n 0, 1), (84, .iload 5, 2), (86, .iload_n 2, 1), (87, .invokevirtual 75, 3), (90, .iconst (-1), 1), (91, .if_icmp .ne 7, 3), (94, .iconst (-1), 1), (95, .goto 11, 3), (98, .iload 4, 2), (100, .iconst 1, 1), (101, .iadd, 1), (102, .iload_n 2, 1), (103, .invokestatic 91, 3), (106, .ireturn, 1)]
def mX1_spotAfter : xM := (yX1_spotAfter, cX1_spotAfter, 6, (some .int), 3, tX1_spotAfter)
theorem okX1_spotAfter : xmOk mX1_spotAfter := ⟨w420, ⟨by decide +kernel, by decide +kernel, by decide +kernel⟩, by decide, by decide +kernel, xfetch_of (by decide +kernel)⟩
def tX2_init : List (Nat × Instr × Nat) := [(0, .aload_n 0, 1), (1, .invokespecial 3, 3), (4, .aload_n 0, 1), (5, .iconst 4, 1), (6, .anewarray 9, 3), (9, .putfield 11, 3), (12, .aload_n 0, 1), (13, .new 17, 3), (16, .dup, 1), (17, .invokespecial 19, 3), (20, .putfield 20, 3), (23, .aload_n 0, 1), (24, .new 24, 3), (27, .dup, 1), (28, .invokespecial 26, 3), (31, .putfield 27, 3), (34, .iconst 0, 1), (35, .istore_n 1, 1), (36, .iload_n 1, 1), (37, .aload_n 0, 1), (38, .getfield 11, 3), (41, .arraylength, 1), (42, .if_icmp .ge 22, 3), (45, .aload_n 0, 1), (46, .getfield 11, 3), (49, .iload_n 1, 1), (50, .new 9, 3), (53, .dup, 1), (54, .invokespecial 31, 3), (57, .aastore, 1), (58, .iinc 1 1, 3), (61, .goto (-25), 3), (64, .return_, 1)]
def mX2_init : xM := (yX2_init, cX2_init, 2, none, 0, tX2_init)
theorem okX2_init : xmOk mX2_init := ⟨w135, ⟨by decide +kernel, by decide +kernel, by decide +kernel⟩, by decide, by decide +kernel, xfetch_of (by decide +kernel)⟩
def tX2_drop : List (Nat × Instr × Nat) := [(0, .aload_n 0, 1), (1, .iconst 0, 1), (2, .putfield 32, 3), (5, .return_, 1)]
def mX2_drop : xM := (yX2_drop, cX2_drop, 1, none, 0, tX2_drop)
theorem okX2_drop : xmOk mX2_drop := ⟨w338, ⟨by decide +kernel, by decide +kernel, by decide +kernel⟩, by decide, by decide +kernel, xfetch_of (by decide +kernel)⟩
def tX3_init : List (Nat × Instr × Nat) := [(0, .aload_n 0, 1), (1, .invokespecial 3, 3), (4, .aload_n 0, 1), (5, .bipush 17, 2), (7, .newarray .int, 2), (9, .putfield 11, 3), (12, .return_, 1)]
def mX3_init : xM := (yX3_init, cX3_init, 1, none, 0, tX3_init)
theorem okX3_init : xmOk mX3_init := ⟨w82, ⟨by decide +kernel, by decide +kernel, by decide +kernel⟩, by decide, by decide +kernel, xfetch_of (by decide +kernel)⟩
def tX3_faultIn : List (Nat × Instr × Nat) := [(0, .iconst 0, 1), (1, .istore_n 1, 1), (2, .iload_n 1, 1), (3, .aload_n 0, 1), (4, .invokevirtual 15, 3), (7, .if_icmp .ge 23, 3), (10, .iload_n 1, 1), (11, .aload_n 0, 1), (12, .iload_n 1, 1), (13, .invokevirtual 21, 3), (16, .invokestatic 25, 3), (19, .ifCond .ne 5, 3), (22, .iload_n 1, 1), (23, .ireturn, 1), (24, .iinc 1 1, 3), (27, .goto (-25), 3), (30, .aload_n 0, 1), (31, .invokevirtual 15, 3), (34, .ireturn, 1)]
def mX3_faultIn : xM := (yX3_faultIn, cX3_faultIn, 2, (some .int), 1, tX3_faultIn)
theorem okX3_faultIn : xmOk mX3_faultIn := ⟨w307, ⟨by decide +kernel, by decide +kernel, by decide +kernel⟩, by decide, by decide +kernel, xfetch_of (by decide +kernel)⟩
def tX3_mayStand : List (Nat × Instr × Nat) := [(0, .iload_n 0, 1), (1, .tableswitch 74 0 2 #[27, 43, 60], 27), (28, .iload_n 1, 1), (29, .iconst 0, 1), (30, .iconst 5, 1), (31, .invokestatic 29, 3), (34, .iconst (-1), 1), (35, .if_icmp .eq 7, 3), (38, .iconst 1, 1), (39, .goto 4, 3), (42, .iconst 0, 1), (43, .ireturn, 1), (44, .iload_n 1, 1), (45, .iconst 0, 1), (46, .bipush 9, 2), (48, .invokestatic 29, 3), (51, .iconst (-1), 1), (52, .if_icmp .eq 7, 3), (55, .iconst 1, 1), (56, .goto 4, 3), (59, .iconst 0, 1), (60, .ireturn, 1), (61, .iload_n 1, 1), (62, .invokestatic 33, 3), (65, .iconst (-1), 1), (66, .if_icmp .eq 7, 3), (69, .iconst 1, 1), (70, .goto 4, 3), (73, .iconst 0, 1), (74, .ireturn, 1), (75, .iload_n 0, 1), (76, .bipush 19, 2), (78, .if_icmp .ge 15, 3), (81, .iload_n 1, 1), (82, .invokestatic 36, 3), (85, .iconst (-1), 1), (86, .if_icmp .eq 7, 3), (89, .iconst 1, 1), (90, .goto 4, 3), (93, .iconst 0, 1), (94, .ireturn, 1)]
def mX3_mayStand : xM := (yX3_mayStand, cX3_mayStand, 2, (some .boolean), 2, tX3_mayStand)
theorem okX3_mayStand : xmOk mX3_mayStand := ⟨w312, ⟨by decide +kernel, by decide +kernel, by decide +kernel⟩, by decide, by decide +kernel, xfetch_of (by decide +kernel)⟩
def tX3_stepOf : List (Nat × Instr × Nat) := [(0, .iload_n 0, 1), (1, .bipush 46, 2), (3, .if_icmp .ne 6, 3), (6, .bipush 6, 2), (8, .ireturn, 1), (9, .iload_n 0, 1), (10, .bipush 116, 2), (12, .if_icmp .ne 8, 3), (15, .bipush 7, 2), (17, .goto 7, 3), (20, .iload_n 0, 1), (21, .invokestatic 33, 3), (24, .ireturn, 1)]
def mX3_stepOf : xM := (yX3_stepOf, cX3_stepOf, 1, (some .int), 1, tX3_stepOf)
theorem okX3_stepOf : xmOk mX3_stepOf := ⟨w317, ⟨by decide +kernel, by decide +kernel, by decide +kernel⟩, by decide, by decide +kernel, xfetch_of (by decide +kernel)⟩
def tX3_read : List (Nat × Instr × Nat) := [(0, .aload_n 0, 1), (1, .invokevirtual 39, 3), (4, .aload_n 1, 1), (5, .invokevirtual 15, 3), (8, .iconst 3, 1), (9, .if_icmp .lt 14, 3), (12, .aload_n 1, 1), (13, .invokestatic 42, 3), (16, .aload_n 1, 1), (17, .invokevirtual 15, 3), (20, .if_icmp .ge 5, 3), (23, .iconst 0, 1), (24, .ireturn, 1), (25, .bipush 10, 2), (27, .aload_n 1, 1), (28, .iconst 0, 1), (29, .invokevirtual 21, 3), (32, .iconst 0, 1), (33, .bipush 9, 2), (35, .invokestatic 29, 3), (38, .imul, 1), (39, .aload_n 1, 1), (40, .iconst 1, 1), (41, .invokevirtual 21, 3), (44, .iconst 0, 1), (45, .bipush 9, 2), (47, .invokestatic 29, 3), (50, .iadd, 1), (51, .istore 4, 2), (53, .aload_n 0, 1), (54, .iload 4, 2), (56, .aload_n 1, 1), (57, .iconst 2, 1), (58, .invokevirtual 21, 3), (61, .invokestatic 33, 3), (64, .invokestatic 46, 3), (67, .invokevirtual 50, 3), (70, .iconst 3, 1), (71, .istore 5, 2), (73, .iload 5, 2), (75, .aload_n 1, 1), (76, .invokevirtual 15, 3), (79, .if_icmp .ge 29, 3), (82, .aload_n 0, 1), (83, .aload_n 1, 1), (84, .iload 5, 2), (86, .invokevirtual 21, 3), (89, .invokestatic 36, 3), (92, .aload_n 2, 1), (93, .iload_n 3, 1), (94, .invokevirtual 54, 3), (97, .ifCond .ne 5, 3), (100, .iconst 0, 1), (101, .ireturn, 1), (102, .iinc 5 1, 3), (105, .goto (-32), 3), (108, .iconst 1, 1), (109, .ireturn, 1)]
def mX3_read : xM := (yX3_read, cX3_read, 6, (some .boolean), 3, tX3_read)
theorem okX3_read : xmOk mX3_read := ⟨w395, ⟨by decide +kernel, by decide +kernel, by decide +kernel⟩, by decide, by decide +kernel, xfetch_of (by decide +kernel)⟩
def tX3_takes : List (Nat × Instr × Nat) := [(0, .aload_n 0, 1), (1, .invokevirtual 58, 3), (4, .istore 4, 2), (6, .aload_n 2, 1), (7, .iload 4, 2), (9, .iload_n 1, 1), (10, .iload_n 3, 1), (11, .invokevirtual 61, 3), (14, .istore 5, 2), (16, .iload 5, 2), (18, .iconst (-1), 1), (19, .if_icmp .ne 5, 3), (22, .iconst 0, 1), (23, .ireturn, 1), (24, .iload_n 1, 1), (25, .bipush 7, 2), (27, .if_icmp .ne 16, 3), (30, .aload_n 0, 1), (31, .dup, 1), (32, .getfield 66, 3), (35, .iconst 1, 1), (36, .iadd, 1), (37, .putfield 66, 3), (40, .goto 30, 3), (43, .iload_n 1, 1), (44, .bipush 6, 2), (46, .if_icmp .eq 24, 3), (49, .aload_n 0, 1), (50, .dup, 1), (51, .getfield 70, 3), (54, .iconst 1, 1), (55, .aload_n 2, 1), (56, .iload 4, 2), (58, .invokestatic 73, 3), (61, .iload_n 1, 1), (62, .invokevirtual 76, 3), (65, .ishl, 1), (66, .ior, 1), (67, .putfield 70, 3), (70, .aload_n 0, 1), (71, .iload 5, 2), (73, .invokevirtual 50, 3), (76, .iconst 1, 1), (77, .ireturn, 1)]
def mX3_takes : xM := (yX3_takes, cX3_takes, 6, (some .boolean), 3, tX3_takes)
theorem okX3_takes : xmOk mX3_takes := ⟨w408, ⟨by decide +kernel, by decide +kernel, by decide +kernel⟩, by decide, by decide +kernel, xfetch_of (by decide +kernel)⟩
def tX3_add : List (Nat × Instr × Nat) := [(0, .aload_n 0, 1), (1, .getfield 79, 3), (4, .ifCond .lt 35, 3), (7, .aload_n 0, 1), (8, .getfield 79, 3), (11, .aload_n 0, 1), (12, .getfield 11, 3), (15, .arraylength, 1), (16, .if_icmp .ge 23, 3), (19, .aload_n 0, 1), (20, .getfield 11, 3), (23, .aload_n 0, 1), (24, .getfield 79, 3), (27, .iload_n 1, 1), (28, .iastore, 1), (29, .aload_n 0, 1), (30, .dup, 1), (31, .getfield 79, 3), (34, .iconst 1, 1), (35, .iadd, 1), (36, .putfield 79, 3), (39, .return_, 1)]
def mX3_add : xM := (yX3_add, cX3_add, 2, none, 1, tX3_add)
theorem okX3_add : xmOk mX3_add := ⟨w404, ⟨by decide +kernel, by decide +kernel, by decide +kernel⟩, by decide, by decide +kernel, xfetch_of (by decide +kernel)⟩
def tX3_clear : List (Nat × Instr × Nat) := [(0, .aload_n 0, 1), (1, .iconst 0, 1), (2, .putfield 79, 3), (5, .aload_n 0, 1), (6, .iconst 0, 1), (7, .putfield 66, 3), (10, .aload_n 0, 1), (11, .iconst 0, 1), (12, .putfield 70, 3), (15, .return_, 1)]
def mX3_clear : xM := (yX3_clear, cX3_clear, 1, none, 0, tX3_clear)
theorem okX3_clear : xmOk mX3_clear := ⟨w376, ⟨by decide +kernel, by decide +kernel, by decide +kernel⟩, by decide, by decide +kernel, xfetch_of (by decide +kernel)⟩
def tX3_copyFrom : List (Nat × Instr × Nat) := [(0, .aload_n 0, 1), (1, .invokevirtual 39, 3), (4, .iconst 0, 1), (5, .istore_n 2, 1), (6, .iload_n 2, 1), (7, .aload_n 1, 1), (8, .getfield 79, 3), (11, .if_icmp .ge 18, 3), (14, .aload_n 0, 1), (15, .aload_n 1, 1), (16, .iload_n 2, 1), (17, .invokevirtual 82, 3), (20, .invokevirtual 50, 3), (23, .iinc 2 1, 3), (26, .goto (-20), 3), (29, .aload_n 0, 1), (30, .aload_n 1, 1), (31, .getfield 66, 3), (34, .putfield 66, 3), (37, .aload_n 0, 1), (38, .aload_n 1, 1), (39, .getfield 70, 3), (42, .putfield 70, 3), (45, .return_, 1)]
def mX3_copyFrom : xM := (yX3_copyFrom, cX3_copyFrom, 3, none, 1, tX3_copyFrom)
theorem okX3_copyFrom : xmOk mX3_copyFrom := ⟨w440, ⟨by decide +kernel, by decide +kernel, by decide +kernel⟩, by decide, by decide +kernel, xfetch_of (by decide +kernel)⟩
def tX3_selves : List (Nat × Instr × Nat) := [(0, .aload_n 0, 1), (1, .getfield 79, 3), (4, .ireturn, 1)]
def mX3_selves : xM := (yX3_selves, cX3_selves, 1, (some .int), 0, tX3_selves)
theorem okX3_selves : xmOk mX3_selves := ⟨w444, ⟨by decide +kernel, by decide +kernel, by decide +kernel⟩, by decide, by decide +kernel, xfetch_of (by decide +kernel)⟩
def tX3_throughs : List (Nat × Instr × Nat) := [(0, .aload_n 0, 1), (1, .getfield 66, 3), (4, .ireturn, 1)]
def mX3_throughs : xM := (yX3_throughs, cX3_throughs, 1, (some .int), 0, tX3_throughs)
theorem okX3_throughs : xmOk mX3_throughs := ⟨w453, ⟨by decide +kernel, by decide +kernel, by decide +kernel⟩, by decide, by decide +kernel, xfetch_of (by decide +kernel)⟩
def tX3_usesDoor : List (Nat × Instr × Nat) := [(0, .aload_n 0, 1), (1, .getfield 70, 3), (4, .iload_n 1, 1), (5, .ishr, 1), (6, .iconst 1, 1), (7, .iand, 1), (8, .ifCond .eq 7, 3), (11, .iconst 1, 1), (12, .goto 4, 3), (15, .iconst 0, 1), (16, .ireturn, 1)]
def mX3_usesDoor : xM := (yX3_usesDoor, cX3_usesDoor, 2, (some .boolean), 1, tX3_usesDoor)
theorem okX3_usesDoor : xmOk mX3_usesDoor := ⟨w700, ⟨by decide +kernel, by decide +kernel, by decide +kernel⟩, by decide, by decide +kernel, xfetch_of (by decide +kernel)⟩
def tX3_spotAt : List (Nat × Instr × Nat) := [(0, .iload_n 1, 1), (1, .ifCond .lt 29, 3), (4, .iload_n 1, 1), (5, .aload_n 0, 1), (6, .getfield 79, 3), (9, .if_icmp .ge 21, 3), (12, .iload_n 1, 1), (13, .aload_n 0, 1), (14, .getfield 11, 3), (17, .arraylength, 1), (18, .if_icmp .ge 12, 3), (21, .aload_n 0, 1), (22, .getfield 11, 3), (25, .iload_n 1, 1), (26, .iaload, 1), (27, .goto 4, 3), (30, .iconst (-1), 1), (31, .ireturn, 1)]
def mX3_spotAt : xM := (yX3_spotAt, cX3_spotAt, 2, (some .int), 1, tX3_spotAt)
theorem okX3_spotAt : xmOk mX3_spotAt := ⟨w416, ⟨by decide +kernel, by decide +kernel, by decide +kernel⟩, by decide, by decide +kernel, xfetch_of (by decide +kernel)⟩
def tX3_lastSpot : List (Nat × Instr × Nat) := [(0, .aload_n 0, 1), (1, .aload_n 0, 1), (2, .getfield 79, 3), (5, .iconst 1, 1), (6, .isub, 1), (7, .invokevirtual 82, 3), (10, .ireturn, 1)]
def mX3_lastSpot : xM := (yX3_lastSpot, cX3_lastSpot, 1, (some .int), 0, tX3_lastSpot)
theorem okX3_lastSpot : xmOk mX3_lastSpot := ⟨w412, ⟨by decide +kernel, by decide +kernel, by decide +kernel⟩, by decide, by decide +kernel, xfetch_of (by decide +kernel)⟩
def tX3_selvesAt : List (Nat × Instr × Nat) := [(0, .iconst 0, 1), (1, .istore_n 2, 1), (2, .iconst 0, 1), (3, .istore_n 3, 1), (4, .iload_n 3, 1), (5, .aload_n 0, 1), (6, .getfield 79, 3), (9, .if_icmp .ge 26, 3), (12, .iload_n 2, 1), (13, .aload_n 0, 1), (14, .iload_n 3, 1), (15, .invokevirtual 82, 3), (18, .iload_n 1, 1), (19, .if_icmp .ne 7, 3), (22, .iconst 1, 1), (23, .goto 4, 3), (26, .iconst 0, 1), (27, .iadd, 1), (28, .istore_n 2, 1), (29, .iinc 3 1, 3), (32, .goto (-28), 3), (35, .iload_n 2, 1), (36, .ireturn, 1)]
def mX3_selvesAt : xM := (yX3_selvesAt, cX3_selvesAt, 4, (some .int), 1, tX3_selvesAt)
theorem okX3_selvesAt : xmOk mX3_selvesAt := ⟨w475, ⟨by decide +kernel, by decide +kernel, by decide +kernel⟩, by decide, by decide +kernel, xfetch_of (by decide +kernel)⟩
def tX3_selvesIn : List (Nat × Instr × Nat) := [(0, .iconst 0, 1), (1, .istore_n 2, 1), (2, .iconst 0, 1), (3, .istore_n 3, 1), (4, .iload_n 3, 1), (5, .aload_n 0, 1), (6, .getfield 79, 3), (9, .if_icmp .ge 29, 3), (12, .iload_n 2, 1), (13, .aload_n 0, 1), (14, .iload_n 3, 1), (15, .invokevirtual 82, 3), (18, .invokestatic 85, 3), (21, .iload_n 1, 1), (22, .if_icmp .ne 7, 3), (25, .iconst 1, 1), (26, .goto 4, 3), (29, .iconst 0, 1), (30, .iadd, 1), (31, .istore_n 2, 1), (32, .iinc 3 1, 3), (35, .goto (-31), 3), (38, .iload_n 2, 1), (39, .ireturn, 1)]
def mX3_selvesIn : xM := (yX3_selvesIn, cX3_selvesIn, 4, (some .int), 1, tX3_selvesIn)
theorem okX3_selvesIn : xmOk mX3_selvesIn := ⟨w508, ⟨by decide +kernel, by decide +kernel, by decide +kernel⟩, by decide, by decide +kernel, xfetch_of (by decide +kernel)⟩
def tX3_fullestMinute : List (Nat × Instr × Nat) := [(0, .iconst (-1), 1), (1, .istore_n 1, 1), (2, .iconst 0, 1), (3, .istore_n 2, 1), (4, .iconst 0, 1), (5, .istore_n 3, 1), (6, .iload_n 3, 1), (7, .aload_n 0, 1), (8, .getfield 79, 3), (11, .if_icmp .ge 51, 3), (14, .aload_n 0, 1), (15, .iload_n 3, 1), (16, .invokevirtual 82, 3), (19, .invokestatic 85, 3), (22, .istore 4, 2), (24, .aload_n 0, 1), (25, .iload 4, 2), (27, .invokevirtual 88, 3), (30, .istore 5, 2), (32, .iload 5, 2), (34, .iload_n 2, 1), (35, .if_icmp .gt 15, 3), (38, .iload 5, 2), (40, .iload_n 2, 1), (41, .if_icmp .ne 15, 3), (44, .iload 4, 2), (46, .iload_n 1, 1), (47, .if_icmp .ge 9, 3), (50, .iload 4, 2), (52, .istore_n 1, 1), (53, .iload 5, 2), (55, .istore_n 2, 1), (56, .iinc 3 1, 3), (59, .goto (-53), 3), (62, .iload_n 1, 1), (63, .ireturn, 1)]
def mX3_fullestMinute : xM := (yX3_fullestMinute, cX3_fullestMinute, 6, (some .int), 0, tX3_fullestMinute)
theorem okX3_fullestMinute : xmOk mX3_fullestMinute := ⟨w503, ⟨by decide +kernel, by decide +kernel, by decide +kernel⟩, by decide, by decide +kernel, xfetch_of (by decide +kernel)⟩
def tX3_firstMinuteWith : List (Nat × Instr × Nat) := [(0, .iconst (-1), 1), (1, .istore_n 2, 1), (2, .iconst 0, 1), (3, .istore_n 3, 1), (4, .iload_n 3, 1), (5, .aload_n 0, 1), (6, .getfield 79, 3), (9, .if_icmp .ge 45, 3), (12, .aload_n 0, 1), (13, .iload_n 3, 1), (14, .invokevirtual 82, 3), (17, .invokestatic 85, 3), (20, .istore 4, 2), (22, .iload_n 2, 1), (23, .iconst (-1), 1), (24, .if_icmp .eq 9, 3), (27, .iload 4, 2), (29, .iload_n 2, 1), (30, .if_icmp .ge 18, 3), (33, .aload_n 1, 1), (34, .aload_n 0, 1), (35, .iload_n 3, 1), (36, .invokevirtual 82, 3), (39, .invokevirtual 91, 3), (42, .ifCond .le 6, 3), (45, .iload 4, 2), (47, .istore_n 2, 1), (48, .iinc 3 1, 3), (51, .goto (-47), 3), (54, .iload_n 2, 1), (55, .ireturn, 1)]
def mX3_firstMinuteWith : xM := (yX3_firstMinuteWith, cX3_firstMinuteWith, 5, (some .int), 1, tX3_firstMinuteWith)
theorem okX3_firstMinuteWith : xmOk mX3_firstMinuteWith := ⟨w687, ⟨by decide +kernel, by decide +kernel, by decide +kernel⟩, by decide, by decide +kernel, xfetch_of (by decide +kernel)⟩
def tX4_init : List (Nat × Instr × Nat) := [(0, .aload_n 0, 1), (1, .invokespecial 3, 3), (4, .aload_n 0, 1), (5, .bipush 45, 2), (7, .newarray .int, 2), (9, .putfield 9, 3), (12, .return_, 1)]
def mX4_init : xM := (yX4_init, cX4_init, 1, none, 0, tX4_init)
theorem okX4_init : xmOk mX4_init := ⟨w37, ⟨by decide +kernel, by decide +kernel, by decide +kernel⟩, by decide, by decide +kernel, xfetch_of (by decide +kernel)⟩
def tX4_lettersIn : List (Nat × Instr × Nat) := [(0, .iconst 0, 1), (1, .istore_n 2, 1), (2, .iconst 0, 1), (3, .istore_n 3, 1), (4, .iconst 0, 1), (5, .istore 4, 2), (7, .iload 4, 2), (9, .bipush 8, 2), (11, .if_icmp .ge 58, 3), (14, .lload_n 0, 1), (15, .iload 4, 2), (17, .invokestatic 15, 3), (20, .istore 5, 2), (22, .iload 5, 2), (24, .bipush 126, 2), (26, .if_icmp .gt 12, 3), (29, .iload_n 3, 1), (30, .ifCond .eq 10, 3), (33, .iload 5, 2), (35, .ifCond .eq 5, 3), (38, .iconst (-1), 1), (39, .ireturn, 1), (40, .iload 5, 2), (42, .ifCond .ne 7, 3), (45, .iconst 1, 1), (46, .goto 4, 3), (49, .iconst 0, 1), (50, .istore_n 3, 1), (51, .iload_n 2, 1), (52, .iload_n 3, 1), (53, .ifCond .eq 7, 3), (56, .iconst 0, 1), (57, .goto 4, 3), (60, .iconst 1, 1), (61, .iadd, 1), (62, .istore_n 2, 1), (63, .iinc 4 1, 3), (66, .goto (-59), 3), (69, .iload_n 2, 1), (70, .ireturn, 1)]
def mX4_lettersIn : xM := (yX4_lettersIn, cX4_lettersIn, 6, (some .int), 1, tX4_lettersIn)
theorem okX4_lettersIn : xmOk mX4_lettersIn := ⟨w620, ⟨by decide +kernel, by decide +kernel, by decide +kernel⟩, by decide, by decide +kernel, xfetch_of (by decide +kernel)⟩
def tX4_byteOf : List (Nat × Instr × Nat) := [(0, .lload_n 0, 1), (1, .bipush 8, 2), (3, .iload_n 2, 1), (4, .imul, 1), (5, .lushr, 1), (6, .ldc2_w 19, 3), (9, .land, 1), (10, .l2i, 1), (11, .ireturn, 1)]
def mX4_byteOf : xM := (yX4_byteOf, cX4_byteOf, 3, (some .int), 2, tX4_byteOf)
theorem okX4_byteOf : xmOk mX4_byteOf := ⟨w623, ⟨by decide +kernel, by decide +kernel, by decide +kernel⟩, by decide, by decide +kernel, xfetch_of (by decide +kernel)⟩
def tX4_addAll : List (Nat × Instr × Nat) := [(0, .iconst 0, 1), (1, .istore_n 3, 1), (2, .iload_n 3, 1), (3, .bipush 8, 2), (5, .if_icmp .ge 61, 3), (8, .lload_n 1, 1), (9, .iload_n 3, 1), (10, .invokestatic 15, 3), (13, .istore 4, 2), (15, .iload 4, 2), (17, .ifCond .eq 43, 3), (20, .aload_n 0, 1), (21, .getfield 21, 3), (24, .ifCond .lt 36, 3), (27, .aload_n 0, 1), (28, .getfield 21, 3), (31, .aload_n 0, 1), (32, .getfield 9, 3), (35, .arraylength, 1), (36, .if_icmp .ge 24, 3), (39, .aload_n 0, 1), (40, .getfield 9, 3), (43, .aload_n 0, 1), (44, .getfield 21, 3), (47, .iload 4, 2), (49, .iastore, 1), (50, .aload_n 0, 1), (51, .dup, 1), (52, .getfield 21, 3), (55, .iconst 1, 1), (56, .iadd, 1), (57, .putfield 21, 3), (60, .iinc 3 1, 3), (63, .goto (-61), 3), (66, .return_, 1)]
def mX4_addAll : xM := (yX4_addAll, cX4_addAll, 5, none, 1, tX4_addAll)
theorem okX4_addAll : xmOk mX4_addAll := ⟨w628, ⟨by decide +kernel, by decide +kernel, by decide +kernel⟩, by decide, by decide +kernel, xfetch_of (by decide +kernel)⟩
def tX4_length : List (Nat × Instr × Nat) := [(0, .aload_n 0, 1), (1, .getfield 21, 3), (4, .ireturn, 1)]
def mX4_length : xM := (yX4_length, cX4_length, 1, (some .int), 0, tX4_length)
theorem okX4_length : xmOk mX4_length := ⟨w266, ⟨by decide +kernel, by decide +kernel, by decide +kernel⟩, by decide, by decide +kernel, xfetch_of (by decide +kernel)⟩
def tX4_at : List (Nat × Instr × Nat) := [(0, .iload_n 1, 1), (1, .ifCond .lt 29, 3), (4, .iload_n 1, 1), (5, .aload_n 0, 1), (6, .getfield 21, 3), (9, .if_icmp .ge 21, 3), (12, .iload_n 1, 1), (13, .aload_n 0, 1), (14, .getfield 9, 3), (17, .arraylength, 1), (18, .if_icmp .ge 12, 3), (21, .aload_n 0, 1), (22, .getfield 9, 3), (25, .iload_n 1, 1), (26, .iaload, 1), (27, .goto 4, 3), (30, .iconst 0, 1), (31, .ireturn, 1)]
def mX4_at : xM := (yX4_at, cX4_at, 2, (some .int), 1, tX4_at)
theorem okX4_at : xmOk mX4_at := ⟨w270, ⟨by decide +kernel, by decide +kernel, by decide +kernel⟩, by decide, by decide +kernel, xfetch_of (by decide +kernel)⟩
def tX4_clear : List (Nat × Instr × Nat) := [(0, .aload_n 0, 1), (1, .iconst 0, 1), (2, .putfield 21, 3), (5, .return_, 1)]
def mX4_clear : xM := (yX4_clear, cX4_clear, 1, none, 0, tX4_clear)
theorem okX4_clear : xmOk mX4_clear := ⟨w342, ⟨by decide +kernel, by decide +kernel, by decide +kernel⟩, by decide, by decide +kernel, xfetch_of (by decide +kernel)⟩
def tX5_init : List (Nat × Instr × Nat) := [(0, .aload_n 0, 1), (1, .invokespecial 3, 3), (4, .aload_n 0, 1), (5, .new 9, 3), (8, .dup, 1), (9, .invokespecial 11, 3), (12, .putfield 12, 3), (15, .return_, 1)]
def mX5_init : xM := (yX5_init, cX5_init, 1, none, 0, tX5_init)
theorem okX5_init : xmOk mX5_init := ⟨w145, ⟨by decide +kernel, by decide +kernel, by decide +kernel⟩, by decide, by decide +kernel, xfetch_of (by decide +kernel)⟩
def tX5_begin : List (Nat × Instr × Nat) := [(0, .aload_n 0, 1), (1, .iload_n 1, 1), (2, .putfield 18, 3), (5, .aload_n 0, 1), (6, .getfield 12, 3), (9, .invokevirtual 22, 3), (12, .return_, 1)]
def mX5_begin : xM := (yX5_begin, cX5_begin, 2, none, 1, tX5_begin)
theorem okX5_begin : xmOk mX5_begin := ⟨w372, ⟨by decide +kernel, by decide +kernel, by decide +kernel⟩, by decide, by decide +kernel, xfetch_of (by decide +kernel)⟩
def tX5_kind : List (Nat × Instr × Nat) := [(0, .aload_n 0, 1), (1, .getfield 18, 3), (4, .ireturn, 1)]
def mX5_kind : xM := (yX5_kind, cX5_kind, 1, (some .int), 0, tX5_kind)
theorem okX5_kind : xmOk mX5_kind := ⟨w384, ⟨by decide +kernel, by decide +kernel, by decide +kernel⟩, by decide, by decide +kernel, xfetch_of (by decide +kernel)⟩
def tX5_lived : List (Nat × Instr × Nat) := [(0, .aload_n 0, 1), (1, .getfield 12, 3), (4, .areturn, 1)]
def mX5_lived : xM := (yX5_lived, cX5_lived, 1, (some (.object "HourAgo$Life")), 0, tX5_lived)
theorem okX5_lived : xmOk mX5_lived := ⟨w436, ⟨by decide +kernel, by decide +kernel, by decide +kernel⟩, by decide, by decide +kernel, xfetch_of (by decide +kernel)⟩
def tX5_firstMeeting : List (Nat × Instr × Nat) := [(0, .iconst (-1), 1), (1, .istore_n 2, 1), (2, .iconst 0, 1), (3, .istore_n 3, 1), (4, .iload_n 3, 1), (5, .aload_n 0, 1), (6, .getfield 12, 3), (9, .invokevirtual 25, 3), (12, .if_icmp .ge 45, 3), (15, .aload_n 0, 1), (16, .getfield 12, 3), (19, .iload_n 3, 1), (20, .invokevirtual 29, 3), (23, .invokestatic 33, 3), (26, .istore 4, 2), (28, .iload_n 2, 1), (29, .iconst (-1), 1), (30, .if_icmp .eq 9, 3), (33, .iload 4, 2), (35, .iload_n 2, 1), (36, .if_icmp .ge 15, 3), (39, .aload_n 0, 1), (40, .aload_n 1, 1), (41, .iload_n 3, 1), (42, .invokevirtual 36, 3), (45, .ifCond .eq 6, 3), (48, .iload 4, 2), (50, .istore_n 2, 1), (51, .iinc 3 1, 3), (54, .goto (-50), 3), (57, .iload_n 2, 1), (58, .ireturn, 1)]
def mX5_firstMeeting : xM := (yX5_firstMeeting, cX5_firstMeeting, 5, (some .int), 1, tX5_firstMeeting)
theorem okX5_firstMeeting : xmOk mX5_firstMeeting := ⟨w483, ⟨by decide +kernel, by decide +kernel, by decide +kernel⟩, by decide, by decide +kernel, xfetch_of (by decide +kernel)⟩
def tX5_isMetBySelf : List (Nat × Instr × Nat) := [(0, .aload_n 0, 1), (1, .getfield 12, 3), (4, .iload_n 2, 1), (5, .invokevirtual 29, 3), (8, .istore_n 3, 1), (9, .aload_n 1, 1), (10, .aload_n 0, 1), (11, .getfield 18, 3), (14, .iload_n 3, 1), (15, .invokestatic 40, 3), (18, .invokevirtual 43, 3), (21, .istore 4, 2), (23, .iconst 0, 1), (24, .istore 5, 2), (26, .iload 5, 2), (28, .aload_n 0, 1), (29, .getfield 12, 3), (32, .invokevirtual 25, 3), (35, .if_icmp .ge 53, 3), (38, .aload_n 0, 1), (39, .getfield 12, 3), (42, .iload 5, 2), (44, .invokevirtual 29, 3), (47, .istore 6, 2), (49, .iload 5, 2), (51, .iload_n 2, 1), (52, .if_icmp .eq 30, 3), (55, .iload 6, 2), (57, .invokestatic 33, 3), (60, .iload_n 3, 1), (61, .invokestatic 33, 3), (64, .if_icmp .ne 18, 3), (67, .iload 4, 2), (69, .iload 6, 2), (71, .invokestatic 40, 3), (74, .ishr, 1), (75, .iconst 1, 1), (76, .iand, 1), (77, .ifCond .eq 5, 3), (80, .iconst 1, 1), (81, .ireturn, 1), (82, .iinc 5 1, 3), (85, .goto (-59), 3), (88, .iconst 0, 1), (89, .ireturn, 1)]
def mX5_isMetBySelf : xM := (yX5_isMetBySelf, cX5_isMetBySelf, 7, (some .boolean), 2, tX5_isMetBySelf)
theorem okX5_isMetBySelf : xmOk mX5_isMetBySelf := ⟨w490, ⟨by decide +kernel, by decide +kernel, by decide +kernel⟩, by decide, by decide +kernel, xfetch_of (by decide +kernel)⟩
def tX6_init : List (Nat × Instr × Nat) := [(0, .aload_n 0, 1), (1, .invokespecial 3, 3), (4, .aload_n 0, 1), (5, .sipush 2520, 3), (8, .newarray .int, 2), (10, .putfield 11, 3), (13, .aload_n 0, 1), (14, .bipush 60, 2), (16, .newarray .int, 2), (18, .putfield 15, 3), (21, .return_, 1)]
def mX6_init : xM := (yX6_init, cX6_init, 1, none, 0, tX6_init)
theorem okX6_init : xmOk mX6_init := ⟨w175, ⟨by decide +kernel, by decide +kernel, by decide +kernel⟩, by decide, by decide +kernel, xfetch_of (by decide +kernel)⟩
def tX7_init : List (Nat × Instr × Nat) := [(0, .aload_n 0, 1), (1, .invokespecial 3, 3), (4, .aload_n 0, 1), (5, .iconst 5, 1), (6, .newarray .int, 2), (8, .putfield 9, 3), (11, .aload_n 0, 1), (12, .iconst 5, 1), (13, .newarray .int, 2), (15, .putfield 15, 3), (18, .aload_n 0, 1), (19, .iconst 5, 1), (20, .newarray .int, 2), (22, .putfield 18, 3), (25, .return_, 1)]
def mX7_init : xM := (yX7_init, cX7_init, 1, none, 0, tX7_init)
theorem okX7_init : xmOk mX7_init := ⟨w103, ⟨by decide +kernel, by decide +kernel, by decide +kernel⟩, by decide, by decide +kernel, xfetch_of (by decide +kernel)⟩
def tX7_size : List (Nat × Instr × Nat) := [(0, .aload_n 0, 1), (1, .getfield 21, 3), (4, .ireturn, 1)]
def mX7_size : xM := (yX7_size, cX7_size, 1, (some .int), 0, tX7_size)
theorem okX7_size : xmOk mX7_size := ⟨w588, ⟨by decide +kernel, by decide +kernel, by decide +kernel⟩, by decide, by decide +kernel, xfetch_of (by decide +kernel)⟩
def tX7_clear : List (Nat × Instr × Nat) := [(0, .aload_n 0, 1), (1, .iconst 0, 1), (2, .putfield 21, 3), (5, .return_, 1)]
def mX7_clear : xM := (yX7_clear, cX7_clear, 1, none, 0, tX7_clear)
theorem okX7_clear : xmOk mX7_clear := ⟨w330, ⟨by decide +kernel, by decide +kernel, by decide +kernel⟩, by decide, by decide +kernel, xfetch_of (by decide +kernel)⟩
def tX7_add : List (Nat × Instr × Nat) := [(0, .aload_n 0, 1), (1, .getfield 21, 3), (4, .istore 4, 2), (6, .iload 4, 2), (8, .ifCond .lt 9, 3), (11, .iload 4, 2), (13, .iconst 5, 1), (14, .if_icmp .lt 6, 3), (17, .bipush (-104), 2), (19, .ireturn, 1), (20, .aload_n 0, 1), (21, .getfield 9, 3), (24, .iload 4, 2), (26, .iload_n 1, 1), (27, .iastore, 1), (28, .aload_n 0, 1), (29, .getfield 15, 3), (32, .iload 4, 2), (34, .iload_n 2, 1), (35, .iastore, 1), (36, .aload_n 0, 1), (37, .getfield 18, 3), (40, .iload 4, 2), (42, .iload_n 3, 1), (43, .iastore, 1), (44, .aload_n 0, 1), (45, .dup, 1), (46, .getfield 21, 3), (49, .iconst 1, 1), (50, .iadd, 1), (51, .putfield 21, 3), (54, .iload 4, 2), (56, .ireturn, 1)]
def mX7_add : xM := (yX7_add, cX7_add, 5, (some .int), 3, tX7_add)
theorem okX7_add : xmOk mX7_add := ⟨w517, ⟨by decide +kernel, by decide +kernel, by decide +kernel⟩, by decide, by decide +kernel, xfetch_of (by decide +kernel)⟩
def tX7_doneAt : List (Nat × Instr × Nat) := [(0, .iload_n 1, 1), (1, .invokestatic 32, 3), (4, .istore_n 2, 1), (5, .iload_n 1, 1), (6, .invokestatic 36, 3), (9, .istore_n 3, 1), (10, .iconst 0, 1), (11, .istore 4, 2), (13, .iconst 0, 1), (14, .istore 5, 2), (16, .iload 5, 2), (18, .aload_n 0, 1), (19, .getfield 21, 3), (22, .if_icmp .ge 57, 3), (25, .iload 5, 2), (27, .iconst 5, 1), (28, .if_icmp .ge 51, 3), (31, .aload_n 0, 1), (32, .getfield 9, 3), (35, .iload 5, 2), (37, .iaload, 1), (38, .iload_n 3, 1), (39, .if_icmp .ne 34, 3), (42, .aload_n 0, 1), (43, .getfield 15, 3), (46, .iload 5, 2), (48, .iaload, 1), (49, .iload_n 2, 1), (50, .if_icmp .gt 23, 3), (53, .iload_n 2, 1), (54, .aload_n 0, 1), (55, .getfield 18, 3), (58, .iload 5, 2), (60, .iaload, 1), (61, .if_icmp .gt 12, 3), (64, .iload 4, 2), (66, .iconst 1, 1), (67, .iload 5, 2), (69, .ishl, 1), (70, .ior, 1), (71, .istore 4, 2), (73, .iinc 5 1, 3), (76, .goto (-60), 3), (79, .iload 4, 2), (81, .ireturn, 1)]
def mX7_doneAt : xM := (yX7_doneAt, cX7_doneAt, 6, (some .int), 1, tX7_doneAt)
theorem okX7_doneAt : xmOk mX7_doneAt := ⟨w531, ⟨by decide +kernel, by decide +kernel, by decide +kernel⟩, by decide, by decide +kernel, xfetch_of (by decide +kernel)⟩
def tX7_doneBy : List (Nat × Instr × Nat) := [(0, .iconst 0, 1), (1, .istore_n 2, 1), (2, .iconst 0, 1), (3, .istore_n 3, 1), (4, .iload_n 3, 1), (5, .aload_n 1, 1), (6, .invokevirtual 39, 3), (9, .if_icmp .ge 21, 3), (12, .iload_n 2, 1), (13, .aload_n 0, 1), (14, .aload_n 1, 1), (15, .iload_n 3, 1), (16, .invokevirtual 45, 3), (19, .invokevirtual 48, 3), (22, .ior, 1), (23, .istore_n 2, 1), (24, .iinc 3 1, 3), (27, .goto (-23), 3), (30, .iload_n 2, 1), (31, .ireturn, 1)]
def mX7_doneBy : xM := (yX7_doneBy, cX7_doneBy, 4, (some .int), 1, tX7_doneBy)
theorem okX7_doneBy : xmOk mX7_doneBy := ⟨w525, ⟨by decide +kernel, by decide +kernel, by decide +kernel⟩, by decide, by decide +kernel, xfetch_of (by decide +kernel)⟩
def tX8_init : List (Nat × Instr × Nat) := [(0, .aload_n 0, 1), (1, .invokespecial 3, 3), (4, .return_, 1)]
def mX8_init : xM := (yX8_init, cX8_init, 1, none, 0, tX8_init)
theorem okX8_init : xmOk mX8_init := ⟨w198, ⟨by decide +kernel, by decide +kernel, by decide +kernel⟩, by decide, by decide +kernel, xfetch_of (by decide +kernel)⟩
def tX8_begin : List (Nat × Instr × Nat) := [(0, .aload_n 0, 1), (1, .iload_n 1, 1), (2, .putfield 9, 3), (5, .aload_n 0, 1), (6, .iconst 0, 1), (7, .putfield 15, 3), (10, .aload_n 0, 1), (11, .iload_n 2, 1), (12, .putfield 18, 3), (15, .return_, 1)]
def mX8_begin : xM := (yX8_begin, cX8_begin, 3, none, 2, tX8_begin)
theorem okX8_begin : xmOk mX8_begin := ⟨w549, ⟨by decide +kernel, by decide +kernel, by decide +kernel⟩, by decide, by decide +kernel, xfetch_of (by decide +kernel)⟩
def tX8_go : List (Nat × Instr × Nat) := [(0, .iconst 0, 1), (1, .istore 4, 2), (3, .iload 4, 2), (5, .iload_n 3, 1), (6, .if_icmp .ge 36, 3), (9, .aload_n 0, 1), (10, .aload_n 1, 1), (11, .iload_n 2, 1), (12, .invokevirtual 21, 3), (15, .istore 5, 2), (17, .iload 5, 2), (19, .iconst 1, 1), (20, .if_icmp .ge 4, 3), (23, .return_, 1), (24, .aload_n 0, 1), (25, .aload_n 1, 1), (26, .iload_n 2, 1), (27, .aload_n 0, 1), (28, .iload 5, 2), (30, .invokevirtual 25, 3), (33, .invokevirtual 29, 3), (36, .iinc 4 1, 3), (39, .goto (-36), 3), (42, .return_, 1)]
def mX8_go : xM := (yX8_go, cX8_go, 6, none, 3, tX8_go)
theorem okX8_go : xmOk mX8_go := ⟨w553, ⟨by decide +kernel, by decide +kernel, by decide +kernel⟩, by decide, by decide +kernel, xfetch_of (by decide +kernel)⟩
def tX8_tell : List (Nat × Instr × Nat) := [(0, .iload_n 1, 1), (1, .tableswitch 48 0 2 #[27, 35, 43], 27), (28, .aload_n 0, 1), (29, .getfield 9, 3), (32, .invokestatic 33, 3), (35, .ireturn, 1), (36, .aload_n 0, 1), (37, .getfield 9, 3), (40, .invokestatic 36, 3), (43, .ireturn, 1), (44, .aload_n 0, 1), (45, .getfield 15, 3), (48, .ireturn, 1), (49, .aload_n 0, 1), (50, .getfield 18, 3), (53, .ireturn, 1)]
def mX8_tell : xM := (yX8_tell, cX8_tell, 2, (some .int), 1, tX8_tell)
theorem okX8_tell : xmOk mX8_tell := ⟨w574, ⟨by decide +kernel, by decide +kernel, by decide +kernel⟩, by decide, by decide +kernel, xfetch_of (by decide +kernel)⟩
def tX8_waysOn : List (Nat × Instr × Nat) := [(0, .iconst 0, 1), (1, .istore_n 3, 1), (2, .iconst 0, 1), (3, .istore 4, 2), (5, .iload 4, 2), (7, .bipush 8, 2), (9, .if_icmp .ge 32, 3), (12, .iload_n 3, 1), (13, .aload_n 1, 1), (14, .aload_n 0, 1), (15, .getfield 9, 3), (18, .iload 4, 2), (20, .iload_n 2, 1), (21, .invokevirtual 39, 3), (24, .iconst (-1), 1), (25, .if_icmp .ne 7, 3), (28, .iconst 0, 1), (29, .goto 4, 3), (32, .iconst 1, 1), (33, .iadd, 1), (34, .istore_n 3, 1), (35, .iinc 4 1, 3), (38, .goto (-33), 3), (41, .iload_n 3, 1), (42, .ireturn, 1)]
def mX8_waysOn : xM := (yX8_waysOn, cX8_waysOn, 5, (some .int), 2, tX8_waysOn)
theorem okX8_waysOn : xmOk mX8_waysOn := ⟨w557, ⟨by decide +kernel, by decide +kernel, by decide +kernel⟩, by decide, by decide +kernel, xfetch_of (by decide +kernel)⟩
def tX8_take : List (Nat × Instr × Nat) := [(0, .iload_n 3, 1), (1, .istore 4, 2), (3, .iconst 0, 1), (4, .istore 5, 2), (6, .iload 5, 2), (8, .bipush 8, 2), (10, .if_icmp .ge 67, 3), (13, .aload_n 1, 1), (14, .aload_n 0, 1), (15, .getfield 9, 3), (18, .iload 5, 2), (20, .iload_n 2, 1), (21, .invokevirtual 39, 3), (24, .istore 6, 2), (26, .iload 6, 2), (28, .iconst (-1), 1), (29, .if_icmp .ne 6, 3), (32, .goto 39, 3), (35, .iload 4, 2), (37, .ifCond .ne 31, 3), (40, .aload_n 0, 1), (41, .iload 6, 2), (43, .putfield 9, 3), (46, .aload_n 0, 1), (47, .dup, 1), (48, .getfield 15, 3), (51, .iload 5, 2), (53, .bipush 7, 2), (55, .if_icmp .ne 7, 3), (58, .iconst 1, 1), (59, .goto 4, 3), (62, .iconst 0, 1), (63, .iadd, 1), (64, .putfield 15, 3), (67, .return_, 1), (68, .iinc 4 (-1), 3), (71, .iinc 5 1, 3), (74, .goto (-68), 3), (77, .return_, 1)]
def mX8_take : xM := (yX8_take, cX8_take, 7, none, 3, tX8_take)
theorem okX8_take : xmOk mX8_take := ⟨w570, ⟨by decide +kernel, by decide +kernel, by decide +kernel⟩, by decide, by decide +kernel, xfetch_of (by decide +kernel)⟩
def tX8_draw : List (Nat × Instr × Nat) := [(0, .aload_n 0, 1), (1, .ldc2_w 45, 3), (4, .aload_n 0, 1), (5, .getfield 18, 3), (8, .i2l, 1), (9, .lmul, 1), (10, .ldc2_w 47, 3), (13, .ladd, 1), (14, .ldc2_w 49, 3), (17, .land, 1), (18, .l2i, 1), (19, .putfield 18, 3), (22, .iload_n 1, 1), (23, .iconst 1, 1), (24, .if_icmp .ge 7, 3), (27, .iconst 0, 1), (28, .goto 12, 3), (31, .aload_n 0, 1), (32, .getfield 18, 3), (35, .ldc 51, 2), (37, .idiv, 1), (38, .iload_n 1, 1), (39, .irem, 1), (40, .ireturn, 1)]
def mX8_draw : xM := (yX8_draw, cX8_draw, 2, (some .int), 1, tX8_draw)
theorem okX8_draw : xmOk mX8_draw := ⟨w562, ⟨by decide +kernel, by decide +kernel, by decide +kernel⟩, by decide, by decide +kernel, xfetch_of (by decide +kernel)⟩
def tX9_init : List (Nat × Instr × Nat) := [(0, .aload_n 0, 1), (1, .invokespecial 3, 3), (4, .aload_n 0, 1), (5, .new 9, 3), (8, .dup, 1), (9, .invokespecial 11, 3), (12, .putfield 12, 3), (15, .aload_n 0, 1), (16, .new 16, 3), (19, .dup, 1), (20, .invokespecial 18, 3), (23, .putfield 19, 3), (26, .aload_n 0, 1), (27, .new 16, 3), (30, .dup, 1), (31, .invokespecial 18, 3), (34, .putfield 23, 3), (37, .aload_n 0, 1), (38, .new 26, 3), (41, .dup, 1), (42, .invokespecial 28, 3), (45, .putfield 29, 3), (48, .aload_n 0, 1), (49, .iconst 4, 1), (50, .anewarray 33, 3), (53, .putfield 35, 3), (56, .aload_n 0, 1), (57, .new 39, 3), (60, .dup, 1), (61, .invokespecial 41, 3), (64, .putfield 42, 3), (67, .aload_n 0, 1), (68, .new 46, 3), (71, .dup, 1), (72, .invokespecial 48, 3), (75, .putfield 49, 3), (78, .aload_n 0, 1), (79, .new 53, 3), (82, .dup, 1), (83, .invokespecial 55, 3), (86, .putfield 56, 3), (89, .aload_n 0, 1), (90, .new 60, 3), (93, .dup, 1), (94, .invokespecial 62, 3), (97, .putfield 63, 3), (100, .aload_n 0, 1), (101, .new 67, 3), (104, .dup, 1), (105, .invokespecial 69, 3), (108, .putfield 70, 3), (111, .iconst 0, 1), (112, .istore_n 1, 1), (113, .iload_n 1, 1), (114, .aload_n 0, 1), (115, .getfield 35, 3), (118, .arraylength, 1), (119, .if_icmp .ge 22, 3), (122, .aload_n 0, 1), (123, .getfield 35, 3), (126, .iload_n 1, 1), (127, .new 33, 3), (130, .dup, 1), (131, .invokespecial 74, 3), (134, .aastore, 1), (135, .iinc 1 1, 3), (138, .goto (-25), 3), (141, .return_, 1)]
def mX9_init : xM := (yX9_init, cX9_init, 2, none, 0, tX9_init)
theorem okX9_init : xmOk mX9_init := ⟨w29, ⟨by decide +kernel, by decide +kernel, by decide +kernel⟩, by decide, by decide +kernel, xfetch_of (by decide +kernel)⟩
def tX9_letters : List (Nat × Instr × Nat) := [(0, .lload_n 1, 1), (1, .invokestatic 75, 3), (4, .istore_n 3, 1), (5, .iload_n 3, 1), (6, .iconst (-1), 1), (7, .if_icmp .ne 6, 3), (10, .bipush (-102), 2), (12, .ireturn, 1), (13, .aload_n 0, 1), (14, .getfield 12, 3), (17, .invokevirtual 79, 3), (20, .iload_n 3, 1), (21, .iadd, 1), (22, .bipush 45, 2), (24, .if_icmp .le 6, 3), (27, .bipush (-104), 2), (29, .ireturn, 1), (30, .aload_n 0, 1), (31, .getfield 12, 3), (34, .lload_n 1, 1), (35, .invokevirtual 83, 3), (38, .aload_n 0, 1), (39, .getfield 12, 3), (42, .invokevirtual 79, 3), (45, .ireturn, 1)]
def mX9_letters : xM := (yX9_letters, cX9_letters, 4, (some .int), 1, tX9_letters)
theorem okX9_letters : xmOk mX9_letters := ⟨w617, ⟨by decide +kernel, by decide +kernel, by decide +kernel⟩, by decide, by decide +kernel, xfetch_of (by decide +kernel)⟩
def tX9_fault : List (Nat × Instr × Nat) := [(0, .iload_n 1, 1), (1, .ifCond .ne 15, 3), (4, .aload_n 0, 1), (5, .getfield 23, 3), (8, .aload_n 0, 1), (9, .getfield 12, 3), (12, .invokevirtual 90, 3), (15, .ireturn, 1), (16, .iload_n 1, 1), (17, .iconst 1, 1), (18, .if_icmp .ne 13, 3), (21, .aload_n 0, 1), (22, .getfield 12, 3), (25, .invokestatic 94, 3), (28, .goto 5, 3), (31, .bipush (-102), 2), (33, .ireturn, 1)]
def mX9_fault : xM := (yX9_fault, cX9_fault, 2, (some .int), 1, tX9_fault)
theorem okX9_fault : xmOk mX9_fault := ⟨w254, ⟨by decide +kernel, by decide +kernel, by decide +kernel⟩, by decide, by decide +kernel, xfetch_of (by decide +kernel)⟩
def tX9_house : List (Nat × Instr × Nat) := [(0, .aload_n 0, 1), (1, .getfield 23, 3), (4, .aload_n 0, 1), (5, .getfield 12, 3), (8, .invokevirtual 90, 3), (11, .aload_n 0, 1), (12, .getfield 12, 3), (15, .invokevirtual 79, 3), (18, .if_icmp .lt 13, 3), (21, .aload_n 0, 1), (22, .getfield 23, 3), (25, .invokevirtual 97, 3), (28, .ifCond .ne 6, 3), (31, .bipush (-103), 2), (33, .ireturn, 1), (34, .aload_n 0, 1), (35, .getfield 19, 3), (38, .aload_n 0, 1), (39, .getfield 12, 3), (42, .invokevirtual 90, 3), (45, .pop, 1), (46, .aload_n 0, 1), (47, .dup, 1), (48, .getfield 101, 3), (51, .iconst 1, 1), (52, .iadd, 1), (53, .putfield 101, 3), (56, .aload_n 0, 1), (57, .iconst 0, 1), (58, .putfield 105, 3), (61, .aload_n 0, 1), (62, .getfield 42, 3), (65, .invokevirtual 108, 3), (68, .aload_n 0, 1), (69, .getfield 49, 3), (72, .invokevirtual 109, 3), (75, .aload_n 0, 1), (76, .getfield 56, 3), (79, .invokevirtual 110, 3), (82, .aload_n 0, 1), (83, .getfield 12, 3), (86, .invokevirtual 87, 3), (89, .aload_n 0, 1), (90, .getfield 19, 3), (93, .invokevirtual 113, 3), (96, .ireturn, 1)]
def mX9_house : xM := (yX9_house, cX9_house, 1, (some .int), 0, tX9_house)
theorem okX9_house : xmOk mX9_house := ⟨w321, ⟨by decide +kernel, by decide +kernel, by decide +kernel⟩, by decide, by decide +kernel, xfetch_of (by decide +kernel)⟩
def tX9_between : List (Nat × Instr × Nat) := [(0, .iload_n 1, 1), (1, .invokestatic 116, 3), (4, .ifCond .eq 15, 3), (7, .iload_n 2, 1), (8, .invokestatic 116, 3), (11, .ifCond .eq 8, 3), (14, .iload_n 1, 1), (15, .iload_n 2, 1), (16, .if_icmp .ne 6, 3), (19, .bipush (-101), 2), (21, .ireturn, 1), (22, .aload_n 0, 1), (23, .invokevirtual 120, 3), (26, .ifCond .ne 6, 3), (29, .bipush (-103), 2), (31, .ireturn, 1), (32, .aload_n 0, 1), (33, .getfield 19, 3), (36, .iload_n 1, 1), (37, .iload_n 2, 1), (38, .invokevirtual 123, 3), (41, .iconst (-1), 1), (42, .if_icmp .ne 7, 3), (45, .iconst 0, 1), (46, .goto 4, 3), (49, .iconst 1, 1), (50, .istore_n 3, 1), (51, .aload_n 0, 1), (52, .getfield 19, 3), (55, .iload_n 1, 1), (56, .iload_n 2, 1), (57, .invokevirtual 127, 3), (60, .ifCond .eq 9, 3), (63, .iload_n 3, 1), (64, .iconst 2, 1), (65, .iadd, 1), (66, .goto 4, 3), (69, .iload_n 3, 1), (70, .ireturn, 1)]
def mX9_between : xM := (yX9_between, cX9_between, 4, (some .int), 2, tX9_between)
theorem okX9_between : xmOk mX9_between := ⟨w350, ⟨by decide +kernel, by decide +kernel, by decide +kernel⟩, by decide, by decide +kernel, xfetch_of (by decide +kernel)⟩
def tX9_person : List (Nat × Instr × Nat) := [(0, .iload_n 1, 1), (1, .invokestatic 131, 3), (4, .ifCond .ne 6, 3), (7, .bipush (-102), 2), (9, .ireturn, 1), (10, .aload_n 0, 1), (11, .invokevirtual 120, 3), (14, .ifCond .ne 6, 3), (17, .bipush (-103), 2), (19, .ireturn, 1), (20, .aload_n 0, 1), (21, .getfield 105, 3), (24, .istore_n 2, 1), (25, .iload_n 2, 1), (26, .iconst 4, 1), (27, .if_icmp .lt 6, 3), (30, .bipush (-104), 2), (32, .ireturn, 1), (33, .aload_n 0, 1), (34, .dup, 1), (35, .getfield 105, 3), (38, .iconst 1, 1), (39, .iadd, 1), (40, .putfield 105, 3), (43, .aload_n 0, 1), (44, .iload_n 2, 1), (45, .invokevirtual 134, 3), (48, .astore_n 3, 1), (49, .aload_n 3, 1), (50, .ifnull 8, 3), (53, .aload_n 3, 1), (54, .iload_n 1, 1), (55, .invokevirtual 138, 3), (58, .iload_n 2, 1), (59, .ireturn, 1)]
def mX9_person : xM := (yX9_person, cX9_person, 4, (some .int), 1, tX9_person)
theorem okX9_person : xmOk mX9_person := ⟨w361, ⟨by decide +kernel, by decide +kernel, by decide +kernel⟩, by decide, by decide +kernel, xfetch_of (by decide +kernel)⟩
def tX9_life : List (Nat × Instr × Nat) := [(0, .aload_n 0, 1), (1, .iload_n 1, 1), (2, .invokevirtual 134, 3), (5, .astore_n 2, 1), (6, .aload_n 2, 1), (7, .ifnonnull 6, 3), (10, .bipush (-101), 2), (12, .ireturn, 1), (13, .aload_n 0, 1), (14, .getfield 19, 3), (17, .aload_n 2, 1), (18, .invokevirtual 142, 3), (21, .invokevirtual 145, 3), (24, .istore_n 3, 1), (25, .aload_n 0, 1), (26, .getfield 29, 3), (29, .aload_n 0, 1), (30, .getfield 12, 3), (33, .aload_n 0, 1), (34, .getfield 19, 3), (37, .iload_n 3, 1), (38, .invokevirtual 149, 3), (41, .ifCond .ne 6, 3), (44, .bipush (-103), 2), (46, .ireturn, 1), (47, .aload_n 2, 1), (48, .invokevirtual 152, 3), (51, .aload_n 0, 1), (52, .getfield 29, 3), (55, .invokevirtual 156, 3), (58, .aload_n 0, 1), (59, .getfield 12, 3), (62, .invokevirtual 87, 3), (65, .aload_n 2, 1), (66, .invokevirtual 152, 3), (69, .invokevirtual 160, 3), (72, .ireturn, 1)]
def mX9_life : xM := (yX9_life, cX9_life, 4, (some .int), 1, tX9_life)
theorem okX9_life : xmOk mX9_life := ⟨w380, ⟨by decide +kernel, by decide +kernel, by decide +kernel⟩, by decide, by decide +kernel, xfetch_of (by decide +kernel)⟩
def tX9_about : List (Nat × Instr × Nat) := [(0, .aload_n 0, 1), (1, .iload_n 1, 1), (2, .invokevirtual 134, 3), (5, .astore_n 3, 1), (6, .aload_n 3, 1), (7, .ifnonnull 6, 3), (10, .bipush (-101), 2), (12, .ireturn, 1), (13, .aload_n 3, 1), (14, .invokevirtual 152, 3), (17, .invokevirtual 163, 3), (20, .istore 4, 2), (22, .iload_n 2, 1), (23, .tableswitch 66 0 4 #[33, 38, 46, 54, 60], 33), (56, .aload_n 3, 1), (57, .invokevirtual 142, 3), (60, .ireturn, 1), (61, .aload_n 3, 1), (62, .invokevirtual 152, 3), (65, .invokevirtual 160, 3), (68, .ireturn, 1), (69, .aload_n 3, 1), (70, .invokevirtual 152, 3), (73, .invokevirtual 166, 3), (76, .ireturn, 1), (77, .iload 4, 2), (79, .invokestatic 169, 3), (82, .ireturn, 1), (83, .iload 4, 2), (85, .invokestatic 172, 3), (88, .ireturn, 1), (89, .bipush (-102), 2), (91, .ireturn, 1)]
def mX9_about : xM := (yX9_about, cX9_about, 5, (some .int), 2, tX9_about)
theorem okX9_about : xmOk mX9_about := ⟨w448, ⟨by decide +kernel, by decide +kernel, by decide +kernel⟩, by decide, by decide +kernel, xfetch_of (by decide +kernel)⟩
def tX9_as : List (Nat × Instr × Nat) := [(0, .aload_n 0, 1), (1, .iload_n 1, 1), (2, .invokevirtual 134, 3), (5, .astore_n 3, 1), (6, .aload_n 3, 1), (7, .ifnonnull 6, 3), (10, .bipush (-101), 2), (12, .ireturn, 1), (13, .iload_n 2, 1), (14, .invokestatic 131, 3), (17, .ifCond .ne 6, 3), (20, .bipush (-102), 2), (22, .ireturn, 1), (23, .aload_n 3, 1), (24, .invokevirtual 142, 3), (27, .iload_n 2, 1), (28, .invokestatic 175, 3), (31, .ifCond .eq 7, 3), (34, .iload_n 1, 1), (35, .goto 4, 3), (38, .iconst (-1), 1), (39, .ireturn, 1)]
def mX9_as : xM := (yX9_as, cX9_as, 4, (some .int), 2, tX9_as)
theorem okX9_as : xmOk mX9_as := ⟨w459, ⟨by decide +kernel, by decide +kernel, by decide +kernel⟩, by decide, by decide +kernel, xfetch_of (by decide +kernel)⟩
def tX9_self : List (Nat × Instr × Nat) := [(0, .aload_n 0, 1), (1, .iload_n 1, 1), (2, .invokevirtual 134, 3), (5, .astore 4, 2), (7, .aload 4, 2), (9, .ifnull 19, 3), (12, .iload_n 2, 1), (13, .ifCond .lt 15, 3), (16, .iload_n 2, 1), (17, .aload 4, 2), (19, .invokevirtual 152, 3), (22, .invokevirtual 160, 3), (25, .if_icmp .lt 6, 3), (28, .bipush (-101), 2), (30, .ireturn, 1), (31, .aload 4, 2), (33, .invokevirtual 152, 3), (36, .iload_n 2, 1), (37, .invokevirtual 178, 3), (40, .istore 5, 2), (42, .iload_n 3, 1), (43, .ifCond .ne 9, 3), (46, .iload 5, 2), (48, .invokestatic 169, 3), (51, .ireturn, 1), (52, .iload_n 3, 1), (53, .iconst 1, 1), (54, .if_icmp .ne 11, 3), (57, .iload 5, 2), (59, .invokestatic 172, 3), (62, .goto 5, 3), (65, .bipush (-102), 2), (67, .ireturn, 1)]
def mX9_self : xM := (yX9_self, cX9_self, 6, (some .int), 3, tX9_self)
theorem okX9_self : xmOk mX9_self := ⟨w464, ⟨by decide +kernel, by decide +kernel, by decide +kernel⟩, by decide, by decide +kernel, xfetch_of (by decide +kernel)⟩
def tX9_there : List (Nat × Instr × Nat) := [(0, .aload_n 0, 1), (1, .iload_n 1, 1), (2, .invokevirtual 134, 3), (5, .astore 4, 2), (7, .aload 4, 2), (9, .ifnull 10, 3), (12, .iload_n 3, 1), (13, .invokestatic 116, 3), (16, .ifCond .ne 6, 3), (19, .bipush (-101), 2), (21, .ireturn, 1), (22, .iload_n 2, 1), (23, .invokestatic 181, 3), (26, .ifCond .ne 6, 3), (29, .bipush (-102), 2), (31, .ireturn, 1), (32, .aload 4, 2), (34, .invokevirtual 152, 3), (37, .iload_n 2, 1), (38, .iload_n 3, 1), (39, .invokestatic 184, 3), (42, .invokevirtual 187, 3), (45, .ireturn, 1)]
def mX9_there : xM := (yX9_there, cX9_there, 5, (some .int), 3, tX9_there)
theorem okX9_there : xmOk mX9_there := ⟨w469, ⟨by decide +kernel, by decide +kernel, by decide +kernel⟩, by decide, by decide +kernel, xfetch_of (by decide +kernel)⟩
def tX9_met : List (Nat × Instr × Nat) := [(0, .aload_n 0, 1), (1, .iload_n 1, 1), (2, .invokevirtual 134, 3), (5, .astore_n 2, 1), (6, .aload_n 2, 1), (7, .ifnonnull 8, 3), (10, .bipush (-101), 2), (12, .goto 11, 3), (15, .aload_n 2, 1), (16, .aload_n 0, 1), (17, .getfield 19, 3), (20, .invokevirtual 190, 3), (23, .ireturn, 1)]
def mX9_met : xM := (yX9_met, cX9_met, 3, (some .int), 1, tX9_met)
theorem okX9_met : xmOk mX9_met := ⟨w479, ⟨by decide +kernel, by decide +kernel, by decide +kernel⟩, by decide, by decide +kernel, xfetch_of (by decide +kernel)⟩
def tX9_most : List (Nat × Instr × Nat) := [(0, .aload_n 0, 1), (1, .iload_n 1, 1), (2, .invokevirtual 134, 3), (5, .astore_n 3, 1), (6, .aload_n 3, 1), (7, .ifnonnull 6, 3), (10, .bipush (-101), 2), (12, .ireturn, 1), (13, .iload_n 2, 1), (14, .ifCond .eq 11, 3), (17, .iload_n 2, 1), (18, .iconst 1, 1), (19, .if_icmp .eq 6, 3), (22, .bipush (-102), 2), (24, .ireturn, 1), (25, .aload_n 3, 1), (26, .invokevirtual 152, 3), (29, .invokevirtual 194, 3), (32, .istore 4, 2), (34, .iload_n 2, 1), (35, .iconst 1, 1), (36, .if_icmp .ne 8, 3), (39, .iload 4, 2), (41, .goto 12, 3), (44, .aload_n 3, 1), (45, .invokevirtual 152, 3), (48, .iload 4, 2), (50, .invokevirtual 197, 3), (53, .ireturn, 1)]
def mX9_most : xM := (yX9_most, cX9_most, 5, (some .int), 2, tX9_most)
theorem okX9_most : xmOk mX9_most := ⟨w499, ⟨by decide +kernel, by decide +kernel, by decide +kernel⟩, by decide, by decide +kernel, xfetch_of (by decide +kernel)⟩
def tX9_meet : List (Nat × Instr × Nat) := [(0, .aload_n 0, 1), (1, .iload_n 1, 1), (2, .invokevirtual 134, 3), (5, .astore_n 3, 1), (6, .aload_n 0, 1), (7, .iload_n 2, 1), (8, .invokevirtual 134, 3), (11, .astore 4, 2), (13, .aload_n 3, 1), (14, .ifnull 13, 3), (17, .aload 4, 2), (19, .ifnull 8, 3), (22, .iload_n 1, 1), (23, .iload_n 2, 1), (24, .if_icmp .ne 6, 3), (27, .bipush (-101), 2), (29, .ireturn, 1), (30, .aload_n 3, 1), (31, .invokevirtual 152, 3), (34, .aload 4, 2), (36, .invokevirtual 152, 3), (39, .invokevirtual 200, 3), (42, .ireturn, 1)]
def mX9_meet : xM := (yX9_meet, cX9_meet, 5, (some .int), 2, tX9_meet)
theorem okX9_meet : xmOk mX9_meet := ⟨w683, ⟨by decide +kernel, by decide +kernel, by decide +kernel⟩, by decide, by decide +kernel, xfetch_of (by decide +kernel)⟩
def tX9_locked : List (Nat × Instr × Nat) := [(0, .aload_n 0, 1), (1, .invokevirtual 120, 3), (4, .ifCond .ne 6, 3), (7, .bipush (-103), 2), (9, .ireturn, 1), (10, .iconst (-1), 1), (11, .istore_n 1, 1), (12, .iconst 0, 1), (13, .istore_n 2, 1), (14, .iconst 0, 1), (15, .istore_n 3, 1), (16, .iload_n 3, 1), (17, .aload_n 0, 1), (18, .getfield 19, 3), (21, .invokevirtual 113, 3), (24, .if_icmp .ge 27, 3), (27, .aload_n 0, 1), (28, .iload_n 3, 1), (29, .invokevirtual 204, 3), (32, .istore 4, 2), (34, .iload 4, 2), (36, .iload_n 2, 1), (37, .if_icmp .le 8, 3), (40, .iload_n 3, 1), (41, .istore_n 1, 1), (42, .iload 4, 2), (44, .istore_n 2, 1), (45, .iinc 3 1, 3), (48, .goto (-32), 3), (51, .iload_n 1, 1), (52, .ireturn, 1)]
def mX9_locked : xM := (yX9_locked, cX9_locked, 5, (some .int), 0, tX9_locked)
theorem okX9_locked : xmOk mX9_locked := ⟨w692, ⟨by decide +kernel, by decide +kernel, by decide +kernel⟩, by decide, by decide +kernel, xfetch_of (by decide +kernel)⟩
def tX9_task : List (Nat × Instr × Nat) := [(0, .iload_n 1, 1), (1, .invokestatic 116, 3), (4, .ifCond .ne 6, 3), (7, .bipush (-101), 2), (9, .ireturn, 1), (10, .iload_n 2, 1), (11, .invokestatic 181, 3), (14, .ifCond .eq 15, 3), (17, .iload_n 3, 1), (18, .invokestatic 181, 3), (21, .ifCond .eq 8, 3), (24, .iload_n 3, 1), (25, .iload_n 2, 1), (26, .if_icmp .ge 6, 3), (29, .bipush (-102), 2), (31, .ireturn, 1), (32, .aload_n 0, 1), (33, .invokevirtual 120, 3), (36, .ifCond .ne 6, 3), (39, .bipush (-103), 2), (41, .ireturn, 1), (42, .aload_n 0, 1), (43, .getfield 42, 3), (46, .iload_n 1, 1), (47, .iload_n 2, 1), (48, .iload_n 3, 1), (49, .invokevirtual 207, 3), (52, .ireturn, 1)]
def mX9_task : xM := (yX9_task, cX9_task, 4, (some .int), 3, tX9_task)
theorem okX9_task : xmOk mX9_task := ⟨w513, ⟨by decide +kernel, by decide +kernel, by decide +kernel⟩, by decide, by decide +kernel, xfetch_of (by decide +kernel)⟩
def tX9_done : List (Nat × Instr × Nat) := [(0, .aload_n 0, 1), (1, .iload_n 1, 1), (2, .invokevirtual 134, 3), (5, .astore_n 2, 1), (6, .aload_n 2, 1), (7, .ifnonnull 8, 3), (10, .bipush (-101), 2), (12, .goto 14, 3), (15, .aload_n 0, 1), (16, .getfield 42, 3), (19, .aload_n 2, 1), (20, .invokevirtual 152, 3), (23, .invokevirtual 211, 3), (26, .ireturn, 1)]
def mX9_done : xM := (yX9_done, cX9_done, 3, (some .int), 1, tX9_done)
theorem okX9_done : xmOk mX9_done := ⟨w521, ⟨by decide +kernel, by decide +kernel, by decide +kernel⟩, by decide, by decide +kernel, xfetch_of (by decide +kernel)⟩
def tX9_glimpse : List (Nat × Instr × Nat) := [(0, .iload_n 1, 1), (1, .invokestatic 181, 3), (4, .ifCond .ne 6, 3), (7, .bipush (-102), 2), (9, .ireturn, 1), (10, .iload_n 2, 1), (11, .invokestatic 116, 3), (14, .ifCond .ne 6, 3), (17, .bipush (-101), 2), (19, .ireturn, 1), (20, .aload_n 0, 1), (21, .invokevirtual 120, 3), (24, .ifCond .ne 6, 3), (27, .bipush (-103), 2), (29, .ireturn, 1), (30, .aload_n 0, 1), (31, .getfield 49, 3), (34, .iload_n 1, 1), (35, .iload_n 2, 1), (36, .invokestatic 184, 3), (39, .invokevirtual 233, 3), (42, .ireturn, 1)]
def mX9_glimpse : xM := (yX9_glimpse, cX9_glimpse, 3, (some .int), 2, tX9_glimpse)
theorem okX9_glimpse : xmOk mX9_glimpse := ⟨w537, ⟨by decide +kernel, by decide +kernel, by decide +kernel⟩, by decide, by decide +kernel, xfetch_of (by decide +kernel)⟩
def tX9_forget : List (Nat × Instr × Nat) := [(0, .aload_n 0, 1), (1, .getfield 49, 3), (4, .invokevirtual 235, 3), (7, .istore_n 1, 1), (8, .aload_n 0, 1), (9, .getfield 49, 3), (12, .invokevirtual 109, 3), (15, .iload_n 1, 1), (16, .ireturn, 1)]
def mX9_forget : xM := (yX9_forget, cX9_forget, 2, (some .int), 0, tX9_forget)
theorem okX9_forget : xmOk mX9_forget := ⟨w676, ⟨by decide +kernel, by decide +kernel, by decide +kernel⟩, by decide, by decide +kernel, xfetch_of (by decide +kernel)⟩
def tX9_whose : List (Nat × Instr × Nat) := [(0, .iconst 0, 1), (1, .istore_n 1, 1), (2, .iconst 0, 1), (3, .istore_n 2, 1), (4, .iload_n 2, 1), (5, .aload_n 0, 1), (6, .getfield 105, 3), (9, .if_icmp .ge 39, 3), (12, .aload_n 0, 1), (13, .iload_n 2, 1), (14, .invokevirtual 134, 3), (17, .astore_n 3, 1), (18, .aload_n 3, 1), (19, .ifnull 23, 3), (22, .aload_n 0, 1), (23, .getfield 49, 3), (26, .aload_n 3, 1), (27, .invokevirtual 152, 3), (30, .invokevirtual 236, 3), (33, .ifCond .eq 9, 3), (36, .iload_n 1, 1), (37, .iconst 1, 1), (38, .iload_n 2, 1), (39, .ishl, 1), (40, .ior, 1), (41, .istore_n 1, 1), (42, .iinc 2 1, 3), (45, .goto (-41), 3), (48, .iload_n 1, 1), (49, .ireturn, 1)]
def mX9_whose : xM := (yX9_whose, cX9_whose, 4, (some .int), 0, tX9_whose)
theorem okX9_whose : xmOk mX9_whose := ⟨w668, ⟨by decide +kernel, by decide +kernel, by decide +kernel⟩, by decide, by decide +kernel, xfetch_of (by decide +kernel)⟩
def tX9_pair : List (Nat × Instr × Nat) := [(0, .aload_n 0, 1), (1, .iload_n 1, 1), (2, .invokevirtual 134, 3), (5, .astore_n 3, 1), (6, .aload_n 0, 1), (7, .iload_n 2, 1), (8, .invokevirtual 134, 3), (11, .astore 4, 2), (13, .aload_n 3, 1), (14, .ifnull 13, 3), (17, .aload 4, 2), (19, .ifnull 8, 3), (22, .iload_n 1, 1), (23, .iload_n 2, 1), (24, .if_icmp .ne 6, 3), (27, .bipush (-101), 2), (29, .ireturn, 1), (30, .aload_n 0, 1), (31, .getfield 49, 3), (34, .aload_n 3, 1), (35, .invokevirtual 152, 3), (38, .aload 4, 2), (40, .invokevirtual 152, 3), (43, .invokevirtual 240, 3), (46, .ireturn, 1)]
def mX9_pair : xM := (yX9_pair, cX9_pair, 5, (some .int), 2, tX9_pair)
theorem okX9_pair : xmOk mX9_pair := ⟨w659, ⟨by decide +kernel, by decide +kernel, by decide +kernel⟩, by decide, by decide +kernel, xfetch_of (by decide +kernel)⟩
def tX9_lives : List (Nat × Instr × Nat) := [(0, .iload_n 1, 1), (1, .invokestatic 131, 3), (4, .ifCond .ne 6, 3), (7, .bipush (-102), 2), (9, .ireturn, 1), (10, .iload_n 2, 1), (11, .invokestatic 116, 3), (14, .ifCond .ne 6, 3), (17, .bipush (-101), 2), (19, .ireturn, 1), (20, .iload_n 3, 1), (21, .iconst 1, 1), (22, .if_icmp .lt 25, 3), (25, .iload_n 3, 1), (26, .bipush 16, 2), (28, .if_icmp .gt 19, 3), (31, .iload 4, 2), (33, .ifCond .lt 14, 3), (36, .iload 5, 2), (38, .ifCond .lt 9, 3), (41, .iload 5, 2), (43, .iconst 3, 1), (44, .if_icmp .le 6, 3), (47, .bipush (-102), 2), (49, .ireturn, 1), (50, .aload_n 0, 1), (51, .invokevirtual 120, 3), (54, .ifCond .ne 6, 3), (57, .bipush (-103), 2), (59, .ireturn, 1), (60, .aload_n 0, 1), (61, .getfield 70, 3), (64, .bipush 30, 2), (66, .iload_n 2, 1), (67, .invokestatic 184, 3), (70, .iload 4, 2), (72, .invokevirtual 244, 3), (75, .aload_n 0, 1), (76, .getfield 70, 3), (79, .aload_n 0, 1), (80, .getfield 19, 3), (83, .aload_n 0, 1), (84, .getfield 19, 3), (87, .iload_n 1, 1), (88, .invokevirtual 145, 3), (91, .iload_n 3, 1), (92, .invokevirtual 247, 3), (95, .aload_n 0, 1), (96, .getfield 70, 3), (99, .iload 5, 2), (101, .invokevirtual 251, 3), (104, .ireturn, 1)]
def mX9_lives : xM := (yX9_lives, cX9_lives, 6, (some .int), 5, tX9_lives)
theorem okX9_lives : xmOk mX9_lives := ⟨w545, ⟨by decide +kernel, by decide +kernel, by decide +kernel⟩, by decide, by decide +kernel, xfetch_of (by decide +kernel)⟩
def tX9_count : List (Nat × Instr × Nat) := [(0, .iload_n 1, 1), (1, .tableswitch 126 0 9 #[55, 63, 71, 76, 84, 92, 100, 105, 110, 118], 55), (56, .aload_n 0, 1), (57, .getfield 19, 3), (60, .invokevirtual 113, 3), (63, .ireturn, 1), (64, .aload_n 0, 1), (65, .getfield 19, 3), (68, .invokevirtual 270, 3), (71, .ireturn, 1), (72, .aload_n 0, 1), (73, .getfield 105, 3), (76, .ireturn, 1), (77, .aload_n 0, 1), (78, .getfield 42, 3), (81, .invokevirtual 214, 3), (84, .ireturn, 1), (85, .aload_n 0, 1), (86, .getfield 49, 3), (89, .invokevirtual 235, 3), (92, .ireturn, 1), (93, .aload_n 0, 1), (94, .getfield 12, 3), (97, .invokevirtual 79, 3), (100, .ireturn, 1), (101, .aload_n 0, 1), (102, .getfield 101, 3), (105, .ireturn, 1), (106, .aload_n 0, 1), (107, .getfield 217, 3), (110, .ireturn, 1), (111, .aload_n 0, 1), (112, .getfield 19, 3), (115, .invokevirtual 273, 3), (118, .ireturn, 1), (119, .aload_n 0, 1), (120, .getfield 19, 3), (123, .invokevirtual 276, 3), (126, .ireturn, 1), (127, .bipush (-102), 2), (129, .ireturn, 1)]
def mX9_count : xM := (yX9_count, cX9_count, 2, (some .int), 1, tX9_count)
theorem okX9_count : xmOk mX9_count := ⟨w580, ⟨by decide +kernel, by decide +kernel, by decide +kernel⟩, by decide, by decide +kernel, xfetch_of (by decide +kernel)⟩
def tX9_hasHouse : List (Nat × Instr × Nat) := [(0, .aload_n 0, 1), (1, .getfield 101, 3), (4, .ifCond .le 7, 3), (7, .iconst 1, 1), (8, .goto 4, 3), (11, .iconst 0, 1), (12, .ireturn, 1)]
def mX9_hasHouse : xM := (yX9_hasHouse, cX9_hasHouse, 1, (some .boolean), 0, tX9_hasHouse)
theorem okX9_hasHouse : xmOk mX9_hasHouse := ⟨w355, ⟨by decide +kernel, by decide +kernel, by decide +kernel⟩, by decide, by decide +kernel, xfetch_of (by decide +kernel)⟩
def tX9_personAt : List (Nat × Instr × Nat) := [(0, .iload_n 1, 1), (1, .ifCond .lt 29, 3), (4, .iload_n 1, 1), (5, .aload_n 0, 1), (6, .getfield 105, 3), (9, .if_icmp .ge 21, 3), (12, .iload_n 1, 1), (13, .aload_n 0, 1), (14, .getfield 35, 3), (17, .arraylength, 1), (18, .if_icmp .ge 12, 3), (21, .aload_n 0, 1), (22, .getfield 35, 3), (25, .iload_n 1, 1), (26, .aaload, 1), (27, .goto 4, 3), (30, .aconst_null, 1), (31, .areturn, 1)]
def mX9_personAt : xM := (yX9_personAt, cX9_personAt, 2, (some (.object "HourAgo$Person")), 1, tX9_personAt)
theorem okX9_personAt : xmOk mX9_personAt := ⟨w368, ⟨by decide +kernel, by decide +kernel, by decide +kernel⟩, by decide, by decide +kernel, xfetch_of (by decide +kernel)⟩
def tX9_usersOf : List (Nat × Instr × Nat) := [(0, .iconst 0, 1), (1, .istore_n 2, 1), (2, .iconst 0, 1), (3, .istore_n 3, 1), (4, .iload_n 3, 1), (5, .aload_n 0, 1), (6, .getfield 105, 3), (9, .if_icmp .ge 36, 3), (12, .aload_n 0, 1), (13, .iload_n 3, 1), (14, .invokevirtual 134, 3), (17, .astore 4, 2), (19, .aload 4, 2), (21, .ifnull 18, 3), (24, .aload 4, 2), (26, .invokevirtual 152, 3), (29, .iload_n 1, 1), (30, .invokevirtual 331, 3), (33, .ifCond .eq 6, 3), (36, .iinc 2 1, 3), (39, .iinc 3 1, 3), (42, .goto (-38), 3), (45, .iload_n 2, 1), (46, .ireturn, 1)]
def mX9_usersOf : xM := (yX9_usersOf, cX9_usersOf, 5, (some .int), 1, tX9_usersOf)
theorem okX9_usersOf : xmOk mX9_usersOf := ⟨w696, ⟨by decide +kernel, by decide +kernel, by decide +kernel⟩, by decide, by decide +kernel, xfetch_of (by decide +kernel)⟩
def tX9_isRoom : List (Nat × Instr × Nat) := [(0, .iload_n 0, 1), (1, .ifCond .lt 13, 3), (4, .iload_n 0, 1), (5, .bipush 6, 2), (7, .if_icmp .ge 7, 3), (10, .iconst 1, 1), (11, .goto 4, 3), (14, .iconst 0, 1), (15, .ireturn, 1)]
def mX9_isRoom : xM := (yX9_isRoom, cX9_isRoom, 1, (some .boolean), 1, tX9_isRoom)
theorem okX9_isRoom : xmOk mX9_isRoom := ⟨w291, ⟨by decide +kernel, by decide +kernel, by decide +kernel⟩, by decide, by decide +kernel, xfetch_of (by decide +kernel)⟩
def tX9_isMinute : List (Nat × Instr × Nat) := [(0, .iload_n 0, 1), (1, .ifCond .lt 13, 3), (4, .iload_n 0, 1), (5, .bipush 60, 2), (7, .if_icmp .ge 7, 3), (10, .iconst 1, 1), (11, .goto 4, 3), (14, .iconst 0, 1), (15, .ireturn, 1)]
def mX9_isMinute : xM := (yX9_isMinute, cX9_isMinute, 1, (some .boolean), 1, tX9_isMinute)
theorem okX9_isMinute : xmOk mX9_isMinute := ⟨w430, ⟨by decide +kernel, by decide +kernel, by decide +kernel⟩, by decide, by decide +kernel, xfetch_of (by decide +kernel)⟩
def tX9_isKind : List (Nat × Instr × Nat) := [(0, .iload_n 0, 1), (1, .ifCond .lt 12, 3), (4, .iload_n 0, 1), (5, .iconst 5, 1), (6, .if_icmp .ge 7, 3), (9, .iconst 1, 1), (10, .goto 4, 3), (13, .iconst 0, 1), (14, .ireturn, 1)]
def mX9_isKind : xM := (yX9_isKind, cX9_isKind, 1, (some .boolean), 1, tX9_isKind)
theorem okX9_isKind : xmOk mX9_isKind := ⟨w364, ⟨by decide +kernel, by decide +kernel, by decide +kernel⟩, by decide, by decide +kernel, xfetch_of (by decide +kernel)⟩
def tX9_isOfKind : List (Nat × Instr × Nat) := [(0, .iload_n 1, 1), (1, .ifCond .eq 18, 3), (4, .iload_n 1, 1), (5, .iload_n 0, 1), (6, .if_icmp .eq 13, 3), (9, .iload_n 1, 1), (10, .iconst 3, 1), (11, .if_icmp .ne 12, 3), (14, .iload_n 0, 1), (15, .iconst 4, 1), (16, .if_icmp .ne 7, 3), (19, .iconst 1, 1), (20, .goto 4, 3), (23, .iconst 0, 1), (24, .ireturn, 1)]
def mX9_isOfKind : xM := (yX9_isOfKind, cX9_isOfKind, 2, (some .boolean), 2, tX9_isOfKind)
theorem okX9_isOfKind : xmOk mX9_isOfKind := ⟨w391, ⟨by decide +kernel, by decide +kernel, by decide +kernel⟩, by decide, by decide +kernel, xfetch_of (by decide +kernel)⟩
def tX9_spotOf : List (Nat × Instr × Nat) := [(0, .iload_n 0, 1), (1, .bipush 6, 2), (3, .imul, 1), (4, .iload_n 1, 1), (5, .iadd, 1), (6, .ireturn, 1)]
def mX9_spotOf : xM := (yX9_spotOf, cX9_spotOf, 2, (some .int), 2, tX9_spotOf)
theorem okX9_spotOf : xmOk mX9_spotOf := ⟨w400, ⟨by decide +kernel, by decide +kernel, by decide +kernel⟩, by decide, by decide +kernel, xfetch_of (by decide +kernel)⟩
def tX9_minuteOf : List (Nat × Instr × Nat) := [(0, .iload_n 0, 1), (1, .iconst (-1), 1), (2, .if_icmp .ne 7, 3), (5, .iconst (-1), 1), (6, .goto 7, 3), (9, .iload_n 0, 1), (10, .bipush 6, 2), (12, .idiv, 1), (13, .ireturn, 1)]
def mX9_minuteOf : xM := (yX9_minuteOf, cX9_minuteOf, 1, (some .int), 1, tX9_minuteOf)
theorem okX9_minuteOf : xmOk mX9_minuteOf := ⟨w423, ⟨by decide +kernel, by decide +kernel, by decide +kernel⟩, by decide, by decide +kernel, xfetch_of (by decide +kernel)⟩
def tX9_roomOf : List (Nat × Instr × Nat) := [(0, .iload_n 0, 1), (1, .iconst (-1), 1), (2, .if_icmp .ne 7, 3), (5, .iconst (-1), 1), (6, .goto 7, 3), (9, .iload_n 0, 1), (10, .bipush 6, 2), (12, .irem, 1), (13, .ireturn, 1)]
def mX9_roomOf : xM := (yX9_roomOf, cX9_roomOf, 1, (some .int), 1, tX9_roomOf)
theorem okX9_roomOf : xmOk mX9_roomOf := ⟨w426, ⟨by decide +kernel, by decide +kernel, by decide +kernel⟩, by decide, by decide +kernel, xfetch_of (by decide +kernel)⟩
def tX9_digitOf : List (Nat × Instr × Nat) := [(0, .iload_n 0, 1), (1, .bipush 48, 2), (3, .isub, 1), (4, .istore_n 3, 1), (5, .iload_n 3, 1), (6, .iload_n 1, 1), (7, .if_icmp .lt 12, 3), (10, .iload_n 3, 1), (11, .iload_n 2, 1), (12, .if_icmp .gt 7, 3), (15, .iload_n 3, 1), (16, .goto 4, 3), (19, .iconst (-1), 1), (20, .ireturn, 1)]
def mX9_digitOf : xM := (yX9_digitOf, cX9_digitOf, 4, (some .int), 3, tX9_digitOf)
theorem okX9_digitOf : xmOk mX9_digitOf := ⟨w280, ⟨by decide +kernel, by decide +kernel, by decide +kernel⟩, by decide, by decide +kernel, xfetch_of (by decide +kernel)⟩
def tX9_roomDigitOf : List (Nat × Instr × Nat) := [(0, .iload_n 0, 1), (1, .iconst 0, 1), (2, .iconst 5, 1), (3, .invokestatic 334, 3), (6, .ireturn, 1)]
def mX9_roomDigitOf : xM := (yX9_roomDigitOf, cX9_roomDigitOf, 1, (some .int), 1, tX9_roomDigitOf)
theorem okX9_roomDigitOf : xmOk mX9_roomDigitOf := ⟨w277, ⟨by decide +kernel, by decide +kernel, by decide +kernel⟩, by decide, by decide +kernel, xfetch_of (by decide +kernel)⟩
end
section
/-! ===== the small methods of the law: their instructions, in pieces ===== -/
def tL_cell_0 : List (Nat × Instr × Nat) := [(0, .iload_n 1, 1), (1, .aload_n 0, 1), (2, .arraylength, 1), (3, .if_icmp .ge 9, 3), (6, .aload_n 0, 1), (7, .iload_n 1, 1), (8, .iaload, 1), (9, .goto 9, 3), (12, .ldc 7, 2), (14, .iload_n 1, 1), (15, .iconst 1, 1), (16, .iadd, 1)]
theorem dcL_cell_0 : tL_cell_0.all (fun q => decide (decode cL_cell q.1 = .ok (q.2.1, q.2.2))) = true := by decide +kernel
def tL_cell_1 : List (Nat × Instr × Nat) := [(17, .imul, 1), (18, .ireturn, 1)]
theorem dcL_cell_1 : tL_cell_1.all (fun q => decide (decode cL_cell q.1 = .ok (q.2.1, q.2.2))) = true := by decide +kernel
def tL_cells : List (List (Nat × Instr × Nat)) := [tL_cell_0, tL_cell_1]
theorem dcL_cells : ∀ t ∈ tL_cells, t.all (fun q => decide (decode cL_cell q.1 = .ok (q.2.1, q.2.2))) = true := List.forall_mem_cons.mpr ⟨dcL_cell_0, List.forall_mem_cons.mpr ⟨dcL_cell_1, fun _ h => absurd h List.not_mem_nil⟩⟩
def tL_cell : List (Nat × Instr × Nat) := [(0, .iload_n 1, 1), (1, .aload_n 0, 1), (2, .arraylength, 1), (3, .if_icmp .ge 9, 3), (6, .aload_n 0, 1), (7, .iload_n 1, 1), (8, .iaload, 1), (9, .goto 9, 3), (12, .ldc 7, 2), (14, .iload_n 1, 1), (15, .iconst 1, 1), (16, .iadd, 1), (17, .imul, 1), (18, .ireturn, 1)]
set_option maxRecDepth 100000 in
theorem tL_cell_eq : tL_cell = tL_cells.flatten := rfl
def mL_cell : xM := (yL_cell, cL_cell, 2, (some .int), 2, tL_cell)
theorem decL_cell : ∀ pc i n, xfetch mL_cell pc = some (i, n) → decode mL_cell.2.1 pc = .ok (i, n) := by
  refine xfetch_of ?_
  show tL_cell.all _ = true
  rw [tL_cell_eq, List.all_eq_true]
  intro q hq
  obtain ⟨t, ht, hqt⟩ := List.mem_flatten.mp hq
  exact List.all_eq_true.mp (dcL_cells t ht) q hqt
theorem okL_cell : xmOk mL_cell := ⟨w603, ⟨by decide +kernel, by decide +kernel, by decide +kernel⟩, by decide, by decide +kernel, decL_cell⟩
def tL_at_0 : List (Nat × Instr × Nat) := [(0, .iload_n 0, 1), (1, .iconst 1, 1), (2, .iushr, 1), (3, .iload_n 1, 1), (4, .irem, 1), (5, .ireturn, 1)]
theorem dcL_at_0 : tL_at_0.all (fun q => decide (decode cL_at q.1 = .ok (q.2.1, q.2.2))) = true := by decide +kernel
def tL_ats : List (List (Nat × Instr × Nat)) := [tL_at_0]
theorem dcL_ats : ∀ t ∈ tL_ats, t.all (fun q => decide (decode cL_at q.1 = .ok (q.2.1, q.2.2))) = true := List.forall_mem_cons.mpr ⟨dcL_at_0, fun _ h => absurd h List.not_mem_nil⟩
def tL_at : List (Nat × Instr × Nat) := [(0, .iload_n 0, 1), (1, .iconst 1, 1), (2, .iushr, 1), (3, .iload_n 1, 1), (4, .irem, 1), (5, .ireturn, 1)]
set_option maxRecDepth 100000 in
theorem tL_at_eq : tL_at = tL_ats.flatten := rfl
def mL_at : xM := (yL_at, cL_at, 2, (some .int), 2, tL_at)
theorem decL_at : ∀ pc i n, xfetch mL_at pc = some (i, n) → decode mL_at.2.1 pc = .ok (i, n) := by
  refine xfetch_of ?_
  show tL_at.all _ = true
  rw [tL_at_eq, List.all_eq_true]
  intro q hq
  obtain ⟨t, ht, hqt⟩ := List.mem_flatten.mp hq
  exact List.all_eq_true.mp (dcL_ats t ht) q hqt
theorem okL_at : xmOk mL_at := ⟨w607, ⟨by decide +kernel, by decide +kernel, by decide +kernel⟩, by decide, by decide +kernel, decL_at⟩
def tL_houseText_0 : List (Nat × Instr × Nat) := [(0, .aload_n 0, 1), (1, .iload_n 1, 1), (2, .invokestatic 8, 3), (5, .istore 4, 2), (7, .aload_n 0, 1), (8, .iload_n 1, 1), (9, .iconst 1, 1), (10, .iadd, 1), (11, .invokestatic 8, 3), (14, .istore 5, 2), (16, .iconst 0, 1), (17, .istore 6, 2)]
theorem dcL_houseText_0 : tL_houseText_0.all (fun q => decide (decode cL_houseText q.1 = .ok (q.2.1, q.2.2))) = true := by decide +kernel
def tL_houseText_1 : List (Nat × Instr × Nat) := [(19, .iconst 0, 1), (20, .istore 7, 2), (22, .iload 7, 2), (24, .bipush 36, 2), (26, .if_icmp .ge 14, 3), (29, .aload_n 2, 1), (30, .iload 7, 2), (32, .iconst 0, 1), (33, .iastore, 1), (34, .iinc 7 1, 3), (37, .goto (-15), 3), (40, .iconst 1, 1)]
theorem dcL_houseText_1 : tL_houseText_1.all (fun q => decide (decode cL_houseText q.1 = .ok (q.2.1, q.2.2))) = true := by decide +kernel
def tL_houseText_2 : List (Nat × Instr × Nat) := [(41, .iload 4, 2), (43, .bipush 10, 2), (45, .invokestatic 14, 3), (48, .iadd, 1), (49, .istore 7, 2), (51, .iconst 0, 1), (52, .istore 8, 2), (54, .iload 8, 2), (56, .iload 7, 2), (58, .if_icmp .ge 154, 3), (61, .iload 5, 2), (63, .iconst 3, 1)]
theorem dcL_houseText_2 : tL_houseText_2.all (fun q => decide (decode cL_houseText q.1 = .ok (q.2.1, q.2.2))) = true := by decide +kernel
def tL_houseText_3 : List (Nat × Instr × Nat) := [(64, .iload 8, 2), (66, .imul, 1), (67, .ishr, 1), (68, .bipush 6, 2), (70, .invokestatic 14, 3), (73, .istore 9, 2), (75, .iload 9, 2), (77, .iconst 1, 1), (78, .iadd, 1), (79, .iload 4, 2), (81, .iconst 2, 1), (82, .iconst 2, 1)]
theorem dcL_houseText_3 : tL_houseText_3.all (fun q => decide (decode cL_houseText q.1 = .ok (q.2.1, q.2.2))) = true := by decide +kernel
def tL_houseText_4 : List (Nat × Instr × Nat) := [(83, .iload 8, 2), (85, .imul, 1), (86, .iadd, 1), (87, .ishr, 1), (88, .iconst 5, 1), (89, .invokestatic 14, 3), (92, .iadd, 1), (93, .bipush 6, 2), (95, .irem, 1), (96, .istore 10, 2), (98, .aload_n 2, 1), (99, .iload 9, 2)]
theorem dcL_houseText_4 : tL_houseText_4.all (fun q => decide (decode cL_houseText q.1 = .ok (q.2.1, q.2.2))) = true := by decide +kernel
def tL_houseText_5 : List (Nat × Instr × Nat) := [(101, .iaload, 1), (102, .iload 10, 2), (104, .ishr, 1), (105, .iconst 1, 1), (106, .iand, 1), (107, .iconst 1, 1), (108, .if_icmp .ne 6, 3), (111, .goto 95, 3), (114, .aload_n 2, 1), (115, .iload 9, 2), (117, .dup2, 1), (118, .iaload, 1)]
theorem dcL_houseText_5 : tL_houseText_5.all (fun q => decide (decode cL_houseText q.1 = .ok (q.2.1, q.2.2))) = true := by decide +kernel
def tL_houseText_6 : List (Nat × Instr × Nat) := [(119, .iconst 1, 1), (120, .iload 10, 2), (122, .ishl, 1), (123, .ior, 1), (124, .iastore, 1), (125, .aload_n 2, 1), (126, .iload 10, 2), (128, .dup2, 1), (129, .iaload, 1), (130, .iconst 1, 1), (131, .iload 9, 2), (133, .ishl, 1)]
theorem dcL_houseText_6 : tL_houseText_6.all (fun q => decide (decode cL_houseText q.1 = .ok (q.2.1, q.2.2))) = true := by decide +kernel
def tL_houseText_7 : List (Nat × Instr × Nat) := [(134, .ior, 1), (135, .iastore, 1), (136, .aload_n 2, 1), (137, .bipush 14, 2), (139, .iaload, 1), (140, .ifCond .le 12, 3), (143, .aload_n 3, 1), (144, .iload 6, 2), (146, .iinc 6 1, 3), (149, .bipush 44, 2), (151, .iastore, 1), (152, .aload_n 2, 1)]
theorem dcL_houseText_7 : tL_houseText_7.all (fun q => decide (decode cL_houseText q.1 = .ok (q.2.1, q.2.2))) = true := by decide +kernel
def tL_houseText_8 : List (Nat × Instr × Nat) := [(153, .bipush 16, 2), (155, .aload_n 2, 1), (156, .bipush 14, 2), (158, .iaload, 1), (159, .iadd, 1), (160, .iload 9, 2), (162, .iastore, 1), (163, .aload_n 2, 1), (164, .bipush 26, 2), (166, .aload_n 2, 1), (167, .bipush 14, 2), (169, .iaload, 1)]
theorem dcL_houseText_8 : tL_houseText_8.all (fun q => decide (decode cL_houseText q.1 = .ok (q.2.1, q.2.2))) = true := by decide +kernel
def tL_houseText_9 : List (Nat × Instr × Nat) := [(170, .iadd, 1), (171, .iload 10, 2), (173, .iastore, 1), (174, .aload_n 2, 1), (175, .bipush 14, 2), (177, .dup2, 1), (178, .iaload, 1), (179, .iconst 1, 1), (180, .iadd, 1), (181, .iastore, 1), (182, .aload_n 3, 1), (183, .iload 6, 2)]
theorem dcL_houseText_9 : tL_houseText_9.all (fun q => decide (decode cL_houseText q.1 = .ok (q.2.1, q.2.2))) = true := by decide +kernel
def tL_houseText_10 : List (Nat × Instr × Nat) := [(185, .iinc 6 1, 3), (188, .bipush 48, 2), (190, .iload 9, 2), (192, .iadd, 1), (193, .iastore, 1), (194, .aload_n 3, 1), (195, .iload 6, 2), (197, .iinc 6 1, 3), (200, .bipush 48, 2), (202, .iload 10, 2), (204, .iadd, 1), (205, .iastore, 1)]
theorem dcL_houseText_10 : tL_houseText_10.all (fun q => decide (decode cL_houseText q.1 = .ok (q.2.1, q.2.2))) = true := by decide +kernel
def tL_houseText_11 : List (Nat × Instr × Nat) := [(206, .iinc 8 1, 3), (209, .goto (-155), 3), (212, .aload_n 0, 1), (213, .iload_n 1, 1), (214, .iconst 2, 1), (215, .iadd, 1), (216, .invokestatic 8, 3), (219, .istore 8, 2), (221, .aload_n 2, 1), (222, .bipush 12, 2), (224, .iload 8, 2), (226, .bipush 6, 2)]
theorem dcL_houseText_11 : tL_houseText_11.all (fun q => decide (decode cL_houseText q.1 = .ok (q.2.1, q.2.2))) = true := by decide +kernel
def tL_houseText_12 : List (Nat × Instr × Nat) := [(228, .invokestatic 14, 3), (231, .iastore, 1), (232, .aload_n 2, 1), (233, .bipush 13, 2), (235, .iconst 1, 1), (236, .iload 8, 2), (238, .iconst 3, 1), (239, .ishr, 1), (240, .iload 8, 2), (242, .bipush 7, 2), (244, .ishr, 1), (245, .iconst 2, 1)]
theorem dcL_houseText_12 : tL_houseText_12.all (fun q => decide (decode cL_houseText q.1 = .ok (q.2.1, q.2.2))) = true := by decide +kernel
def tL_houseText_13 : List (Nat × Instr × Nat) := [(246, .invokestatic 14, 3), (249, .ifCond .ne 8, 3), (252, .bipush 9, 2), (254, .goto 4, 3), (257, .iconst 3, 1), (258, .invokestatic 14, 3), (261, .iadd, 1), (262, .iastore, 1), (263, .aload_n 3, 1), (264, .iload 6, 2), (266, .iinc 6 1, 3), (269, .bipush 59, 2)]
theorem dcL_houseText_13 : tL_houseText_13.all (fun q => decide (decode cL_houseText q.1 = .ok (q.2.1, q.2.2))) = true := by decide +kernel
def tL_houseText_14 : List (Nat × Instr × Nat) := [(271, .iastore, 1), (272, .aload_n 3, 1), (273, .iload 6, 2), (275, .iinc 6 1, 3), (278, .bipush 48, 2), (280, .aload_n 2, 1), (281, .bipush 12, 2), (283, .iaload, 1), (284, .iadd, 1), (285, .iastore, 1), (286, .aload_n 3, 1), (287, .iload 6, 2)]
theorem dcL_houseText_14 : tL_houseText_14.all (fun q => decide (decode cL_houseText q.1 = .ok (q.2.1, q.2.2))) = true := by decide +kernel
def tL_houseText_15 : List (Nat × Instr × Nat) := [(289, .iinc 6 1, 3), (292, .bipush 48, 2), (294, .aload_n 2, 1), (295, .bipush 13, 2), (297, .iaload, 1), (298, .iadd, 1), (299, .iastore, 1), (300, .iload 8, 2), (302, .bipush 8, 2), (304, .ishr, 1), (305, .iconst 2, 1), (306, .invokestatic 14, 3)]
theorem dcL_houseText_15 : tL_houseText_15.all (fun q => decide (decode cL_houseText q.1 = .ok (q.2.1, q.2.2))) = true := by decide +kernel
def tL_houseText_16 : List (Nat × Instr × Nat) := [(309, .ifCond .ne 7, 3), (312, .iconst 0, 1), (313, .goto 14, 3), (316, .iconst 1, 1), (317, .iload 8, 2), (319, .bipush 9, 2), (321, .ishr, 1), (322, .iconst 4, 1), (323, .invokestatic 14, 3), (326, .iadd, 1), (327, .istore 9, 2), (329, .iconst 0, 1)]
theorem dcL_houseText_16 : tL_houseText_16.all (fun q => decide (decode cL_houseText q.1 = .ok (q.2.1, q.2.2))) = true := by decide +kernel
def tL_houseText_17 : List (Nat × Instr × Nat) := [(330, .istore 10, 2), (332, .iload 10, 2), (334, .iload 9, 2), (336, .if_icmp .ge 150, 3), (339, .iload 8, 2), (341, .bipush 11, 2), (343, .iconst 3, 1), (344, .iload 10, 2), (346, .imul, 1), (347, .iadd, 1), (348, .ishr, 1), (349, .bipush 6, 2)]
theorem dcL_houseText_17 : tL_houseText_17.all (fun q => decide (decode cL_houseText q.1 = .ok (q.2.1, q.2.2))) = true := by decide +kernel
def tL_houseText_18 : List (Nat × Instr × Nat) := [(351, .invokestatic 14, 3), (354, .istore 11, 2), (356, .iload 11, 2), (358, .iconst 1, 1), (359, .iadd, 1), (360, .iload 8, 2), (362, .bipush 13, 2), (364, .iconst 3, 1), (365, .iload 10, 2), (367, .imul, 1), (368, .iadd, 1), (369, .ishr, 1)]
theorem dcL_houseText_18 : tL_houseText_18.all (fun q => decide (decode cL_houseText q.1 = .ok (q.2.1, q.2.2))) = true := by decide +kernel
def tL_houseText_19 : List (Nat × Instr × Nat) := [(370, .iconst 5, 1), (371, .invokestatic 14, 3), (374, .iadd, 1), (375, .bipush 6, 2), (377, .irem, 1), (378, .istore 12, 2), (380, .aload_n 2, 1), (381, .bipush 6, 2), (383, .iload 11, 2), (385, .iadd, 1), (386, .iaload, 1), (387, .iload 12, 2)]
theorem dcL_houseText_19 : tL_houseText_19.all (fun q => decide (decode cL_houseText q.1 = .ok (q.2.1, q.2.2))) = true := by decide +kernel
def tL_houseText_20 : List (Nat × Instr × Nat) := [(389, .ishr, 1), (390, .iconst 1, 1), (391, .iand, 1), (392, .iconst 1, 1), (393, .if_icmp .ne 6, 3), (396, .goto 84, 3), (399, .aload_n 2, 1), (400, .bipush 6, 2), (402, .iload 11, 2), (404, .iadd, 1), (405, .dup2, 1), (406, .iaload, 1)]
theorem dcL_houseText_20 : tL_houseText_20.all (fun q => decide (decode cL_houseText q.1 = .ok (q.2.1, q.2.2))) = true := by decide +kernel
def tL_houseText_21 : List (Nat × Instr × Nat) := [(407, .iconst 1, 1), (408, .iload 12, 2), (410, .ishl, 1), (411, .ior, 1), (412, .iastore, 1), (413, .aload_n 2, 1), (414, .bipush 6, 2), (416, .iload 12, 2), (418, .iadd, 1), (419, .dup2, 1), (420, .iaload, 1), (421, .iconst 1, 1)]
theorem dcL_houseText_21 : tL_houseText_21.all (fun q => decide (decode cL_houseText q.1 = .ok (q.2.1, q.2.2))) = true := by decide +kernel
def tL_houseText_22 : List (Nat × Instr × Nat) := [(422, .iload 11, 2), (424, .ishl, 1), (425, .ior, 1), (426, .iastore, 1), (427, .aload_n 3, 1), (428, .iload 6, 2), (430, .iinc 6 1, 3), (433, .aload_n 2, 1), (434, .bipush 15, 2), (436, .iaload, 1), (437, .ifCond .ne 8, 3), (440, .bipush 59, 2)]
theorem dcL_houseText_22 : tL_houseText_22.all (fun q => decide (decode cL_houseText q.1 = .ok (q.2.1, q.2.2))) = true := by decide +kernel
def tL_houseText_23 : List (Nat × Instr × Nat) := [(442, .goto 5, 3), (445, .bipush 44, 2), (447, .iastore, 1), (448, .aload_n 2, 1), (449, .bipush 15, 2), (451, .dup2, 1), (452, .iaload, 1), (453, .iconst 1, 1), (454, .iadd, 1), (455, .iastore, 1), (456, .aload_n 3, 1), (457, .iload 6, 2)]
theorem dcL_houseText_23 : tL_houseText_23.all (fun q => decide (decode cL_houseText q.1 = .ok (q.2.1, q.2.2))) = true := by decide +kernel
def tL_houseText_24 : List (Nat × Instr × Nat) := [(459, .iinc 6 1, 3), (462, .bipush 48, 2), (464, .iload 11, 2), (466, .iadd, 1), (467, .iastore, 1), (468, .aload_n 3, 1), (469, .iload 6, 2), (471, .iinc 6 1, 3), (474, .bipush 48, 2), (476, .iload 12, 2), (478, .iadd, 1), (479, .iastore, 1)]
theorem dcL_houseText_24 : tL_houseText_24.all (fun q => decide (decode cL_houseText q.1 = .ok (q.2.1, q.2.2))) = true := by decide +kernel
def tL_houseText_25 : List (Nat × Instr × Nat) := [(480, .iinc 10 1, 3), (483, .goto (-151), 3), (486, .iload 6, 2), (488, .ireturn, 1)]
theorem dcL_houseText_25 : tL_houseText_25.all (fun q => decide (decode cL_houseText q.1 = .ok (q.2.1, q.2.2))) = true := by decide +kernel
def tL_houseTexts : List (List (Nat × Instr × Nat)) := [tL_houseText_0, tL_houseText_1, tL_houseText_2, tL_houseText_3, tL_houseText_4, tL_houseText_5, tL_houseText_6, tL_houseText_7, tL_houseText_8, tL_houseText_9, tL_houseText_10, tL_houseText_11, tL_houseText_12, tL_houseText_13, tL_houseText_14, tL_houseText_15, tL_houseText_16, tL_houseText_17, tL_houseText_18, tL_houseText_19, tL_houseText_20, tL_houseText_21, tL_houseText_22, tL_houseText_23, tL_houseText_24, tL_houseText_25]
theorem dcL_houseTexts : ∀ t ∈ tL_houseTexts, t.all (fun q => decide (decode cL_houseText q.1 = .ok (q.2.1, q.2.2))) = true := List.forall_mem_cons.mpr ⟨dcL_houseText_0, List.forall_mem_cons.mpr ⟨dcL_houseText_1, List.forall_mem_cons.mpr ⟨dcL_houseText_2, List.forall_mem_cons.mpr ⟨dcL_houseText_3, List.forall_mem_cons.mpr ⟨dcL_houseText_4, List.forall_mem_cons.mpr ⟨dcL_houseText_5, List.forall_mem_cons.mpr ⟨dcL_houseText_6, List.forall_mem_cons.mpr ⟨dcL_houseText_7, List.forall_mem_cons.mpr ⟨dcL_houseText_8, List.forall_mem_cons.mpr ⟨dcL_houseText_9, List.forall_mem_cons.mpr ⟨dcL_houseText_10, List.forall_mem_cons.mpr ⟨dcL_houseText_11, List.forall_mem_cons.mpr ⟨dcL_houseText_12, List.forall_mem_cons.mpr ⟨dcL_houseText_13, List.forall_mem_cons.mpr ⟨dcL_houseText_14, List.forall_mem_cons.mpr ⟨dcL_houseText_15, List.forall_mem_cons.mpr ⟨dcL_houseText_16, List.forall_mem_cons.mpr ⟨dcL_houseText_17, List.forall_mem_cons.mpr ⟨dcL_houseText_18, List.forall_mem_cons.mpr ⟨dcL_houseText_19, List.forall_mem_cons.mpr ⟨dcL_houseText_20, List.forall_mem_cons.mpr ⟨dcL_houseText_21, List.forall_mem_cons.mpr ⟨dcL_houseText_22, List.forall_mem_cons.mpr ⟨dcL_houseText_23, List.forall_mem_cons.mpr ⟨dcL_houseText_24, List.forall_mem_cons.mpr ⟨dcL_houseText_25, fun _ h => absurd h List.not_mem_nil⟩⟩⟩⟩⟩⟩⟩⟩⟩⟩⟩⟩⟩⟩⟩⟩⟩⟩⟩⟩⟩⟩⟩⟩⟩⟩
def tL_houseText : List (Nat × Instr × Nat) := [(0, .aload_n 0, 1), (1, .iload_n 1, 1), (2, .invokestatic 8, 3), (5, .istore 4, 2), (7, .aload_n 0, 1), (8, .iload_n 1, 1), (9, .iconst 1, 1), (10, .iadd, 1), (11, .invokestatic 8, 3), (14, .istore 5, 2), (16, .iconst 0, 1), (17, .istore 6, 2), (19, .iconst 0, 1), (20, .istore 7, 2), (22, .iload 7, 2), (24, .bipush 36, 2), (26, .if_icmp .ge 14, 3), (29, .aload_n 2, 1), (30, .iload 7, 2), (32, .iconst 0, 1), (33, .iastore, 1), (34, .iinc 7 1, 3), (37, .goto (-15), 3), (40, .iconst 1, 1), (41, .iload 4, 2), (43, .bipush 10, 2), (45, .invokestatic 14, 3), (48, .iadd, 1), (49, .istore 7, 2), (51, .iconst 0, 1), (52, .istore 8, 2), (54, .iload 8, 2), (56, .iload 7, 2), (58, .if_icmp .ge 154, 3), (61, .iload 5, 2), (63, .iconst 3, 1), (64, .iload 8, 2), (66, .imul, 1), (67, .ishr, 1), (68, .bipush 6, 2), (70, .invokestatic 14, 3), (73, .istore 9, 2), (75, .iload 9, 2), (77, .iconst 1, 1), (78, .iadd, 1), (79, .iload 4, 2), (81, .iconst 2, 1), (82, .iconst 2, 1), (83, .iload 8, 2), (85, .imul, 1), (86, .iadd, 1), (87, .ishr, 1), (88, .iconst 5, 1), (89, .invokestatic 14, 3), (92, .iadd, 1), (93, .bipush 6, 2), (95, .irem, 1), (96, .istore 10, 2), (98, .aload_n 2, 1), (99, .iload 9, 2), (101, .iaload, 1), (102, .iload 10, 2), (104, .ishr, 1), (105, .iconst 1, 1), (106, .iand, 1), (107, .iconst 1, 1), (108, .if_icmp .ne 6, 3), (111, .goto 95, 3), (114, .aload_n 2, 1), (115, .iload 9, 2), (117, .dup2, 1), (118, .iaload, 1), (119, .iconst 1, 1), (120, .iload 10, 2), (122, .ishl, 1), (123, .ior, 1), (124, .iastore, 1), (125, .aload_n 2, 1), (126, .iload 10, 2), (128, .dup2, 1), (129, .iaload, 1), (130, .iconst 1, 1), (131, .iload 9, 2), (133, .ishl, 1), (134, .ior, 1), (135, .iastore, 1), (136, .aload_n 2, 1), (137, .bipush 14, 2), (139, .iaload, 1), (140, .ifCond .le 12, 3), (143, .aload_n 3, 1), (144, .iload 6, 2), (146, .iinc 6 1, 3), (149, .bipush 44, 2), (151, .iastore, 1), (152, .aload_n 2, 1), (153, .bipush 16, 2), (155, .aload_n 2, 1), (156, .bipush 14, 2), (158, .iaload, 1), (159, .iadd, 1), (160, .iload 9, 2), (162, .iastore, 1), (163, .aload_n 2, 1), (164, .bipush 26, 2), (166, .aload_n 2, 1), (167, .bipush 14, 2), (169, .iaload, 1), (170, .iadd, 1), (171, .iload 10, 2), (173, .iastore, 1), (174, .aload_n 2, 1), (175, .bipush 14, 2), (177, .dup2, 1), (178, .iaload, 1), (179, .iconst 1, 1), (180, .iadd, 1), (181, .iastore, 1), (182, .aload_n 3, 1), (183, .iload 6, 2), (185, .iinc 6 1, 3), (188, .bipush 48, 2), (190, .iload 9, 2), (192, .iadd, 1), (193, .iastore, 1), (194, .aload_n 3, 1), (195, .iload 6, 2), (197, .iinc 6 1, 3), (200, .bipush 48, 2), (202, .iload 10, 2), (204, .iadd, 1), (205, .iastore, 1), (206, .iinc 8 1, 3), (209, .goto (-155), 3), (212, .aload_n 0, 1), (213, .iload_n 1, 1), (214, .iconst 2, 1), (215, .iadd, 1), (216, .invokestatic 8, 3), (219, .istore 8, 2), (221, .aload_n 2, 1), (222, .bipush 12, 2), (224, .iload 8, 2), (226, .bipush 6, 2), (228, .invokestatic 14, 3), (231, .iastore, 1), (232, .aload_n 2, 1), (233, .bipush 13, 2), (235, .iconst 1, 1), (236, .iload 8, 2), (238, .iconst 3, 1), (239, .ishr, 1), (240, .iload 8, 2), (242, .bipush 7, 2), (244, .ishr, 1), (245, .iconst 2, 1), (246, .invokestatic 14, 3), (249, .ifCond .ne 8, 3), (252, .bipush 9, 2), (254, .goto 4, 3), (257, .iconst 3, 1), (258, .invokestatic 14, 3), (261, .iadd, 1), (262, .iastore, 1), (263, .aload_n 3, 1), (264, .iload 6, 2), (266, .iinc 6 1, 3), (269, .bipush 59, 2), (271, .iastore, 1), (272, .aload_n 3, 1), (273, .iload 6, 2), (275, .iinc 6 1, 3), (278, .bipush 48, 2), (280, .aload_n 2, 1), (281, .bipush 12, 2), (283, .iaload, 1), (284, .iadd, 1), (285, .iastore, 1), (286, .aload_n 3, 1), (287, .iload 6, 2), (289, .iinc 6 1, 3), (292, .bipush 48, 2), (294, .aload_n 2, 1), (295, .bipush 13, 2), (297, .iaload, 1), (298, .iadd, 1), (299, .iastore, 1), (300, .iload 8, 2), (302, .bipush 8, 2), (304, .ishr, 1), (305, .iconst 2, 1), (306, .invokestatic 14, 3), (309, .ifCond .ne 7, 3), (312, .iconst 0, 1), (313, .goto 14, 3), (316, .iconst 1, 1), (317, .iload 8, 2), (319, .bipush 9, 2), (321, .ishr, 1), (322, .iconst 4, 1), (323, .invokestatic 14, 3), (326, .iadd, 1), (327, .istore 9, 2), (329, .iconst 0, 1), (330, .istore 10, 2), (332, .iload 10, 2), (334, .iload 9, 2), (336, .if_icmp .ge 150, 3), (339, .iload 8, 2), (341, .bipush 11, 2), (343, .iconst 3, 1), (344, .iload 10, 2), (346, .imul, 1), (347, .iadd, 1), (348, .ishr, 1), (349, .bipush 6, 2), (351, .invokestatic 14, 3), (354, .istore 11, 2), (356, .iload 11, 2), (358, .iconst 1, 1), (359, .iadd, 1), (360, .iload 8, 2), (362, .bipush 13, 2), (364, .iconst 3, 1), (365, .iload 10, 2), (367, .imul, 1), (368, .iadd, 1), (369, .ishr, 1), (370, .iconst 5, 1), (371, .invokestatic 14, 3), (374, .iadd, 1), (375, .bipush 6, 2), (377, .irem, 1), (378, .istore 12, 2), (380, .aload_n 2, 1), (381, .bipush 6, 2), (383, .iload 11, 2), (385, .iadd, 1), (386, .iaload, 1), (387, .iload 12, 2), (389, .ishr, 1), (390, .iconst 1, 1), (391, .iand, 1), (392, .iconst 1, 1), (393, .if_icmp .ne 6, 3), (396, .goto 84, 3), (399, .aload_n 2, 1), (400, .bipush 6, 2), (402, .iload 11, 2), (404, .iadd, 1), (405, .dup2, 1), (406, .iaload, 1), (407, .iconst 1, 1), (408, .iload 12, 2), (410, .ishl, 1), (411, .ior, 1), (412, .iastore, 1), (413, .aload_n 2, 1), (414, .bipush 6, 2), (416, .iload 12, 2), (418, .iadd, 1), (419, .dup2, 1), (420, .iaload, 1), (421, .iconst 1, 1), (422, .iload 11, 2), (424, .ishl, 1), (425, .ior, 1), (426, .iastore, 1), (427, .aload_n 3, 1), (428, .iload 6, 2), (430, .iinc 6 1, 3), (433, .aload_n 2, 1), (434, .bipush 15, 2), (436, .iaload, 1), (437, .ifCond .ne 8, 3), (440, .bipush 59, 2), (442, .goto 5, 3), (445, .bipush 44, 2), (447, .iastore, 1), (448, .aload_n 2, 1), (449, .bipush 15, 2), (451, .dup2, 1), (452, .iaload, 1), (453, .iconst 1, 1), (454, .iadd, 1), (455, .iastore, 1), (456, .aload_n 3, 1), (457, .iload 6, 2), (459, .iinc 6 1, 3), (462, .bipush 48, 2), (464, .iload 11, 2), (466, .iadd, 1), (467, .iastore, 1), (468, .aload_n 3, 1), (469, .iload 6, 2), (471, .iinc 6 1, 3), (474, .bipush 48, 2), (476, .iload 12, 2), (478, .iadd, 1), (479, .iastore, 1), (480, .iinc 10 1, 3), (483, .goto (-151), 3), (486, .iload 6, 2), (488, .ireturn, 1)]
set_option maxRecDepth 100000 in
theorem tL_houseText_eq : tL_houseText = tL_houseTexts.flatten := rfl
def mL_houseText : xM := (yL_houseText, cL_houseText, 13, (some .int), 4, tL_houseText)
theorem decL_houseText : ∀ pc i n, xfetch mL_houseText pc = some (i, n) → decode mL_houseText.2.1 pc = .ok (i, n) := by
  refine xfetch_of ?_
  show tL_houseText.all _ = true
  rw [tL_houseText_eq, List.all_eq_true]
  intro q hq
  obtain ⟨t, ht, hqt⟩ := List.mem_flatten.mp hq
  exact List.all_eq_true.mp (dcL_houseTexts t ht) q hqt
theorem okL_houseText : xmOk mL_houseText := ⟨w610, ⟨by decide +kernel, by decide +kernel, by decide +kernel⟩, by decide, by decide +kernel, decL_houseText⟩
def tL_write_0 : List (Nat × Instr × Nat) := [(0, .iconst 0, 1), (1, .istore_n 3, 1), (2, .iload_n 3, 1), (3, .iload_n 2, 1), (4, .if_icmp .ge 25, 3), (7, .aload_n 0, 1), (8, .aload_n 1, 1), (9, .iload_n 3, 1), (10, .iaload, 1), (11, .i2l, 1), (12, .invokevirtual 18, 3), (15, .iload_n 3, 1)]
theorem dcL_write_0 : tL_write_0.all (fun q => decide (decode cL_write q.1 = .ok (q.2.1, q.2.2))) = true := by decide +kernel
def tL_write_1 : List (Nat × Instr × Nat) := [(16, .iconst 1, 1), (17, .iadd, 1), (18, .if_icmp .eq 5, 3), (21, .iconst 0, 1), (22, .ireturn, 1), (23, .iinc 3 1, 3), (26, .goto (-24), 3), (29, .iconst 1, 1), (30, .ireturn, 1)]
theorem dcL_write_1 : tL_write_1.all (fun q => decide (decode cL_write q.1 = .ok (q.2.1, q.2.2))) = true := by decide +kernel
def tL_writes : List (List (Nat × Instr × Nat)) := [tL_write_0, tL_write_1]
theorem dcL_writes : ∀ t ∈ tL_writes, t.all (fun q => decide (decode cL_write q.1 = .ok (q.2.1, q.2.2))) = true := List.forall_mem_cons.mpr ⟨dcL_write_0, List.forall_mem_cons.mpr ⟨dcL_write_1, fun _ h => absurd h List.not_mem_nil⟩⟩
def tL_write : List (Nat × Instr × Nat) := [(0, .iconst 0, 1), (1, .istore_n 3, 1), (2, .iload_n 3, 1), (3, .iload_n 2, 1), (4, .if_icmp .ge 25, 3), (7, .aload_n 0, 1), (8, .aload_n 1, 1), (9, .iload_n 3, 1), (10, .iaload, 1), (11, .i2l, 1), (12, .invokevirtual 18, 3), (15, .iload_n 3, 1), (16, .iconst 1, 1), (17, .iadd, 1), (18, .if_icmp .eq 5, 3), (21, .iconst 0, 1), (22, .ireturn, 1), (23, .iinc 3 1, 3), (26, .goto (-24), 3), (29, .iconst 1, 1), (30, .ireturn, 1)]
set_option maxRecDepth 100000 in
theorem tL_write_eq : tL_write = tL_writes.flatten := rfl
def mL_write : xM := (yL_write, cL_write, 4, (some .boolean), 3, tL_write)
theorem decL_write : ∀ pc i n, xfetch mL_write pc = some (i, n) → decode mL_write.2.1 pc = .ok (i, n) := by
  refine xfetch_of ?_
  show tL_write.all _ = true
  rw [tL_write_eq, List.all_eq_true]
  intro q hq
  obtain ⟨t, ht, hqt⟩ := List.mem_flatten.mp hq
  exact List.all_eq_true.mp (dcL_writes t ht) q hqt
theorem okL_write : xmOk mL_write := ⟨w613, ⟨by decide +kernel, by decide +kernel, by decide +kernel⟩, by decide, by decide +kernel, decL_write⟩
def tL_back_0 : List (Nat × Instr × Nat) := [(0, .iload_n 1, 1), (1, .iconst 2, 1), (2, .if_icmp .ne 12, 3), (5, .aload_n 0, 1), (6, .bipush 13, 2), (8, .iaload, 1), (9, .iconst 1, 1), (10, .iadd, 1), (11, .goto 7, 3), (14, .aload_n 0, 1), (15, .bipush 13, 2), (17, .iaload, 1)]
theorem dcL_back_0 : tL_back_0.all (fun q => decide (decode cL_back q.1 = .ok (q.2.1, q.2.2))) = true := by decide +kernel
def tL_back_1 : List (Nat × Instr × Nat) := [(18, .ireturn, 1)]
theorem dcL_back_1 : tL_back_1.all (fun q => decide (decode cL_back q.1 = .ok (q.2.1, q.2.2))) = true := by decide +kernel
def tL_backs : List (List (Nat × Instr × Nat)) := [tL_back_0, tL_back_1]
theorem dcL_backs : ∀ t ∈ tL_backs, t.all (fun q => decide (decode cL_back q.1 = .ok (q.2.1, q.2.2))) = true := List.forall_mem_cons.mpr ⟨dcL_back_0, List.forall_mem_cons.mpr ⟨dcL_back_1, fun _ h => absurd h List.not_mem_nil⟩⟩
def tL_back : List (Nat × Instr × Nat) := [(0, .iload_n 1, 1), (1, .iconst 2, 1), (2, .if_icmp .ne 12, 3), (5, .aload_n 0, 1), (6, .bipush 13, 2), (8, .iaload, 1), (9, .iconst 1, 1), (10, .iadd, 1), (11, .goto 7, 3), (14, .aload_n 0, 1), (15, .bipush 13, 2), (17, .iaload, 1), (18, .ireturn, 1)]
set_option maxRecDepth 100000 in
theorem tL_back_eq : tL_back = tL_backs.flatten := rfl
def mL_back : xM := (yL_back, cL_back, 2, (some .int), 2, tL_back)
theorem decL_back : ∀ pc i n, xfetch mL_back pc = some (i, n) → decode mL_back.2.1 pc = .ok (i, n) := by
  refine xfetch_of ?_
  show tL_back.all _ = true
  rw [tL_back_eq, List.all_eq_true]
  intro q hq
  obtain ⟨t, ht, hqt⟩ := List.mem_flatten.mp hq
  exact List.all_eq_true.mp (dcL_backs t ht) q hqt
theorem okL_back : xmOk mL_back := ⟨w634, ⟨by decide +kernel, by decide +kernel, by decide +kernel⟩, by decide, by decide +kernel, decL_back⟩
def tL_step_0 : List (Nat × Instr × Nat) := [(0, .iload_n 2, 1), (1, .bipush 8, 2), (3, .idiv, 1), (4, .istore 4, 2), (6, .iload_n 2, 1), (7, .bipush 8, 2), (9, .irem, 1), (10, .istore 5, 2), (12, .iload_n 3, 1), (13, .bipush 7, 2), (15, .if_icmp .ne 37, 3), (18, .iload 5, 2)]
theorem dcL_step_0 : tL_step_0.all (fun q => decide (decode cL_step q.1 = .ok (q.2.1, q.2.2))) = true := by decide +kernel
def tL_step_1 : List (Nat × Instr × Nat) := [(20, .aload_n 0, 1), (21, .bipush 12, 2), (23, .iaload, 1), (24, .if_icmp .ne 26, 3), (27, .iload 4, 2), (29, .aload_n 0, 1), (30, .iload_n 1, 1), (31, .invokestatic 24, 3), (34, .if_icmp .lt 16, 3), (37, .iload_n 2, 1), (38, .bipush 8, 2), (40, .aload_n 0, 1)]
theorem dcL_step_1 : tL_step_1.all (fun q => decide (decode cL_step q.1 = .ok (q.2.1, q.2.2))) = true := by decide +kernel
def tL_step_2 : List (Nat × Instr × Nat) := [(41, .iload_n 1, 1), (42, .invokestatic 24, 3), (45, .imul, 1), (46, .isub, 1), (47, .goto 4, 3), (50, .iconst (-1), 1), (51, .ireturn, 1), (52, .iload 4, 2), (54, .bipush 59, 2), (56, .if_icmp .eq 20, 3), (59, .iload_n 3, 1), (60, .bipush 6, 2)]
theorem dcL_step_2 : tL_step_2.all (fun q => decide (decode cL_step q.1 = .ok (q.2.1, q.2.2))) = true := by decide +kernel
def tL_step_3 : List (Nat × Instr × Nat) := [(62, .if_icmp .ge 16, 3), (65, .aload_n 0, 1), (66, .iload 5, 2), (68, .iaload, 1), (69, .iload_n 3, 1), (70, .ishr, 1), (71, .iconst 1, 1), (72, .iand, 1), (73, .ifCond .ne 5, 3), (76, .iconst (-1), 1), (77, .ireturn, 1), (78, .bipush 8, 2)]
theorem dcL_step_3 : tL_step_3.all (fun q => decide (decode cL_step q.1 = .ok (q.2.1, q.2.2))) = true := by decide +kernel
def tL_step_4 : List (Nat × Instr × Nat) := [(80, .iload 4, 2), (82, .iconst 1, 1), (83, .iadd, 1), (84, .imul, 1), (85, .iload_n 3, 1), (86, .bipush 6, 2), (88, .if_icmp .ne 8, 3), (91, .iload 5, 2), (93, .goto 4, 3), (96, .iload_n 3, 1), (97, .iadd, 1), (98, .ireturn, 1)]
theorem dcL_step_4 : tL_step_4.all (fun q => decide (decode cL_step q.1 = .ok (q.2.1, q.2.2))) = true := by decide +kernel
def tL_steps : List (List (Nat × Instr × Nat)) := [tL_step_0, tL_step_1, tL_step_2, tL_step_3, tL_step_4]
theorem dcL_steps : ∀ t ∈ tL_steps, t.all (fun q => decide (decode cL_step q.1 = .ok (q.2.1, q.2.2))) = true := List.forall_mem_cons.mpr ⟨dcL_step_0, List.forall_mem_cons.mpr ⟨dcL_step_1, List.forall_mem_cons.mpr ⟨dcL_step_2, List.forall_mem_cons.mpr ⟨dcL_step_3, List.forall_mem_cons.mpr ⟨dcL_step_4, fun _ h => absurd h List.not_mem_nil⟩⟩⟩⟩⟩
def tL_step : List (Nat × Instr × Nat) := [(0, .iload_n 2, 1), (1, .bipush 8, 2), (3, .idiv, 1), (4, .istore 4, 2), (6, .iload_n 2, 1), (7, .bipush 8, 2), (9, .irem, 1), (10, .istore 5, 2), (12, .iload_n 3, 1), (13, .bipush 7, 2), (15, .if_icmp .ne 37, 3), (18, .iload 5, 2), (20, .aload_n 0, 1), (21, .bipush 12, 2), (23, .iaload, 1), (24, .if_icmp .ne 26, 3), (27, .iload 4, 2), (29, .aload_n 0, 1), (30, .iload_n 1, 1), (31, .invokestatic 24, 3), (34, .if_icmp .lt 16, 3), (37, .iload_n 2, 1), (38, .bipush 8, 2), (40, .aload_n 0, 1), (41, .iload_n 1, 1), (42, .invokestatic 24, 3), (45, .imul, 1), (46, .isub, 1), (47, .goto 4, 3), (50, .iconst (-1), 1), (51, .ireturn, 1), (52, .iload 4, 2), (54, .bipush 59, 2), (56, .if_icmp .eq 20, 3), (59, .iload_n 3, 1), (60, .bipush 6, 2), (62, .if_icmp .ge 16, 3), (65, .aload_n 0, 1), (66, .iload 5, 2), (68, .iaload, 1), (69, .iload_n 3, 1), (70, .ishr, 1), (71, .iconst 1, 1), (72, .iand, 1), (73, .ifCond .ne 5, 3), (76, .iconst (-1), 1), (77, .ireturn, 1), (78, .bipush 8, 2), (80, .iload 4, 2), (82, .iconst 1, 1), (83, .iadd, 1), (84, .imul, 1), (85, .iload_n 3, 1), (86, .bipush 6, 2), (88, .if_icmp .ne 8, 3), (91, .iload 5, 2), (93, .goto 4, 3), (96, .iload_n 3, 1), (97, .iadd, 1), (98, .ireturn, 1)]
set_option maxRecDepth 100000 in
theorem tL_step_eq : tL_step = tL_steps.flatten := rfl
def mL_step : xM := (yL_step, cL_step, 6, (some .int), 4, tL_step)
theorem decL_step : ∀ pc i n, xfetch mL_step pc = some (i, n) → decode mL_step.2.1 pc = .ok (i, n) := by
  refine xfetch_of ?_
  show tL_step.all _ = true
  rw [tL_step_eq, List.all_eq_true]
  intro q hq
  obtain ⟨t, ht, hqt⟩ := List.mem_flatten.mp hq
  exact List.all_eq_true.mp (dcL_steps t ht) q hqt
theorem okL_step : xmOk mL_step := ⟨w631, ⟨by decide +kernel, by decide +kernel, by decide +kernel⟩, by decide, by decide +kernel, decL_step⟩
def tL_lifeText_0 : List (Nat × Instr × Nat) := [(0, .bipush 8, 2), (2, .iconst 3, 1), (3, .iload_n 0, 1), (4, .bipush 50, 2), (6, .invokestatic 14, 3), (9, .iadd, 1), (10, .imul, 1), (11, .iload_n 0, 1), (12, .bipush 8, 2), (14, .ishr, 1), (15, .iconst 3, 1), (16, .invokestatic 14, 3)]
theorem dcL_lifeText_0 : tL_lifeText_0.all (fun q => decide (decode cL_lifeText q.1 = .ok (q.2.1, q.2.2))) = true := by decide +kernel
def tL_lifeText_1 : List (Nat × Instr × Nat) := [(19, .ifCond .ne 10, 3), (22, .aload_n 3, 1), (23, .bipush 12, 2), (25, .iaload, 1), (26, .goto 12, 3), (29, .iload_n 0, 1), (30, .bipush 9, 2), (32, .ishr, 1), (33, .bipush 6, 2), (35, .invokestatic 14, 3), (38, .iadd, 1), (39, .istore 9, 2)]
theorem dcL_lifeText_1 : tL_lifeText_1.all (fun q => decide (decode cL_lifeText q.1 = .ok (q.2.1, q.2.2))) = true := by decide +kernel
def tL_lifeText_2 : List (Nat × Instr × Nat) := [(41, .iconst 0, 1), (42, .istore 10, 2), (44, .aload 8, 2), (46, .iload 10, 2), (48, .iinc 10 1, 3), (51, .bipush 48, 2), (53, .iload 9, 2), (55, .bipush 80, 2), (57, .idiv, 1), (58, .iadd, 1), (59, .iastore, 1), (60, .aload 8, 2)]
theorem dcL_lifeText_2 : tL_lifeText_2.all (fun q => decide (decode cL_lifeText q.1 = .ok (q.2.1, q.2.2))) = true := by decide +kernel
def tL_lifeText_3 : List (Nat × Instr × Nat) := [(62, .iload 10, 2), (64, .iinc 10 1, 3), (67, .bipush 48, 2), (69, .iload 9, 2), (71, .bipush 8, 2), (73, .idiv, 1), (74, .bipush 10, 2), (76, .irem, 1), (77, .iadd, 1), (78, .iastore, 1), (79, .aload 8, 2), (81, .iload 10, 2)]
theorem dcL_lifeText_3 : tL_lifeText_3.all (fun q => decide (decode cL_lifeText q.1 = .ok (q.2.1, q.2.2))) = true := by decide +kernel
def tL_lifeText_4 : List (Nat × Instr × Nat) := [(83, .iinc 10 1, 3), (86, .bipush 48, 2), (88, .iload 9, 2), (90, .bipush 8, 2), (92, .irem, 1), (93, .iadd, 1), (94, .iastore, 1), (95, .aload 6, 2), (97, .iconst 5, 1), (98, .iload 5, 2), (100, .iadd, 1), (101, .iconst 1, 1)]
theorem dcL_lifeText_4 : tL_lifeText_4.all (fun q => decide (decode cL_lifeText q.1 = .ok (q.2.1, q.2.2))) = true := by decide +kernel
def tL_lifeText_5 : List (Nat × Instr × Nat) := [(102, .iastore, 1), (103, .aload 7, 2), (105, .bipush 17, 2), (107, .iload 5, 2), (109, .imul, 1), (110, .iload 9, 2), (112, .iastore, 1), (113, .iload_n 0, 1), (114, .bipush 12, 2), (116, .ishr, 1), (117, .bipush 17, 2), (119, .invokestatic 14, 3)]
theorem dcL_lifeText_5 : tL_lifeText_5.all (fun q => decide (decode cL_lifeText q.1 = .ok (q.2.1, q.2.2))) = true := by decide +kernel
def tL_lifeText_6 : List (Nat × Instr × Nat) := [(122, .istore 11, 2), (124, .iconst 0, 1), (125, .istore 12, 2), (127, .iload 12, 2), (129, .iload 11, 2), (131, .if_icmp .ge 175, 3), (134, .iload 12, 2), (136, .bipush 8, 2), (138, .if_icmp .ge 7, 3), (141, .iload_n 1, 1), (142, .goto 4, 3), (145, .iload_n 2, 1)]
theorem dcL_lifeText_6 : tL_lifeText_6.all (fun q => decide (decode cL_lifeText q.1 = .ok (q.2.1, q.2.2))) = true := by decide +kernel
def tL_lifeText_7 : List (Nat × Instr × Nat) := [(146, .iconst 3, 1), (147, .iload 12, 2), (149, .bipush 8, 2), (151, .irem, 1), (152, .imul, 1), (153, .ishr, 1), (154, .bipush 8, 2), (156, .invokestatic 14, 3), (159, .istore 13, 2), (161, .iconst (-1), 1), (162, .istore 14, 2), (164, .iconst 0, 1)]
theorem dcL_lifeText_7 : tL_lifeText_7.all (fun q => decide (decode cL_lifeText q.1 = .ok (q.2.1, q.2.2))) = true := by decide +kernel
def tL_lifeText_8 : List (Nat × Instr × Nat) := [(165, .istore 15, 2), (167, .iload 15, 2), (169, .bipush 8, 2), (171, .if_icmp .ge 49, 3), (174, .iload 14, 2), (176, .ifCond .ge 44, 3), (179, .aload_n 3, 1), (180, .iload 4, 2), (182, .iload 9, 2), (184, .iload 13, 2), (186, .bipush 7, 2), (188, .iload 15, 2)]
theorem dcL_lifeText_8 : tL_lifeText_8.all (fun q => decide (decode cL_lifeText q.1 = .ok (q.2.1, q.2.2))) = true := by decide +kernel
def tL_lifeText_9 : List (Nat × Instr × Nat) := [(190, .imul, 1), (191, .iadd, 1), (192, .bipush 8, 2), (194, .irem, 1), (195, .invokestatic 27, 3), (198, .ifCond .lt 16, 3), (201, .iload 13, 2), (203, .bipush 7, 2), (205, .iload 15, 2), (207, .imul, 1), (208, .iadd, 1), (209, .bipush 8, 2)]
theorem dcL_lifeText_9 : tL_lifeText_9.all (fun q => decide (decode cL_lifeText q.1 = .ok (q.2.1, q.2.2))) = true := by decide +kernel
def tL_lifeText_10 : List (Nat × Instr × Nat) := [(211, .irem, 1), (212, .istore 14, 2), (214, .iinc 15 1, 3), (217, .goto (-50), 3), (220, .iload 14, 2), (222, .ifCond .ge 6, 3), (225, .goto 75, 3), (228, .aload_n 3, 1), (229, .iload 4, 2), (231, .iload 9, 2), (233, .iload 14, 2), (235, .invokestatic 27, 3)]
theorem dcL_lifeText_10 : tL_lifeText_10.all (fun q => decide (decode cL_lifeText q.1 = .ok (q.2.1, q.2.2))) = true := by decide +kernel
def tL_lifeText_11 : List (Nat × Instr × Nat) := [(238, .istore 9, 2), (240, .aload 7, 2), (242, .bipush 17, 2), (244, .iload 5, 2), (246, .imul, 1), (247, .aload 6, 2), (249, .iconst 5, 1), (250, .iload 5, 2), (252, .iadd, 1), (253, .dup2, 1), (254, .iaload, 1), (255, .dup_x2, 1)]
theorem dcL_lifeText_11 : tL_lifeText_11.all (fun q => decide (decode cL_lifeText q.1 = .ok (q.2.1, q.2.2))) = true := by decide +kernel
def tL_lifeText_12 : List (Nat × Instr × Nat) := [(256, .iconst 1, 1), (257, .iadd, 1), (258, .iastore, 1), (259, .iadd, 1), (260, .iload 9, 2), (262, .iastore, 1), (263, .aload 8, 2), (265, .iload 10, 2), (267, .iinc 10 1, 3), (270, .iload 14, 2), (272, .bipush 6, 2), (274, .if_icmp .ne 8, 3)]
theorem dcL_lifeText_12 : tL_lifeText_12.all (fun q => decide (decode cL_lifeText q.1 = .ok (q.2.1, q.2.2))) = true := by decide +kernel
def tL_lifeText_13 : List (Nat × Instr × Nat) := [(277, .bipush 46, 2), (279, .goto 20, 3), (282, .iload 14, 2), (284, .bipush 7, 2), (286, .if_icmp .ne 8, 3), (289, .bipush 116, 2), (291, .goto 8, 3), (294, .bipush 48, 2), (296, .iload 14, 2), (298, .iadd, 1), (299, .iastore, 1), (300, .iinc 12 1, 3)]
theorem dcL_lifeText_13 : tL_lifeText_13.all (fun q => decide (decode cL_lifeText q.1 = .ok (q.2.1, q.2.2))) = true := by decide +kernel
def tL_lifeText_14 : List (Nat × Instr × Nat) := [(303, .goto (-176), 3), (306, .iload 10, 2), (308, .ireturn, 1)]
theorem dcL_lifeText_14 : tL_lifeText_14.all (fun q => decide (decode cL_lifeText q.1 = .ok (q.2.1, q.2.2))) = true := by decide +kernel
def tL_lifeTexts : List (List (Nat × Instr × Nat)) := [tL_lifeText_0, tL_lifeText_1, tL_lifeText_2, tL_lifeText_3, tL_lifeText_4, tL_lifeText_5, tL_lifeText_6, tL_lifeText_7, tL_lifeText_8, tL_lifeText_9, tL_lifeText_10, tL_lifeText_11, tL_lifeText_12, tL_lifeText_13, tL_lifeText_14]
theorem dcL_lifeTexts : ∀ t ∈ tL_lifeTexts, t.all (fun q => decide (decode cL_lifeText q.1 = .ok (q.2.1, q.2.2))) = true := List.forall_mem_cons.mpr ⟨dcL_lifeText_0, List.forall_mem_cons.mpr ⟨dcL_lifeText_1, List.forall_mem_cons.mpr ⟨dcL_lifeText_2, List.forall_mem_cons.mpr ⟨dcL_lifeText_3, List.forall_mem_cons.mpr ⟨dcL_lifeText_4, List.forall_mem_cons.mpr ⟨dcL_lifeText_5, List.forall_mem_cons.mpr ⟨dcL_lifeText_6, List.forall_mem_cons.mpr ⟨dcL_lifeText_7, List.forall_mem_cons.mpr ⟨dcL_lifeText_8, List.forall_mem_cons.mpr ⟨dcL_lifeText_9, List.forall_mem_cons.mpr ⟨dcL_lifeText_10, List.forall_mem_cons.mpr ⟨dcL_lifeText_11, List.forall_mem_cons.mpr ⟨dcL_lifeText_12, List.forall_mem_cons.mpr ⟨dcL_lifeText_13, List.forall_mem_cons.mpr ⟨dcL_lifeText_14, fun _ h => absurd h List.not_mem_nil⟩⟩⟩⟩⟩⟩⟩⟩⟩⟩⟩⟩⟩⟩⟩
def tL_lifeText : List (Nat × Instr × Nat) := [(0, .bipush 8, 2), (2, .iconst 3, 1), (3, .iload_n 0, 1), (4, .bipush 50, 2), (6, .invokestatic 14, 3), (9, .iadd, 1), (10, .imul, 1), (11, .iload_n 0, 1), (12, .bipush 8, 2), (14, .ishr, 1), (15, .iconst 3, 1), (16, .invokestatic 14, 3), (19, .ifCond .ne 10, 3), (22, .aload_n 3, 1), (23, .bipush 12, 2), (25, .iaload, 1), (26, .goto 12, 3), (29, .iload_n 0, 1), (30, .bipush 9, 2), (32, .ishr, 1), (33, .bipush 6, 2), (35, .invokestatic 14, 3), (38, .iadd, 1), (39, .istore 9, 2), (41, .iconst 0, 1), (42, .istore 10, 2), (44, .aload 8, 2), (46, .iload 10, 2), (48, .iinc 10 1, 3), (51, .bipush 48, 2), (53, .iload 9, 2), (55, .bipush 80, 2), (57, .idiv, 1), (58, .iadd, 1), (59, .iastore, 1), (60, .aload 8, 2), (62, .iload 10, 2), (64, .iinc 10 1, 3), (67, .bipush 48, 2), (69, .iload 9, 2), (71, .bipush 8, 2), (73, .idiv, 1), (74, .bipush 10, 2), (76, .irem, 1), (77, .iadd, 1), (78, .iastore, 1), (79, .aload 8, 2), (81, .iload 10, 2), (83, .iinc 10 1, 3), (86, .bipush 48, 2), (88, .iload 9, 2), (90, .bipush 8, 2), (92, .irem, 1), (93, .iadd, 1), (94, .iastore, 1), (95, .aload 6, 2), (97, .iconst 5, 1), (98, .iload 5, 2), (100, .iadd, 1), (101, .iconst 1, 1), (102, .iastore, 1), (103, .aload 7, 2), (105, .bipush 17, 2), (107, .iload 5, 2), (109, .imul, 1), (110, .iload 9, 2), (112, .iastore, 1), (113, .iload_n 0, 1), (114, .bipush 12, 2), (116, .ishr, 1), (117, .bipush 17, 2), (119, .invokestatic 14, 3), (122, .istore 11, 2), (124, .iconst 0, 1), (125, .istore 12, 2), (127, .iload 12, 2), (129, .iload 11, 2), (131, .if_icmp .ge 175, 3), (134, .iload 12, 2), (136, .bipush 8, 2), (138, .if_icmp .ge 7, 3), (141, .iload_n 1, 1), (142, .goto 4, 3), (145, .iload_n 2, 1), (146, .iconst 3, 1), (147, .iload 12, 2), (149, .bipush 8, 2), (151, .irem, 1), (152, .imul, 1), (153, .ishr, 1), (154, .bipush 8, 2), (156, .invokestatic 14, 3), (159, .istore 13, 2), (161, .iconst (-1), 1), (162, .istore 14, 2), (164, .iconst 0, 1), (165, .istore 15, 2), (167, .iload 15, 2), (169, .bipush 8, 2), (171, .if_icmp .ge 49, 3), (174, .iload 14, 2), (176, .ifCond .ge 44, 3), (179, .aload_n 3, 1), (180, .iload 4, 2), (182, .iload 9, 2), (184, .iload 13, 2), (186, .bipush 7, 2), (188, .iload 15, 2), (190, .imul, 1), (191, .iadd, 1), (192, .bipush 8, 2), (194, .irem, 1), (195, .invokestatic 27, 3), (198, .ifCond .lt 16, 3), (201, .iload 13, 2), (203, .bipush 7, 2), (205, .iload 15, 2), (207, .imul, 1), (208, .iadd, 1), (209, .bipush 8, 2), (211, .irem, 1), (212, .istore 14, 2), (214, .iinc 15 1, 3), (217, .goto (-50), 3), (220, .iload 14, 2), (222, .ifCond .ge 6, 3), (225, .goto 75, 3), (228, .aload_n 3, 1), (229, .iload 4, 2), (231, .iload 9, 2), (233, .iload 14, 2), (235, .invokestatic 27, 3), (238, .istore 9, 2), (240, .aload 7, 2), (242, .bipush 17, 2), (244, .iload 5, 2), (246, .imul, 1), (247, .aload 6, 2), (249, .iconst 5, 1), (250, .iload 5, 2), (252, .iadd, 1), (253, .dup2, 1), (254, .iaload, 1), (255, .dup_x2, 1), (256, .iconst 1, 1), (257, .iadd, 1), (258, .iastore, 1), (259, .iadd, 1), (260, .iload 9, 2), (262, .iastore, 1), (263, .aload 8, 2), (265, .iload 10, 2), (267, .iinc 10 1, 3), (270, .iload 14, 2), (272, .bipush 6, 2), (274, .if_icmp .ne 8, 3), (277, .bipush 46, 2), (279, .goto 20, 3), (282, .iload 14, 2), (284, .bipush 7, 2), (286, .if_icmp .ne 8, 3), (289, .bipush 116, 2), (291, .goto 8, 3), (294, .bipush 48, 2), (296, .iload 14, 2), (298, .iadd, 1), (299, .iastore, 1), (300, .iinc 12 1, 3), (303, .goto (-176), 3), (306, .iload 10, 2), (308, .ireturn, 1)]
set_option maxRecDepth 100000 in
theorem tL_lifeText_eq : tL_lifeText = tL_lifeTexts.flatten := rfl
def mL_lifeText : xM := (yL_lifeText, cL_lifeText, 16, (some .int), 9, tL_lifeText)
theorem decL_lifeText : ∀ pc i n, xfetch mL_lifeText pc = some (i, n) → decode mL_lifeText.2.1 pc = .ok (i, n) := by
  refine xfetch_of ?_
  show tL_lifeText.all _ = true
  rw [tL_lifeText_eq, List.all_eq_true]
  intro q hq
  obtain ⟨t, ht, hqt⟩ := List.mem_flatten.mp hq
  exact List.all_eq_true.mp (dcL_lifeTexts t ht) q hqt
theorem okL_lifeText : xmOk mL_lifeText := ⟨w640, ⟨by decide +kernel, by decide +kernel, by decide +kernel⟩, by decide, by decide +kernel, decL_lifeText⟩
def tL_people_0 : List (Nat × Instr × Nat) := [(0, .iload_n 3, 1), (1, .aload_n 1, 1), (2, .iload_n 2, 1), (3, .invokestatic 8, 3), (6, .iconst 4, 1), (7, .iload_n 3, 1), (8, .isub, 1), (9, .invokestatic 14, 3), (12, .iadd, 1), (13, .istore 8, 2), (15, .iconst 0, 1), (16, .istore 9, 2)]
theorem dcL_people_0 : tL_people_0.all (fun q => decide (decode cL_people q.1 = .ok (q.2.1, q.2.2))) = true := by decide +kernel
def tL_people_1 : List (Nat × Instr × Nat) := [(18, .iload 9, 2), (20, .iload 8, 2), (22, .if_icmp .ge 200, 3), (25, .aload_n 1, 1), (26, .iload_n 2, 1), (27, .iconst 1, 1), (28, .iadd, 1), (29, .iconst 3, 1), (30, .iload 9, 2), (32, .imul, 1), (33, .iadd, 1), (34, .invokestatic 8, 3)]
theorem dcL_people_1 : tL_people_1.all (fun q => decide (decode cL_people q.1 = .ok (q.2.1, q.2.2))) = true := by decide +kernel
def tL_people_2 : List (Nat × Instr × Nat) := [(37, .istore 10, 2), (39, .aload_n 1, 1), (40, .iload_n 2, 1), (41, .invokestatic 8, 3), (44, .iconst 3, 1), (45, .iconst 3, 1), (46, .iload 9, 2), (48, .imul, 1), (49, .iadd, 1), (50, .ishr, 1), (51, .bipush 7, 2), (53, .invokestatic 14, 3)]
theorem dcL_people_2 : tL_people_2.all (fun q => decide (decode cL_people q.1 = .ok (q.2.1, q.2.2))) = true := by decide +kernel
def tL_people_3 : List (Nat × Instr × Nat) := [(56, .istore 11, 2), (58, .aload 5, 2), (60, .iconst 1, 1), (61, .iload 9, 2), (63, .iadd, 1), (64, .iload 11, 2), (66, .iconst 3, 1), (67, .if_icmp .ge 7, 3), (70, .iconst 0, 1), (71, .goto 7, 3), (74, .iload 11, 2), (76, .iconst 2, 1)]
theorem dcL_people_3 : tL_people_3.all (fun q => decide (decode cL_people q.1 = .ok (q.2.1, q.2.2))) = true := by decide +kernel
def tL_people_4 : List (Nat × Instr × Nat) := [(77, .isub, 1), (78, .iastore, 1), (79, .aload 5, 2), (81, .iconst 5, 1), (82, .iload 9, 2), (84, .iadd, 1), (85, .iconst 0, 1), (86, .iastore, 1), (87, .aload_n 0, 1), (88, .aload 5, 2), (90, .iconst 1, 1), (91, .iload 9, 2)]
theorem dcL_people_4 : tL_people_4.all (fun q => decide (decode cL_people q.1 = .ok (q.2.1, q.2.2))) = true := by decide +kernel
def tL_people_5 : List (Nat × Instr × Nat) := [(93, .iadd, 1), (94, .iaload, 1), (95, .invokevirtual 31, 3), (98, .iload 9, 2), (100, .if_icmp .eq 5, 3), (103, .iconst 0, 1), (104, .ireturn, 1), (105, .aload 5, 2), (107, .iconst 0, 1), (108, .dup2, 1), (109, .iaload, 1), (110, .iconst 1, 1)]
theorem dcL_people_5 : tL_people_5.all (fun q => decide (decode cL_people q.1 = .ok (q.2.1, q.2.2))) = true := by decide +kernel
def tL_people_6 : List (Nat × Instr × Nat) := [(111, .iadd, 1), (112, .iastore, 1), (113, .iload 10, 2), (115, .bipush 18, 2), (117, .ishr, 1), (118, .bipush 6, 2), (120, .invokestatic 14, 3), (123, .ifCond .ne 6, 3), (126, .goto 90, 3), (129, .iload 10, 2), (131, .aload_n 1, 1), (132, .iload_n 2, 1)]
theorem dcL_people_6 : tL_people_6.all (fun q => decide (decode cL_people q.1 = .ok (q.2.1, q.2.2))) = true := by decide +kernel
def tL_people_7 : List (Nat × Instr × Nat) := [(133, .iconst 2, 1), (134, .iadd, 1), (135, .iconst 3, 1), (136, .iload 9, 2), (138, .imul, 1), (139, .iadd, 1), (140, .invokestatic 8, 3), (143, .aload_n 1, 1), (144, .iload_n 2, 1), (145, .iconst 3, 1), (146, .iadd, 1), (147, .iconst 3, 1)]
theorem dcL_people_7 : tL_people_7.all (fun q => decide (decode cL_people q.1 = .ok (q.2.1, q.2.2))) = true := by decide +kernel
def tL_people_8 : List (Nat × Instr × Nat) := [(148, .iload 9, 2), (150, .imul, 1), (151, .iadd, 1), (152, .invokestatic 8, 3), (155, .aload 4, 2), (157, .aload 5, 2), (159, .iconst 1, 1), (160, .iload 9, 2), (162, .iadd, 1), (163, .iaload, 1), (164, .iload 9, 2), (166, .aload 5, 2)]
theorem dcL_people_8 : tL_people_8.all (fun q => decide (decode cL_people q.1 = .ok (q.2.1, q.2.2))) = true := by decide +kernel
def tL_people_9 : List (Nat × Instr × Nat) := [(168, .aload 6, 2), (170, .aload 7, 2), (172, .invokestatic 35, 3), (175, .istore 12, 2), (177, .aload_n 0, 1), (178, .aload 7, 2), (180, .iload 12, 2), (182, .invokestatic 39, 3), (185, .ifCond .eq 29, 3), (188, .aload_n 0, 1), (189, .iconst 1, 1), (190, .invokevirtual 43, 3)]
theorem dcL_people_9 : tL_people_9.all (fun q => decide (decode cL_people q.1 = .ok (q.2.1, q.2.2))) = true := by decide +kernel
def tL_people_10 : List (Nat × Instr × Nat) := [(193, .iload 12, 2), (195, .if_icmp .ne 19, 3), (198, .aload_n 0, 1), (199, .iload 9, 2), (201, .invokevirtual 46, 3), (204, .aload 5, 2), (206, .iconst 5, 1), (207, .iload 9, 2), (209, .iadd, 1), (210, .iaload, 1), (211, .if_icmp .eq 5, 3), (214, .iconst 0, 1)]
theorem dcL_people_10 : tL_people_10.all (fun q => decide (decode cL_people q.1 = .ok (q.2.1, q.2.2))) = true := by decide +kernel
def tL_people_11 : List (Nat × Instr × Nat) := [(215, .ireturn, 1), (216, .iinc 9 1, 3), (219, .goto (-201), 3), (222, .iconst 1, 1), (223, .ireturn, 1)]
theorem dcL_people_11 : tL_people_11.all (fun q => decide (decode cL_people q.1 = .ok (q.2.1, q.2.2))) = true := by decide +kernel
def tL_peoples : List (List (Nat × Instr × Nat)) := [tL_people_0, tL_people_1, tL_people_2, tL_people_3, tL_people_4, tL_people_5, tL_people_6, tL_people_7, tL_people_8, tL_people_9, tL_people_10, tL_people_11]
theorem dcL_peoples : ∀ t ∈ tL_peoples, t.all (fun q => decide (decode cL_people q.1 = .ok (q.2.1, q.2.2))) = true := List.forall_mem_cons.mpr ⟨dcL_people_0, List.forall_mem_cons.mpr ⟨dcL_people_1, List.forall_mem_cons.mpr ⟨dcL_people_2, List.forall_mem_cons.mpr ⟨dcL_people_3, List.forall_mem_cons.mpr ⟨dcL_people_4, List.forall_mem_cons.mpr ⟨dcL_people_5, List.forall_mem_cons.mpr ⟨dcL_people_6, List.forall_mem_cons.mpr ⟨dcL_people_7, List.forall_mem_cons.mpr ⟨dcL_people_8, List.forall_mem_cons.mpr ⟨dcL_people_9, List.forall_mem_cons.mpr ⟨dcL_people_10, List.forall_mem_cons.mpr ⟨dcL_people_11, fun _ h => absurd h List.not_mem_nil⟩⟩⟩⟩⟩⟩⟩⟩⟩⟩⟩⟩
def tL_people : List (Nat × Instr × Nat) := [(0, .iload_n 3, 1), (1, .aload_n 1, 1), (2, .iload_n 2, 1), (3, .invokestatic 8, 3), (6, .iconst 4, 1), (7, .iload_n 3, 1), (8, .isub, 1), (9, .invokestatic 14, 3), (12, .iadd, 1), (13, .istore 8, 2), (15, .iconst 0, 1), (16, .istore 9, 2), (18, .iload 9, 2), (20, .iload 8, 2), (22, .if_icmp .ge 200, 3), (25, .aload_n 1, 1), (26, .iload_n 2, 1), (27, .iconst 1, 1), (28, .iadd, 1), (29, .iconst 3, 1), (30, .iload 9, 2), (32, .imul, 1), (33, .iadd, 1), (34, .invokestatic 8, 3), (37, .istore 10, 2), (39, .aload_n 1, 1), (40, .iload_n 2, 1), (41, .invokestatic 8, 3), (44, .iconst 3, 1), (45, .iconst 3, 1), (46, .iload 9, 2), (48, .imul, 1), (49, .iadd, 1), (50, .ishr, 1), (51, .bipush 7, 2), (53, .invokestatic 14, 3), (56, .istore 11, 2), (58, .aload 5, 2), (60, .iconst 1, 1), (61, .iload 9, 2), (63, .iadd, 1), (64, .iload 11, 2), (66, .iconst 3, 1), (67, .if_icmp .ge 7, 3), (70, .iconst 0, 1), (71, .goto 7, 3), (74, .iload 11, 2), (76, .iconst 2, 1), (77, .isub, 1), (78, .iastore, 1), (79, .aload 5, 2), (81, .iconst 5, 1), (82, .iload 9, 2), (84, .iadd, 1), (85, .iconst 0, 1), (86, .iastore, 1), (87, .aload_n 0, 1), (88, .aload 5, 2), (90, .iconst 1, 1), (91, .iload 9, 2), (93, .iadd, 1), (94, .iaload, 1), (95, .invokevirtual 31, 3), (98, .iload 9, 2), (100, .if_icmp .eq 5, 3), (103, .iconst 0, 1), (104, .ireturn, 1), (105, .aload 5, 2), (107, .iconst 0, 1), (108, .dup2, 1), (109, .iaload, 1), (110, .iconst 1, 1), (111, .iadd, 1), (112, .iastore, 1), (113, .iload 10, 2), (115, .bipush 18, 2), (117, .ishr, 1), (118, .bipush 6, 2), (120, .invokestatic 14, 3), (123, .ifCond .ne 6, 3), (126, .goto 90, 3), (129, .iload 10, 2), (131, .aload_n 1, 1), (132, .iload_n 2, 1), (133, .iconst 2, 1), (134, .iadd, 1), (135, .iconst 3, 1), (136, .iload 9, 2), (138, .imul, 1), (139, .iadd, 1), (140, .invokestatic 8, 3), (143, .aload_n 1, 1), (144, .iload_n 2, 1), (145, .iconst 3, 1), (146, .iadd, 1), (147, .iconst 3, 1), (148, .iload 9, 2), (150, .imul, 1), (151, .iadd, 1), (152, .invokestatic 8, 3), (155, .aload 4, 2), (157, .aload 5, 2), (159, .iconst 1, 1), (160, .iload 9, 2), (162, .iadd, 1), (163, .iaload, 1), (164, .iload 9, 2), (166, .aload 5, 2), (168, .aload 6, 2), (170, .aload 7, 2), (172, .invokestatic 35, 3), (175, .istore 12, 2), (177, .aload_n 0, 1), (178, .aload 7, 2), (180, .iload 12, 2), (182, .invokestatic 39, 3), (185, .ifCond .eq 29, 3), (188, .aload_n 0, 1), (189, .iconst 1, 1), (190, .invokevirtual 43, 3), (193, .iload 12, 2), (195, .if_icmp .ne 19, 3), (198, .aload_n 0, 1), (199, .iload 9, 2), (201, .invokevirtual 46, 3), (204, .aload 5, 2), (206, .iconst 5, 1), (207, .iload 9, 2), (209, .iadd, 1), (210, .iaload, 1), (211, .if_icmp .eq 5, 3), (214, .iconst 0, 1), (215, .ireturn, 1), (216, .iinc 9 1, 3), (219, .goto (-201), 3), (222, .iconst 1, 1), (223, .ireturn, 1)]
set_option maxRecDepth 100000 in
theorem tL_people_eq : tL_people = tL_peoples.flatten := rfl
def mL_people : xM := (yL_people, cL_people, 13, (some .boolean), 8, tL_people)
theorem decL_people : ∀ pc i n, xfetch mL_people pc = some (i, n) → decode mL_people.2.1 pc = .ok (i, n) := by
  refine xfetch_of ?_
  show tL_people.all _ = true
  rw [tL_people_eq, List.all_eq_true]
  intro q hq
  obtain ⟨t, ht, hqt⟩ := List.mem_flatten.mp hq
  exact List.all_eq_true.mp (dcL_peoples t ht) q hqt
theorem okL_people : xmOk mL_people := ⟨w637, ⟨by decide +kernel, by decide +kernel, by decide +kernel⟩, by decide, by decide +kernel, decL_people⟩
def tL_met_0 : List (Nat × Instr × Nat) := [(0, .iload_n 2, 1), (1, .bipush 8, 2), (3, .idiv, 1), (4, .iload_n 3, 1), (5, .bipush 8, 2), (7, .idiv, 1), (8, .if_icmp .ne 8, 3), (11, .iload_n 1, 1), (12, .iconst 2, 1), (13, .if_icmp .le 5, 3), (16, .iconst 0, 1), (17, .ireturn, 1)]
theorem dcL_met_0 : tL_met_0.all (fun q => decide (decode cL_met q.1 = .ok (q.2.1, q.2.2))) = true := by decide +kernel
def tL_met_1 : List (Nat × Instr × Nat) := [(18, .iload_n 2, 1), (19, .bipush 8, 2), (21, .irem, 1), (22, .iload_n 3, 1), (23, .bipush 8, 2), (25, .irem, 1), (26, .if_icmp .eq 28, 3), (29, .iload_n 1, 1), (30, .iconst 1, 1), (31, .if_icmp .eq 27, 3), (34, .aload_n 0, 1), (35, .bipush 6, 2)]
theorem dcL_met_1 : tL_met_1.all (fun q => decide (decode cL_met q.1 = .ok (q.2.1, q.2.2))) = true := by decide +kernel
def tL_met_2 : List (Nat × Instr × Nat) := [(37, .iload_n 2, 1), (38, .bipush 8, 2), (40, .irem, 1), (41, .iadd, 1), (42, .iaload, 1), (43, .iload_n 3, 1), (44, .bipush 8, 2), (46, .irem, 1), (47, .ishr, 1), (48, .iconst 1, 1), (49, .iand, 1), (50, .iconst 1, 1)]
theorem dcL_met_2 : tL_met_2.all (fun q => decide (decode cL_met q.1 = .ok (q.2.1, q.2.2))) = true := by decide +kernel
def tL_met_3 : List (Nat × Instr × Nat) := [(51, .if_icmp .ne 7, 3), (54, .iconst 1, 1), (55, .goto 4, 3), (58, .iconst 0, 1), (59, .ireturn, 1)]
theorem dcL_met_3 : tL_met_3.all (fun q => decide (decode cL_met q.1 = .ok (q.2.1, q.2.2))) = true := by decide +kernel
def tL_mets : List (List (Nat × Instr × Nat)) := [tL_met_0, tL_met_1, tL_met_2, tL_met_3]
theorem dcL_mets : ∀ t ∈ tL_mets, t.all (fun q => decide (decode cL_met q.1 = .ok (q.2.1, q.2.2))) = true := List.forall_mem_cons.mpr ⟨dcL_met_0, List.forall_mem_cons.mpr ⟨dcL_met_1, List.forall_mem_cons.mpr ⟨dcL_met_2, List.forall_mem_cons.mpr ⟨dcL_met_3, fun _ h => absurd h List.not_mem_nil⟩⟩⟩⟩
def tL_met : List (Nat × Instr × Nat) := [(0, .iload_n 2, 1), (1, .bipush 8, 2), (3, .idiv, 1), (4, .iload_n 3, 1), (5, .bipush 8, 2), (7, .idiv, 1), (8, .if_icmp .ne 8, 3), (11, .iload_n 1, 1), (12, .iconst 2, 1), (13, .if_icmp .le 5, 3), (16, .iconst 0, 1), (17, .ireturn, 1), (18, .iload_n 2, 1), (19, .bipush 8, 2), (21, .irem, 1), (22, .iload_n 3, 1), (23, .bipush 8, 2), (25, .irem, 1), (26, .if_icmp .eq 28, 3), (29, .iload_n 1, 1), (30, .iconst 1, 1), (31, .if_icmp .eq 27, 3), (34, .aload_n 0, 1), (35, .bipush 6, 2), (37, .iload_n 2, 1), (38, .bipush 8, 2), (40, .irem, 1), (41, .iadd, 1), (42, .iaload, 1), (43, .iload_n 3, 1), (44, .bipush 8, 2), (46, .irem, 1), (47, .ishr, 1), (48, .iconst 1, 1), (49, .iand, 1), (50, .iconst 1, 1), (51, .if_icmp .ne 7, 3), (54, .iconst 1, 1), (55, .goto 4, 3), (58, .iconst 0, 1), (59, .ireturn, 1)]
set_option maxRecDepth 100000 in
theorem tL_met_eq : tL_met = tL_mets.flatten := rfl
def mL_met : xM := (yL_met, cL_met, 4, (some .boolean), 4, tL_met)
theorem decL_met : ∀ pc i n, xfetch mL_met pc = some (i, n) → decode mL_met.2.1 pc = .ok (i, n) := by
  refine xfetch_of ?_
  show tL_met.all _ = true
  rw [tL_met_eq, List.all_eq_true]
  intro q hq
  obtain ⟨t, ht, hqt⟩ := List.mem_flatten.mp hq
  exact List.all_eq_true.mp (dcL_mets t ht) q hqt
theorem okL_met : xmOk mL_met := ⟨w649, ⟨by decide +kernel, by decide +kernel, by decide +kernel⟩, by decide, by decide +kernel, decL_met⟩
def tL_there_0 : List (Nat × Instr × Nat) := [(0, .iconst 0, 1), (1, .istore 4, 2), (3, .iconst 0, 1), (4, .istore 5, 2), (6, .iload 5, 2), (8, .aload_n 0, 1), (9, .iconst 5, 1), (10, .iload_n 2, 1), (11, .iadd, 1), (12, .iaload, 1), (13, .if_icmp .ge 32, 3), (16, .iload 4, 2)]
theorem dcL_there_0 : tL_there_0.all (fun q => decide (decode cL_there q.1 = .ok (q.2.1, q.2.2))) = true := by decide +kernel
def tL_there_1 : List (Nat × Instr × Nat) := [(18, .aload_n 1, 1), (19, .bipush 17, 2), (21, .iload_n 2, 1), (22, .imul, 1), (23, .iload 5, 2), (25, .iadd, 1), (26, .iaload, 1), (27, .iload_n 3, 1), (28, .if_icmp .ne 7, 3), (31, .iconst 1, 1), (32, .goto 4, 3), (35, .iconst 0, 1)]
theorem dcL_there_1 : tL_there_1.all (fun q => decide (decode cL_there q.1 = .ok (q.2.1, q.2.2))) = true := by decide +kernel
def tL_there_2 : List (Nat × Instr × Nat) := [(36, .iadd, 1), (37, .istore 4, 2), (39, .iinc 5 1, 3), (42, .goto (-36), 3), (45, .iload 4, 2), (47, .ireturn, 1)]
theorem dcL_there_2 : tL_there_2.all (fun q => decide (decode cL_there q.1 = .ok (q.2.1, q.2.2))) = true := by decide +kernel
def tL_theres : List (List (Nat × Instr × Nat)) := [tL_there_0, tL_there_1, tL_there_2]
theorem dcL_theres : ∀ t ∈ tL_theres, t.all (fun q => decide (decode cL_there q.1 = .ok (q.2.1, q.2.2))) = true := List.forall_mem_cons.mpr ⟨dcL_there_0, List.forall_mem_cons.mpr ⟨dcL_there_1, List.forall_mem_cons.mpr ⟨dcL_there_2, fun _ h => absurd h List.not_mem_nil⟩⟩⟩
def tL_there : List (Nat × Instr × Nat) := [(0, .iconst 0, 1), (1, .istore 4, 2), (3, .iconst 0, 1), (4, .istore 5, 2), (6, .iload 5, 2), (8, .aload_n 0, 1), (9, .iconst 5, 1), (10, .iload_n 2, 1), (11, .iadd, 1), (12, .iaload, 1), (13, .if_icmp .ge 32, 3), (16, .iload 4, 2), (18, .aload_n 1, 1), (19, .bipush 17, 2), (21, .iload_n 2, 1), (22, .imul, 1), (23, .iload 5, 2), (25, .iadd, 1), (26, .iaload, 1), (27, .iload_n 3, 1), (28, .if_icmp .ne 7, 3), (31, .iconst 1, 1), (32, .goto 4, 3), (35, .iconst 0, 1), (36, .iadd, 1), (37, .istore 4, 2), (39, .iinc 5 1, 3), (42, .goto (-36), 3), (45, .iload 4, 2), (47, .ireturn, 1)]
set_option maxRecDepth 100000 in
theorem tL_there_eq : tL_there = tL_theres.flatten := rfl
def mL_there : xM := (yL_there, cL_there, 6, (some .int), 4, tL_there)
theorem decL_there : ∀ pc i n, xfetch mL_there pc = some (i, n) → decode mL_there.2.1 pc = .ok (i, n) := by
  refine xfetch_of ?_
  show tL_there.all _ = true
  rw [tL_there_eq, List.all_eq_true]
  intro q hq
  obtain ⟨t, ht, hqt⟩ := List.mem_flatten.mp hq
  exact List.all_eq_true.mp (dcL_theres t ht) q hqt
theorem okL_there : xmOk mL_there := ⟨w646, ⟨by decide +kernel, by decide +kernel, by decide +kernel⟩, by decide, by decide +kernel, decL_there⟩
def tL_stands_0 : List (Nat × Instr × Nat) := [(0, .iconst 0, 1), (1, .istore 4, 2), (3, .iload 4, 2), (5, .aload_n 2, 1), (6, .iconst 0, 1), (7, .iaload, 1), (8, .if_icmp .ge 460, 3), (11, .aload_n 2, 1), (12, .iconst 5, 1), (13, .iload 4, 2), (15, .iadd, 1), (16, .iaload, 1)]
theorem dcL_stands_0 : tL_stands_0.all (fun q => decide (decode cL_stands q.1 = .ok (q.2.1, q.2.2))) = true := by decide +kernel
def tL_stands_1 : List (Nat × Instr × Nat) := [(17, .istore 5, 2), (19, .iconst 0, 1), (20, .istore 6, 2), (22, .bipush 99, 2), (24, .istore 7, 2), (26, .iconst 0, 1), (27, .istore 8, 2), (29, .iconst (-1), 1), (30, .istore 9, 2), (32, .iconst 0, 1), (33, .istore 10, 2), (35, .iload 10, 2)]
theorem dcL_stands_1 : tL_stands_1.all (fun q => decide (decode cL_stands q.1 = .ok (q.2.1, q.2.2))) = true := by decide +kernel
def tL_stands_2 : List (Nat × Instr × Nat) := [(37, .iload 5, 2), (39, .if_icmp .ge 174, 3), (42, .aload_n 3, 1), (43, .bipush 17, 2), (45, .iload 4, 2), (47, .imul, 1), (48, .iload 10, 2), (50, .iadd, 1), (51, .iaload, 1), (52, .istore 11, 2), (54, .aload_n 0, 1), (55, .iload 4, 2)]
theorem dcL_stands_2 : tL_stands_2.all (fun q => decide (decode cL_stands q.1 = .ok (q.2.1, q.2.2))) = true := by decide +kernel
def tL_stands_3 : List (Nat × Instr × Nat) := [(57, .iload 10, 2), (59, .iconst 0, 1), (60, .invokevirtual 49, 3), (63, .iload 11, 2), (65, .bipush 8, 2), (67, .idiv, 1), (68, .if_icmp .ne 48, 3), (71, .aload_n 0, 1), (72, .iload 4, 2), (74, .iload 10, 2), (76, .iconst 1, 1), (77, .invokevirtual 49, 3)]
theorem dcL_stands_3 : tL_stands_3.all (fun q => decide (decode cL_stands q.1 = .ok (q.2.1, q.2.2))) = true := by decide +kernel
def tL_stands_4 : List (Nat × Instr × Nat) := [(80, .iload 11, 2), (82, .bipush 8, 2), (84, .irem, 1), (85, .if_icmp .ne 31, 3), (88, .aload_n 0, 1), (89, .iload 4, 2), (91, .iload 11, 2), (93, .bipush 8, 2), (95, .idiv, 1), (96, .iload 11, 2), (98, .bipush 8, 2), (100, .irem, 1)]
theorem dcL_stands_4 : tL_stands_4.all (fun q => decide (decode cL_stands q.1 = .ok (q.2.1, q.2.2))) = true := by decide +kernel
def tL_stands_5 : List (Nat × Instr × Nat) := [(101, .invokevirtual 53, 3), (104, .aload_n 2, 1), (105, .aload_n 3, 1), (106, .iload 4, 2), (108, .iload 11, 2), (110, .invokestatic 56, 3), (113, .if_icmp .eq 5, 3), (116, .iconst 0, 1), (117, .ireturn, 1), (118, .iload 10, 2), (120, .ifCond .le 29, 3), (123, .iload 11, 2)]
theorem dcL_stands_5 : tL_stands_5.all (fun q => decide (decode cL_stands q.1 = .ok (q.2.1, q.2.2))) = true := by decide +kernel
def tL_stands_6 : List (Nat × Instr × Nat) := [(125, .bipush 8, 2), (127, .idiv, 1), (128, .aload_n 3, 1), (129, .bipush 17, 2), (131, .iload 4, 2), (133, .imul, 1), (134, .iload 10, 2), (136, .iadd, 1), (137, .iconst 1, 1), (138, .isub, 1), (139, .iaload, 1), (140, .bipush 8, 2)]
theorem dcL_stands_6 : tL_stands_6.all (fun q => decide (decode cL_stands q.1 = .ok (q.2.1, q.2.2))) = true := by decide +kernel
def tL_stands_7 : List (Nat × Instr × Nat) := [(142, .idiv, 1), (143, .if_icmp .ge 6, 3), (146, .iinc 6 1, 3), (149, .iconst 0, 1), (150, .istore 12, 2), (152, .iload 12, 2), (154, .iload 10, 2), (156, .if_icmp .ge 51, 3), (159, .aload_n 1, 1), (160, .aload_n 2, 1), (161, .iconst 1, 1), (162, .iload 4, 2)]
theorem dcL_stands_7 : tL_stands_7.all (fun q => decide (decode cL_stands q.1 = .ok (q.2.1, q.2.2))) = true := by decide +kernel
def tL_stands_8 : List (Nat × Instr × Nat) := [(164, .iadd, 1), (165, .iaload, 1), (166, .iload 11, 2), (168, .aload_n 3, 1), (169, .bipush 17, 2), (171, .iload 4, 2), (173, .imul, 1), (174, .iload 12, 2), (176, .iadd, 1), (177, .iaload, 1), (178, .invokestatic 59, 3), (181, .ifCond .eq 20, 3)]
theorem dcL_stands_8 : tL_stands_8.all (fun q => decide (decode cL_stands q.1 = .ok (q.2.1, q.2.2))) = true := by decide +kernel
def tL_stands_9 : List (Nat × Instr × Nat) := [(184, .iload 11, 2), (186, .bipush 8, 2), (188, .idiv, 1), (189, .iload 7, 2), (191, .if_icmp .ge 10, 3), (194, .iload 11, 2), (196, .bipush 8, 2), (198, .idiv, 1), (199, .istore 7, 2), (201, .iinc 12 1, 3), (204, .goto (-52), 3), (207, .iinc 10 1, 3)]
theorem dcL_stands_9 : tL_stands_9.all (fun q => decide (decode cL_stands q.1 = .ok (q.2.1, q.2.2))) = true := by decide +kernel
def tL_stands_10 : List (Nat × Instr × Nat) := [(210, .goto (-175), 3), (213, .bipush 59, 2), (215, .istore 10, 2), (217, .iload 10, 2), (219, .ifCond .lt 68, 3), (222, .iconst 0, 1), (223, .istore 11, 2), (225, .iconst 0, 1), (226, .istore 12, 2), (228, .iload 12, 2), (230, .bipush 6, 2), (232, .if_icmp .ge 29, 3)]
theorem dcL_stands_10 : tL_stands_10.all (fun q => decide (decode cL_stands q.1 = .ok (q.2.1, q.2.2))) = true := by decide +kernel
def tL_stands_11 : List (Nat × Instr × Nat) := [(235, .iload 11, 2), (237, .aload_n 2, 1), (238, .aload_n 3, 1), (239, .iload 4, 2), (241, .bipush 8, 2), (243, .iload 10, 2), (245, .imul, 1), (246, .iload 12, 2), (248, .iadd, 1), (249, .invokestatic 56, 3), (252, .iadd, 1), (253, .istore 11, 2)]
theorem dcL_stands_11 : tL_stands_11.all (fun q => decide (decode cL_stands q.1 = .ok (q.2.1, q.2.2))) = true := by decide +kernel
def tL_stands_12 : List (Nat × Instr × Nat) := [(255, .iinc 12 1, 3), (258, .goto (-30), 3), (261, .iload 11, 2), (263, .ifCond .le 18, 3), (266, .iload 11, 2), (268, .iload 8, 2), (270, .if_icmp .lt 11, 3), (273, .iload 11, 2), (275, .istore 8, 2), (277, .iload 10, 2), (279, .istore 9, 2), (281, .iinc 10 (-1), 3)]
theorem dcL_stands_12 : tL_stands_12.all (fun q => decide (decode cL_stands q.1 = .ok (q.2.1, q.2.2))) = true := by decide +kernel
def tL_stands_13 : List (Nat × Instr × Nat) := [(284, .goto (-67), 3), (287, .iload 5, 2), (289, .ifCond .ne 7, 3), (292, .iconst (-1), 1), (293, .goto 15, 3), (296, .aload_n 3, 1), (297, .bipush 17, 2), (299, .iload 4, 2), (301, .imul, 1), (302, .iload 5, 2), (304, .iadd, 1), (305, .iconst 1, 1)]
theorem dcL_stands_13 : tL_stands_13.all (fun q => decide (decode cL_stands q.1 = .ok (q.2.1, q.2.2))) = true := by decide +kernel
def tL_stands_14 : List (Nat × Instr × Nat) := [(306, .isub, 1), (307, .iaload, 1), (308, .istore 10, 2), (310, .aload_n 0, 1), (311, .iload 4, 2), (313, .iconst 0, 1), (314, .invokevirtual 63, 3), (317, .aload_n 2, 1), (318, .iconst 1, 1), (319, .iload 4, 2), (321, .iadd, 1), (322, .iaload, 1)]
theorem dcL_stands_14 : tL_stands_14.all (fun q => decide (decode cL_stands q.1 = .ok (q.2.1, q.2.2))) = true := by decide +kernel
def tL_stands_15 : List (Nat × Instr × Nat) := [(323, .if_icmp .ne 75, 3), (326, .aload_n 0, 1), (327, .iload 4, 2), (329, .iconst 1, 1), (330, .invokevirtual 63, 3), (333, .iload 5, 2), (335, .if_icmp .ne 63, 3), (338, .aload_n 0, 1), (339, .iload 4, 2), (341, .iconst 2, 1), (342, .invokevirtual 63, 3), (345, .iload 6, 2)]
theorem dcL_stands_15 : tL_stands_15.all (fun q => decide (decode cL_stands q.1 = .ok (q.2.1, q.2.2))) = true := by decide +kernel
def tL_stands_16 : List (Nat × Instr × Nat) := [(347, .if_icmp .ne 51, 3), (350, .aload_n 0, 1), (351, .iload 4, 2), (353, .iconst 3, 1), (354, .invokevirtual 63, 3), (357, .iload 5, 2), (359, .ifCond .ne 7, 3), (362, .iconst (-1), 1), (363, .goto 8, 3), (366, .iload 10, 2), (368, .bipush 8, 2), (370, .idiv, 1)]
theorem dcL_stands_16 : tL_stands_16.all (fun q => decide (decode cL_stands q.1 = .ok (q.2.1, q.2.2))) = true := by decide +kernel
def tL_stands_17 : List (Nat × Instr × Nat) := [(371, .if_icmp .ne 27, 3), (374, .aload_n 0, 1), (375, .iload 4, 2), (377, .iconst 4, 1), (378, .invokevirtual 63, 3), (381, .iload 5, 2), (383, .ifCond .ne 7, 3), (386, .iconst (-1), 1), (387, .goto 8, 3), (390, .iload 10, 2), (392, .bipush 8, 2), (394, .irem, 1)]
theorem dcL_stands_17 : tL_stands_17.all (fun q => decide (decode cL_stands q.1 = .ok (q.2.1, q.2.2))) = true := by decide +kernel
def tL_stands_18 : List (Nat × Instr × Nat) := [(395, .if_icmp .eq 5, 3), (398, .iconst 0, 1), (399, .ireturn, 1), (400, .aload_n 0, 1), (401, .iload 4, 2), (403, .invokevirtual 66, 3), (406, .iload 7, 2), (408, .bipush 99, 2), (410, .if_icmp .ne 7, 3), (413, .iconst (-1), 1), (414, .goto 5, 3), (417, .iload 7, 2)]
theorem dcL_stands_18 : tL_stands_18.all (fun q => decide (decode cL_stands q.1 = .ok (q.2.1, q.2.2))) = true := by decide +kernel
def tL_stands_19 : List (Nat × Instr × Nat) := [(419, .if_icmp .ne 41, 3), (422, .aload_n 0, 1), (423, .iload 4, 2), (425, .iconst 0, 1), (426, .invokevirtual 68, 3), (429, .iload 8, 2), (431, .if_icmp .ne 29, 3), (434, .aload_n 0, 1), (435, .iload 4, 2), (437, .iconst 1, 1), (438, .invokevirtual 68, 3), (441, .iload 9, 2)]
theorem dcL_stands_19 : tL_stands_19.all (fun q => decide (decode cL_stands q.1 = .ok (q.2.1, q.2.2))) = true := by decide +kernel
def tL_stands_20 : List (Nat × Instr × Nat) := [(443, .if_icmp .ne 17, 3), (446, .aload_n 0, 1), (447, .iload 4, 2), (449, .iload 5, 2), (451, .iconst 0, 1), (452, .invokevirtual 49, 3), (455, .bipush (-101), 2), (457, .if_icmp .eq 5, 3), (460, .iconst 0, 1), (461, .ireturn, 1), (462, .iinc 4 1, 3), (465, .goto (-462), 3)]
theorem dcL_stands_20 : tL_stands_20.all (fun q => decide (decode cL_stands q.1 = .ok (q.2.1, q.2.2))) = true := by decide +kernel
def tL_stands_21 : List (Nat × Instr × Nat) := [(468, .aload_n 0, 1), (469, .iconst 2, 1), (470, .invokevirtual 71, 3), (473, .aload_n 2, 1), (474, .iconst 0, 1), (475, .iaload, 1), (476, .if_icmp .ne 7, 3), (479, .iconst 1, 1), (480, .goto 4, 3), (483, .iconst 0, 1), (484, .ireturn, 1)]
theorem dcL_stands_21 : tL_stands_21.all (fun q => decide (decode cL_stands q.1 = .ok (q.2.1, q.2.2))) = true := by decide +kernel
def tL_standss : List (List (Nat × Instr × Nat)) := [tL_stands_0, tL_stands_1, tL_stands_2, tL_stands_3, tL_stands_4, tL_stands_5, tL_stands_6, tL_stands_7, tL_stands_8, tL_stands_9, tL_stands_10, tL_stands_11, tL_stands_12, tL_stands_13, tL_stands_14, tL_stands_15, tL_stands_16, tL_stands_17, tL_stands_18, tL_stands_19, tL_stands_20, tL_stands_21]
theorem dcL_standss : ∀ t ∈ tL_standss, t.all (fun q => decide (decode cL_stands q.1 = .ok (q.2.1, q.2.2))) = true := List.forall_mem_cons.mpr ⟨dcL_stands_0, List.forall_mem_cons.mpr ⟨dcL_stands_1, List.forall_mem_cons.mpr ⟨dcL_stands_2, List.forall_mem_cons.mpr ⟨dcL_stands_3, List.forall_mem_cons.mpr ⟨dcL_stands_4, List.forall_mem_cons.mpr ⟨dcL_stands_5, List.forall_mem_cons.mpr ⟨dcL_stands_6, List.forall_mem_cons.mpr ⟨dcL_stands_7, List.forall_mem_cons.mpr ⟨dcL_stands_8, List.forall_mem_cons.mpr ⟨dcL_stands_9, List.forall_mem_cons.mpr ⟨dcL_stands_10, List.forall_mem_cons.mpr ⟨dcL_stands_11, List.forall_mem_cons.mpr ⟨dcL_stands_12, List.forall_mem_cons.mpr ⟨dcL_stands_13, List.forall_mem_cons.mpr ⟨dcL_stands_14, List.forall_mem_cons.mpr ⟨dcL_stands_15, List.forall_mem_cons.mpr ⟨dcL_stands_16, List.forall_mem_cons.mpr ⟨dcL_stands_17, List.forall_mem_cons.mpr ⟨dcL_stands_18, List.forall_mem_cons.mpr ⟨dcL_stands_19, List.forall_mem_cons.mpr ⟨dcL_stands_20, List.forall_mem_cons.mpr ⟨dcL_stands_21, fun _ h => absurd h List.not_mem_nil⟩⟩⟩⟩⟩⟩⟩⟩⟩⟩⟩⟩⟩⟩⟩⟩⟩⟩⟩⟩⟩⟩
def tL_stands : List (Nat × Instr × Nat) := [(0, .iconst 0, 1), (1, .istore 4, 2), (3, .iload 4, 2), (5, .aload_n 2, 1), (6, .iconst 0, 1), (7, .iaload, 1), (8, .if_icmp .ge 460, 3), (11, .aload_n 2, 1), (12, .iconst 5, 1), (13, .iload 4, 2), (15, .iadd, 1), (16, .iaload, 1), (17, .istore 5, 2), (19, .iconst 0, 1), (20, .istore 6, 2), (22, .bipush 99, 2), (24, .istore 7, 2), (26, .iconst 0, 1), (27, .istore 8, 2), (29, .iconst (-1), 1), (30, .istore 9, 2), (32, .iconst 0, 1), (33, .istore 10, 2), (35, .iload 10, 2), (37, .iload 5, 2), (39, .if_icmp .ge 174, 3), (42, .aload_n 3, 1), (43, .bipush 17, 2), (45, .iload 4, 2), (47, .imul, 1), (48, .iload 10, 2), (50, .iadd, 1), (51, .iaload, 1), (52, .istore 11, 2), (54, .aload_n 0, 1), (55, .iload 4, 2), (57, .iload 10, 2), (59, .iconst 0, 1), (60, .invokevirtual 49, 3), (63, .iload 11, 2), (65, .bipush 8, 2), (67, .idiv, 1), (68, .if_icmp .ne 48, 3), (71, .aload_n 0, 1), (72, .iload 4, 2), (74, .iload 10, 2), (76, .iconst 1, 1), (77, .invokevirtual 49, 3), (80, .iload 11, 2), (82, .bipush 8, 2), (84, .irem, 1), (85, .if_icmp .ne 31, 3), (88, .aload_n 0, 1), (89, .iload 4, 2), (91, .iload 11, 2), (93, .bipush 8, 2), (95, .idiv, 1), (96, .iload 11, 2), (98, .bipush 8, 2), (100, .irem, 1), (101, .invokevirtual 53, 3), (104, .aload_n 2, 1), (105, .aload_n 3, 1), (106, .iload 4, 2), (108, .iload 11, 2), (110, .invokestatic 56, 3), (113, .if_icmp .eq 5, 3), (116, .iconst 0, 1), (117, .ireturn, 1), (118, .iload 10, 2), (120, .ifCond .le 29, 3), (123, .iload 11, 2), (125, .bipush 8, 2), (127, .idiv, 1), (128, .aload_n 3, 1), (129, .bipush 17, 2), (131, .iload 4, 2), (133, .imul, 1), (134, .iload 10, 2), (136, .iadd, 1), (137, .iconst 1, 1), (138, .isub, 1), (139, .iaload, 1), (140, .bipush 8, 2), (142, .idiv, 1), (143, .if_icmp .ge 6, 3), (146, .iinc 6 1, 3), (149, .iconst 0, 1), (150, .istore 12, 2), (152, .iload 12, 2), (154, .iload 10, 2), (156, .if_icmp .ge 51, 3), (159, .aload_n 1, 1), (160, .aload_n 2, 1), (161, .iconst 1, 1), (162, .iload 4, 2), (164, .iadd, 1), (165, .iaload, 1), (166, .iload 11, 2), (168, .aload_n 3, 1), (169, .bipush 17, 2), (171, .iload 4, 2), (173, .imul, 1), (174, .iload 12, 2), (176, .iadd, 1), (177, .iaload, 1), (178, .invokestatic 59, 3), (181, .ifCond .eq 20, 3), (184, .iload 11, 2), (186, .bipush 8, 2), (188, .idiv, 1), (189, .iload 7, 2), (191, .if_icmp .ge 10, 3), (194, .iload 11, 2), (196, .bipush 8, 2), (198, .idiv, 1), (199, .istore 7, 2), (201, .iinc 12 1, 3), (204, .goto (-52), 3), (207, .iinc 10 1, 3), (210, .goto (-175), 3), (213, .bipush 59, 2), (215, .istore 10, 2), (217, .iload 10, 2), (219, .ifCond .lt 68, 3), (222, .iconst 0, 1), (223, .istore 11, 2), (225, .iconst 0, 1), (226, .istore 12, 2), (228, .iload 12, 2), (230, .bipush 6, 2), (232, .if_icmp .ge 29, 3), (235, .iload 11, 2), (237, .aload_n 2, 1), (238, .aload_n 3, 1), (239, .iload 4, 2), (241, .bipush 8, 2), (243, .iload 10, 2), (245, .imul, 1), (246, .iload 12, 2), (248, .iadd, 1), (249, .invokestatic 56, 3), (252, .iadd, 1), (253, .istore 11, 2), (255, .iinc 12 1, 3), (258, .goto (-30), 3), (261, .iload 11, 2), (263, .ifCond .le 18, 3), (266, .iload 11, 2), (268, .iload 8, 2), (270, .if_icmp .lt 11, 3), (273, .iload 11, 2), (275, .istore 8, 2), (277, .iload 10, 2), (279, .istore 9, 2), (281, .iinc 10 (-1), 3), (284, .goto (-67), 3), (287, .iload 5, 2), (289, .ifCond .ne 7, 3), (292, .iconst (-1), 1), (293, .goto 15, 3), (296, .aload_n 3, 1), (297, .bipush 17, 2), (299, .iload 4, 2), (301, .imul, 1), (302, .iload 5, 2), (304, .iadd, 1), (305, .iconst 1, 1), (306, .isub, 1), (307, .iaload, 1), (308, .istore 10, 2), (310, .aload_n 0, 1), (311, .iload 4, 2), (313, .iconst 0, 1), (314, .invokevirtual 63, 3), (317, .aload_n 2, 1), (318, .iconst 1, 1), (319, .iload 4, 2), (321, .iadd, 1), (322, .iaload, 1), (323, .if_icmp .ne 75, 3), (326, .aload_n 0, 1), (327, .iload 4, 2), (329, .iconst 1, 1), (330, .invokevirtual 63, 3), (333, .iload 5, 2), (335, .if_icmp .ne 63, 3), (338, .aload_n 0, 1), (339, .iload 4, 2), (341, .iconst 2, 1), (342, .invokevirtual 63, 3), (345, .iload 6, 2), (347, .if_icmp .ne 51, 3), (350, .aload_n 0, 1), (351, .iload 4, 2), (353, .iconst 3, 1), (354, .invokevirtual 63, 3), (357, .iload 5, 2), (359, .ifCond .ne 7, 3), (362, .iconst (-1), 1), (363, .goto 8, 3), (366, .iload 10, 2), (368, .bipush 8, 2), (370, .idiv, 1), (371, .if_icmp .ne 27, 3), (374, .aload_n 0, 1), (375, .iload 4, 2), (377, .iconst 4, 1), (378, .invokevirtual 63, 3), (381, .iload 5, 2), (383, .ifCond .ne 7, 3), (386, .iconst (-1), 1), (387, .goto 8, 3), (390, .iload 10, 2), (392, .bipush 8, 2), (394, .irem, 1), (395, .if_icmp .eq 5, 3), (398, .iconst 0, 1), (399, .ireturn, 1), (400, .aload_n 0, 1), (401, .iload 4, 2), (403, .invokevirtual 66, 3), (406, .iload 7, 2), (408, .bipush 99, 2), (410, .if_icmp .ne 7, 3), (413, .iconst (-1), 1), (414, .goto 5, 3), (417, .iload 7, 2), (419, .if_icmp .ne 41, 3), (422, .aload_n 0, 1), (423, .iload 4, 2), (425, .iconst 0, 1), (426, .invokevirtual 68, 3), (429, .iload 8, 2), (431, .if_icmp .ne 29, 3), (434, .aload_n 0, 1), (435, .iload 4, 2), (437, .iconst 1, 1), (438, .invokevirtual 68, 3), (441, .iload 9, 2), (443, .if_icmp .ne 17, 3), (446, .aload_n 0, 1), (447, .iload 4, 2), (449, .iload 5, 2), (451, .iconst 0, 1), (452, .invokevirtual 49, 3), (455, .bipush (-101), 2), (457, .if_icmp .eq 5, 3), (460, .iconst 0, 1), (461, .ireturn, 1), (462, .iinc 4 1, 3), (465, .goto (-462), 3), (468, .aload_n 0, 1), (469, .iconst 2, 1), (470, .invokevirtual 71, 3), (473, .aload_n 2, 1), (474, .iconst 0, 1), (475, .iaload, 1), (476, .if_icmp .ne 7, 3), (479, .iconst 1, 1), (480, .goto 4, 3), (483, .iconst 0, 1), (484, .ireturn, 1)]
set_option maxRecDepth 100000 in
theorem tL_stands_eq : tL_stands = tL_standss.flatten := rfl
def mL_stands : xM := (yL_stands, cL_stands, 13, (some .boolean), 4, tL_stands)
theorem decL_stands : ∀ pc i n, xfetch mL_stands pc = some (i, n) → decode mL_stands.2.1 pc = .ok (i, n) := by
  refine xfetch_of ?_
  show tL_stands.all _ = true
  rw [tL_stands_eq, List.all_eq_true]
  intro q hq
  obtain ⟨t, ht, hqt⟩ := List.mem_flatten.mp hq
  exact List.all_eq_true.mp (dcL_standss t ht) q hqt
theorem okL_stands : xmOk mL_stands := ⟨w643, ⟨by decide +kernel, by decide +kernel, by decide +kernel⟩, by decide, by decide +kernel, decL_stands⟩
def tL_tasks_0 : List (Nat × Instr × Nat) := [(0, .iconst 5, 1), (1, .newarray .int, 2), (3, .astore 4, 2), (5, .iconst 5, 1), (6, .newarray .int, 2), (8, .astore 5, 2), (10, .iconst 5, 1), (11, .newarray .int, 2), (13, .astore 6, 2), (15, .aload_n 1, 1), (16, .bipush 14, 2), (18, .invokestatic 8, 3)]
theorem dcL_tasks_0 : tL_tasks_0.all (fun q => decide (decode cL_tasks q.1 = .ok (q.2.1, q.2.2))) = true := by decide +kernel
def tL_tasks_1 : List (Nat × Instr × Nat) := [(21, .bipush 6, 2), (23, .invokestatic 14, 3), (26, .istore 7, 2), (28, .iconst 0, 1), (29, .istore 8, 2), (31, .iload 8, 2), (33, .iload 7, 2), (35, .if_icmp .ge 99, 3), (38, .aload_n 1, 1), (39, .bipush 15, 2), (41, .iload 8, 2), (43, .iadd, 1)]
theorem dcL_tasks_1 : tL_tasks_1.all (fun q => decide (decode cL_tasks q.1 = .ok (q.2.1, q.2.2))) = true := by decide +kernel
def tL_tasks_2 : List (Nat × Instr × Nat) := [(44, .invokestatic 8, 3), (47, .istore 9, 2), (49, .aload 4, 2), (51, .iload 8, 2), (53, .iload 9, 2), (55, .bipush 6, 2), (57, .invokestatic 14, 3), (60, .iastore, 1), (61, .aload 5, 2), (63, .iload 8, 2), (65, .iload 9, 2), (67, .iconst 3, 1)]
theorem dcL_tasks_2 : tL_tasks_2.all (fun q => decide (decode cL_tasks q.1 = .ok (q.2.1, q.2.2))) = true := by decide +kernel
def tL_tasks_3 : List (Nat × Instr × Nat) := [(68, .ishr, 1), (69, .bipush 60, 2), (71, .invokestatic 14, 3), (74, .iastore, 1), (75, .aload 6, 2), (77, .iload 8, 2), (79, .aload 5, 2), (81, .iload 8, 2), (83, .iaload, 1), (84, .iload 9, 2), (86, .bipush 9, 2), (88, .ishr, 1)]
theorem dcL_tasks_3 : tL_tasks_3.all (fun q => decide (decode cL_tasks q.1 = .ok (q.2.1, q.2.2))) = true := by decide +kernel
def tL_tasks_4 : List (Nat × Instr × Nat) := [(89, .bipush 60, 2), (91, .aload 5, 2), (93, .iload 8, 2), (95, .iaload, 1), (96, .isub, 1), (97, .invokestatic 14, 3), (100, .iadd, 1), (101, .iastore, 1), (102, .aload_n 0, 1), (103, .aload 4, 2), (105, .iload 8, 2), (107, .iaload, 1)]
theorem dcL_tasks_4 : tL_tasks_4.all (fun q => decide (decode cL_tasks q.1 = .ok (q.2.1, q.2.2))) = true := by decide +kernel
def tL_tasks_5 : List (Nat × Instr × Nat) := [(108, .aload 5, 2), (110, .iload 8, 2), (112, .iaload, 1), (113, .aload 6, 2), (115, .iload 8, 2), (117, .iaload, 1), (118, .invokevirtual 122, 3), (121, .iload 8, 2), (123, .if_icmp .eq 5, 3), (126, .iconst 0, 1), (127, .ireturn, 1), (128, .iinc 8 1, 3)]
theorem dcL_tasks_5 : tL_tasks_5.all (fun q => decide (decode cL_tasks q.1 = .ok (q.2.1, q.2.2))) = true := by decide +kernel
def tL_tasks_6 : List (Nat × Instr × Nat) := [(131, .goto (-100), 3), (134, .iconst 0, 1), (135, .istore 8, 2), (137, .iload 8, 2), (139, .aload_n 2, 1), (140, .iconst 0, 1), (141, .iaload, 1), (142, .if_icmp .ge 94, 3), (145, .iconst 0, 1), (146, .istore 9, 2), (148, .iconst 0, 1), (149, .istore 10, 2)]
theorem dcL_tasks_6 : tL_tasks_6.all (fun q => decide (decode cL_tasks q.1 = .ok (q.2.1, q.2.2))) = true := by decide +kernel
def tL_tasks_7 : List (Nat × Instr × Nat) := [(151, .iload 10, 2), (153, .iload 7, 2), (155, .if_icmp .ge 62, 3), (158, .aload 5, 2), (160, .iload 10, 2), (162, .iaload, 1), (163, .istore 11, 2), (165, .iload 11, 2), (167, .aload 6, 2), (169, .iload 10, 2), (171, .iaload, 1), (172, .if_icmp .gt 39, 3)]
theorem dcL_tasks_7 : tL_tasks_7.all (fun q => decide (decode cL_tasks q.1 = .ok (q.2.1, q.2.2))) = true := by decide +kernel
def tL_tasks_8 : List (Nat × Instr × Nat) := [(175, .aload_n 2, 1), (176, .aload_n 3, 1), (177, .iload 8, 2), (179, .bipush 8, 2), (181, .iload 11, 2), (183, .imul, 1), (184, .aload 4, 2), (186, .iload 10, 2), (188, .iaload, 1), (189, .iadd, 1), (190, .invokestatic 56, 3), (193, .ifCond .le 12, 3)]
theorem dcL_tasks_8 : tL_tasks_8.all (fun q => decide (decode cL_tasks q.1 = .ok (q.2.1, q.2.2))) = true := by decide +kernel
def tL_tasks_9 : List (Nat × Instr × Nat) := [(196, .iload 9, 2), (198, .iconst 1, 1), (199, .iload 10, 2), (201, .ishl, 1), (202, .ior, 1), (203, .istore 9, 2), (205, .iinc 11 1, 3), (208, .goto (-43), 3), (211, .iinc 10 1, 3), (214, .goto (-63), 3), (217, .aload_n 0, 1), (218, .iload 8, 2)]
theorem dcL_tasks_9 : tL_tasks_9.all (fun q => decide (decode cL_tasks q.1 = .ok (q.2.1, q.2.2))) = true := by decide +kernel
def tL_tasks_10 : List (Nat × Instr × Nat) := [(220, .invokevirtual 119, 3), (223, .iload 9, 2), (225, .if_icmp .eq 5, 3), (228, .iconst 0, 1), (229, .ireturn, 1), (230, .iinc 8 1, 3), (233, .goto (-96), 3), (236, .aload_n 0, 1), (237, .iconst 3, 1), (238, .invokevirtual 71, 3), (241, .iload 7, 2), (243, .if_icmp .ne 25, 3)]
theorem dcL_tasks_10 : tL_tasks_10.all (fun q => decide (decode cL_tasks q.1 = .ok (q.2.1, q.2.2))) = true := by decide +kernel
def tL_tasks_11 : List (Nat × Instr × Nat) := [(246, .iload 7, 2), (248, .iconst 5, 1), (249, .if_icmp .lt 15, 3), (252, .aload_n 0, 1), (253, .iconst 0, 1), (254, .iconst 0, 1), (255, .iconst 0, 1), (256, .invokevirtual 122, 3), (259, .bipush (-104), 2), (261, .if_icmp .ne 7, 3), (264, .iconst 1, 1), (265, .goto 4, 3)]
theorem dcL_tasks_11 : tL_tasks_11.all (fun q => decide (decode cL_tasks q.1 = .ok (q.2.1, q.2.2))) = true := by decide +kernel
def tL_tasks_12 : List (Nat × Instr × Nat) := [(268, .iconst 0, 1), (269, .ireturn, 1)]
theorem dcL_tasks_12 : tL_tasks_12.all (fun q => decide (decode cL_tasks q.1 = .ok (q.2.1, q.2.2))) = true := by decide +kernel
def tL_taskss : List (List (Nat × Instr × Nat)) := [tL_tasks_0, tL_tasks_1, tL_tasks_2, tL_tasks_3, tL_tasks_4, tL_tasks_5, tL_tasks_6, tL_tasks_7, tL_tasks_8, tL_tasks_9, tL_tasks_10, tL_tasks_11, tL_tasks_12]
theorem dcL_taskss : ∀ t ∈ tL_taskss, t.all (fun q => decide (decode cL_tasks q.1 = .ok (q.2.1, q.2.2))) = true := List.forall_mem_cons.mpr ⟨dcL_tasks_0, List.forall_mem_cons.mpr ⟨dcL_tasks_1, List.forall_mem_cons.mpr ⟨dcL_tasks_2, List.forall_mem_cons.mpr ⟨dcL_tasks_3, List.forall_mem_cons.mpr ⟨dcL_tasks_4, List.forall_mem_cons.mpr ⟨dcL_tasks_5, List.forall_mem_cons.mpr ⟨dcL_tasks_6, List.forall_mem_cons.mpr ⟨dcL_tasks_7, List.forall_mem_cons.mpr ⟨dcL_tasks_8, List.forall_mem_cons.mpr ⟨dcL_tasks_9, List.forall_mem_cons.mpr ⟨dcL_tasks_10, List.forall_mem_cons.mpr ⟨dcL_tasks_11, List.forall_mem_cons.mpr ⟨dcL_tasks_12, fun _ h => absurd h List.not_mem_nil⟩⟩⟩⟩⟩⟩⟩⟩⟩⟩⟩⟩⟩
def tL_tasks : List (Nat × Instr × Nat) := [(0, .iconst 5, 1), (1, .newarray .int, 2), (3, .astore 4, 2), (5, .iconst 5, 1), (6, .newarray .int, 2), (8, .astore 5, 2), (10, .iconst 5, 1), (11, .newarray .int, 2), (13, .astore 6, 2), (15, .aload_n 1, 1), (16, .bipush 14, 2), (18, .invokestatic 8, 3), (21, .bipush 6, 2), (23, .invokestatic 14, 3), (26, .istore 7, 2), (28, .iconst 0, 1), (29, .istore 8, 2), (31, .iload 8, 2), (33, .iload 7, 2), (35, .if_icmp .ge 99, 3), (38, .aload_n 1, 1), (39, .bipush 15, 2), (41, .iload 8, 2), (43, .iadd, 1), (44, .invokestatic 8, 3), (47, .istore 9, 2), (49, .aload 4, 2), (51, .iload 8, 2), (53, .iload 9, 2), (55, .bipush 6, 2), (57, .invokestatic 14, 3), (60, .iastore, 1), (61, .aload 5, 2), (63, .iload 8, 2), (65, .iload 9, 2), (67, .iconst 3, 1), (68, .ishr, 1), (69, .bipush 60, 2), (71, .invokestatic 14, 3), (74, .iastore, 1), (75, .aload 6, 2), (77, .iload 8, 2), (79, .aload 5, 2), (81, .iload 8, 2), (83, .iaload, 1), (84, .iload 9, 2), (86, .bipush 9, 2), (88, .ishr, 1), (89, .bipush 60, 2), (91, .aload 5, 2), (93, .iload 8, 2), (95, .iaload, 1), (96, .isub, 1), (97, .invokestatic 14, 3), (100, .iadd, 1), (101, .iastore, 1), (102, .aload_n 0, 1), (103, .aload 4, 2), (105, .iload 8, 2), (107, .iaload, 1), (108, .aload 5, 2), (110, .iload 8, 2), (112, .iaload, 1), (113, .aload 6, 2), (115, .iload 8, 2), (117, .iaload, 1), (118, .invokevirtual 122, 3), (121, .iload 8, 2), (123, .if_icmp .eq 5, 3), (126, .iconst 0, 1), (127, .ireturn, 1), (128, .iinc 8 1, 3), (131, .goto (-100), 3), (134, .iconst 0, 1), (135, .istore 8, 2), (137, .iload 8, 2), (139, .aload_n 2, 1), (140, .iconst 0, 1), (141, .iaload, 1), (142, .if_icmp .ge 94, 3), (145, .iconst 0, 1), (146, .istore 9, 2), (148, .iconst 0, 1), (149, .istore 10, 2), (151, .iload 10, 2), (153, .iload 7, 2), (155, .if_icmp .ge 62, 3), (158, .aload 5, 2), (160, .iload 10, 2), (162, .iaload, 1), (163, .istore 11, 2), (165, .iload 11, 2), (167, .aload 6, 2), (169, .iload 10, 2), (171, .iaload, 1), (172, .if_icmp .gt 39, 3), (175, .aload_n 2, 1), (176, .aload_n 3, 1), (177, .iload 8, 2), (179, .bipush 8, 2), (181, .iload 11, 2), (183, .imul, 1), (184, .aload 4, 2), (186, .iload 10, 2), (188, .iaload, 1), (189, .iadd, 1), (190, .invokestatic 56, 3), (193, .ifCond .le 12, 3), (196, .iload 9, 2), (198, .iconst 1, 1), (199, .iload 10, 2), (201, .ishl, 1), (202, .ior, 1), (203, .istore 9, 2), (205, .iinc 11 1, 3), (208, .goto (-43), 3), (211, .iinc 10 1, 3), (214, .goto (-63), 3), (217, .aload_n 0, 1), (218, .iload 8, 2), (220, .invokevirtual 119, 3), (223, .iload 9, 2), (225, .if_icmp .eq 5, 3), (228, .iconst 0, 1), (229, .ireturn, 1), (230, .iinc 8 1, 3), (233, .goto (-96), 3), (236, .aload_n 0, 1), (237, .iconst 3, 1), (238, .invokevirtual 71, 3), (241, .iload 7, 2), (243, .if_icmp .ne 25, 3), (246, .iload 7, 2), (248, .iconst 5, 1), (249, .if_icmp .lt 15, 3), (252, .aload_n 0, 1), (253, .iconst 0, 1), (254, .iconst 0, 1), (255, .iconst 0, 1), (256, .invokevirtual 122, 3), (259, .bipush (-104), 2), (261, .if_icmp .ne 7, 3), (264, .iconst 1, 1), (265, .goto 4, 3), (268, .iconst 0, 1), (269, .ireturn, 1)]
set_option maxRecDepth 100000 in
theorem tL_tasks_eq : tL_tasks = tL_taskss.flatten := rfl
def mL_tasks : xM := (yL_tasks, cL_tasks, 12, (some .boolean), 4, tL_tasks)
theorem decL_tasks : ∀ pc i n, xfetch mL_tasks pc = some (i, n) → decode mL_tasks.2.1 pc = .ok (i, n) := by
  refine xfetch_of ?_
  show tL_tasks.all _ = true
  rw [tL_tasks_eq, List.all_eq_true]
  intro q hq
  obtain ⟨t, ht, hqt⟩ := List.mem_flatten.mp hq
  exact List.all_eq_true.mp (dcL_taskss t ht) q hqt
theorem okL_tasks : xmOk mL_tasks := ⟨w652, ⟨by decide +kernel, by decide +kernel, by decide +kernel⟩, by decide, by decide +kernel, decL_tasks⟩
def tL_glimpses_0 : List (Nat × Instr × Nat) := [(0, .bipush 8, 2), (2, .newarray .int, 2), (4, .astore 4, 2), (6, .aload_n 1, 1), (7, .bipush 20, 2), (9, .invokestatic 8, 3), (12, .bipush 9, 2), (14, .invokestatic 14, 3), (17, .istore 5, 2), (19, .iconst 0, 1), (20, .istore 6, 2), (22, .iload 6, 2)]
theorem dcL_glimpses_0 : tL_glimpses_0.all (fun q => decide (decode cL_glimpses q.1 = .ok (q.2.1, q.2.2))) = true := by decide +kernel
def tL_glimpses_1 : List (Nat × Instr × Nat) := [(24, .iload 5, 2), (26, .if_icmp .gt 373, 3), (29, .iconst 0, 1), (30, .istore 7, 2), (32, .iconst 0, 1), (33, .istore 8, 2), (35, .iload 8, 2), (37, .aload_n 2, 1), (38, .iconst 0, 1), (39, .iaload, 1), (40, .if_icmp .ge 180, 3), (43, .iconst 1, 1)]
theorem dcL_glimpses_1 : tL_glimpses_1.all (fun q => decide (decode cL_glimpses q.1 = .ok (q.2.1, q.2.2))) = true := by decide +kernel
def tL_glimpses_2 : List (Nat × Instr × Nat) := [(44, .istore 9, 2), (46, .iconst 0, 1), (47, .istore 10, 2), (49, .iload 10, 2), (51, .iload 6, 2), (53, .if_icmp .ge 34, 3), (56, .iload 9, 2), (58, .aload_n 2, 1), (59, .aload_n 3, 1), (60, .iload 8, 2), (62, .aload 4, 2), (64, .iload 10, 2)]
theorem dcL_glimpses_2 : tL_glimpses_2.all (fun q => decide (decode cL_glimpses q.1 = .ok (q.2.1, q.2.2))) = true := by decide +kernel
def tL_glimpses_3 : List (Nat × Instr × Nat) := [(66, .iaload, 1), (67, .invokestatic 56, 3), (70, .ifCond .le 7, 3), (73, .iconst 1, 1), (74, .goto 4, 3), (77, .iconst 0, 1), (78, .iand, 1), (79, .istore 9, 2), (81, .iinc 10 1, 3), (84, .goto (-35), 3), (87, .iload 7, 2), (89, .iload 9, 2)]
theorem dcL_glimpses_3 : tL_glimpses_3.all (fun q => decide (decode cL_glimpses q.1 = .ok (q.2.1, q.2.2))) = true := by decide +kernel
def tL_glimpses_4 : List (Nat × Instr × Nat) := [(91, .ifCond .eq 10, 3), (94, .iconst 1, 1), (95, .iload 8, 2), (97, .ishl, 1), (98, .goto 4, 3), (101, .iconst 0, 1), (102, .ior, 1), (103, .istore 7, 2), (105, .iconst 0, 1), (106, .istore 10, 2), (108, .iload 10, 2), (110, .aload_n 2, 1)]
theorem dcL_glimpses_4 : tL_glimpses_4.all (fun q => decide (decode cL_glimpses q.1 = .ok (q.2.1, q.2.2))) = true := by decide +kernel
def tL_glimpses_5 : List (Nat × Instr × Nat) := [(111, .iconst 0, 1), (112, .iaload, 1), (113, .if_icmp .ge 101, 3), (116, .iconst 1, 1), (117, .istore 11, 2), (119, .iconst 0, 1), (120, .istore 12, 2), (122, .iload 12, 2), (124, .iload 6, 2), (126, .if_icmp .ge 55, 3), (129, .iload 11, 2), (131, .aload_n 2, 1)]
theorem dcL_glimpses_5 : tL_glimpses_5.all (fun q => decide (decode cL_glimpses q.1 = .ok (q.2.1, q.2.2))) = true := by decide +kernel
def tL_glimpses_6 : List (Nat × Instr × Nat) := [(132, .aload_n 3, 1), (133, .iload 8, 2), (135, .aload 4, 2), (137, .iload 12, 2), (139, .iaload, 1), (140, .invokestatic 56, 3), (143, .ifCond .le 7, 3), (146, .iconst 1, 1), (147, .goto 4, 3), (150, .iconst 0, 1), (151, .aload_n 2, 1), (152, .aload_n 3, 1)]
theorem dcL_glimpses_6 : tL_glimpses_6.all (fun q => decide (decode cL_glimpses q.1 = .ok (q.2.1, q.2.2))) = true := by decide +kernel
def tL_glimpses_7 : List (Nat × Instr × Nat) := [(153, .iload 10, 2), (155, .aload 4, 2), (157, .iload 12, 2), (159, .iaload, 1), (160, .invokestatic 56, 3), (163, .ifCond .le 7, 3), (166, .iconst 1, 1), (167, .goto 4, 3), (170, .iconst 0, 1), (171, .iadd, 1), (172, .imul, 1), (173, .istore 11, 2)]
theorem dcL_glimpses_7 : tL_glimpses_7.all (fun q => decide (decode cL_glimpses q.1 = .ok (q.2.1, q.2.2))) = true := by decide +kernel
def tL_glimpses_8 : List (Nat × Instr × Nat) := [(175, .iinc 12 1, 3), (178, .goto (-56), 3), (181, .aload_n 0, 1), (182, .iload 8, 2), (184, .iload 10, 2), (186, .invokevirtual 128, 3), (189, .iload 8, 2), (191, .iload 10, 2), (193, .if_icmp .ne 8, 3), (196, .bipush (-101), 2), (198, .goto 5, 3), (201, .iload 11, 2)]
theorem dcL_glimpses_8 : tL_glimpses_8.all (fun q => decide (decode cL_glimpses q.1 = .ok (q.2.1, q.2.2))) = true := by decide +kernel
def tL_glimpses_9 : List (Nat × Instr × Nat) := [(203, .if_icmp .eq 5, 3), (206, .iconst 0, 1), (207, .ireturn, 1), (208, .iinc 10 1, 3), (211, .goto (-103), 3), (214, .iinc 8 1, 3), (217, .goto (-182), 3), (220, .aload_n 0, 1), (221, .invokevirtual 131, 3), (224, .iload 7, 2), (226, .if_icmp .ne 13, 3), (229, .aload_n 0, 1)]
theorem dcL_glimpses_9 : tL_glimpses_9.all (fun q => decide (decode cL_glimpses q.1 = .ok (q.2.1, q.2.2))) = true := by decide +kernel
def tL_glimpses_10 : List (Nat × Instr × Nat) := [(230, .iconst 4, 1), (231, .invokevirtual 71, 3), (234, .iload 6, 2), (236, .if_icmp .eq 5, 3), (239, .iconst 0, 1), (240, .ireturn, 1), (241, .iload 6, 2), (243, .iload 5, 2), (245, .if_icmp .ne 6, 3), (248, .goto 145, 3), (251, .aload_n 1, 1), (252, .bipush 21, 2)]
theorem dcL_glimpses_10 : tL_glimpses_10.all (fun q => decide (decode cL_glimpses q.1 = .ok (q.2.1, q.2.2))) = true := by decide +kernel
def tL_glimpses_11 : List (Nat × Instr × Nat) := [(254, .iload 6, 2), (256, .iconst 4, 1), (257, .irem, 1), (258, .iadd, 1), (259, .invokestatic 8, 3), (262, .bipush 7, 2), (264, .iload 6, 2), (266, .iconst 4, 1), (267, .idiv, 1), (268, .imul, 1), (269, .ishr, 1), (270, .istore 8, 2)]
theorem dcL_glimpses_11 : tL_glimpses_11.all (fun q => decide (decode cL_glimpses q.1 = .ok (q.2.1, q.2.2))) = true := by decide +kernel
def tL_glimpses_12 : List (Nat × Instr × Nat) := [(272, .aload_n 2, 1), (273, .iconst 0, 1), (274, .iaload, 1), (275, .ifCond .ne 7, 3), (278, .iconst 0, 1), (279, .goto 11, 3), (282, .iload 8, 2), (284, .aload_n 2, 1), (285, .iconst 0, 1), (286, .iaload, 1), (287, .invokestatic 14, 3), (290, .istore 9, 2)]
theorem dcL_glimpses_12 : tL_glimpses_12.all (fun q => decide (decode cL_glimpses q.1 = .ok (q.2.1, q.2.2))) = true := by decide +kernel
def tL_glimpses_13 : List (Nat × Instr × Nat) := [(292, .aload 4, 2), (294, .iload 6, 2), (296, .iload 8, 2), (298, .iconst 2, 1), (299, .ishr, 1), (300, .bipush 6, 2), (302, .invokestatic 14, 3), (305, .ifCond .eq 12, 3), (308, .aload_n 2, 1), (309, .iconst 5, 1), (310, .iload 9, 2), (312, .iadd, 1)]
theorem dcL_glimpses_13 : tL_glimpses_13.all (fun q => decide (decode cL_glimpses q.1 = .ok (q.2.1, q.2.2))) = true := by decide +kernel
def tL_glimpses_14 : List (Nat × Instr × Nat) := [(313, .iaload, 1), (314, .ifCond .ne 28, 3), (317, .bipush 8, 2), (319, .iload 8, 2), (321, .iconst 3, 1), (322, .ishr, 1), (323, .bipush 60, 2), (325, .invokestatic 14, 3), (328, .imul, 1), (329, .iload 8, 2), (331, .iconst 4, 1), (332, .ishr, 1)]
theorem dcL_glimpses_14 : tL_glimpses_14.all (fun q => decide (decode cL_glimpses q.1 = .ok (q.2.1, q.2.2))) = true := by decide +kernel
def tL_glimpses_15 : List (Nat × Instr × Nat) := [(333, .bipush 6, 2), (335, .invokestatic 14, 3), (338, .iadd, 1), (339, .goto 24, 3), (342, .aload_n 3, 1), (343, .bipush 17, 2), (345, .iload 9, 2), (347, .imul, 1), (348, .iload 8, 2), (350, .iconst 3, 1), (351, .ishr, 1), (352, .aload_n 2, 1)]
theorem dcL_glimpses_15 : tL_glimpses_15.all (fun q => decide (decode cL_glimpses q.1 = .ok (q.2.1, q.2.2))) = true := by decide +kernel
def tL_glimpses_16 : List (Nat × Instr × Nat) := [(353, .iconst 5, 1), (354, .iload 9, 2), (356, .iadd, 1), (357, .iaload, 1), (358, .invokestatic 14, 3), (361, .iadd, 1), (362, .iaload, 1), (363, .iastore, 1), (364, .aload_n 0, 1), (365, .aload 4, 2), (367, .iload 6, 2), (369, .iaload, 1)]
theorem dcL_glimpses_16 : tL_glimpses_16.all (fun q => decide (decode cL_glimpses q.1 = .ok (q.2.1, q.2.2))) = true := by decide +kernel
def tL_glimpses_17 : List (Nat × Instr × Nat) := [(370, .bipush 8, 2), (372, .idiv, 1), (373, .aload 4, 2), (375, .iload 6, 2), (377, .iaload, 1), (378, .bipush 8, 2), (380, .irem, 1), (381, .invokevirtual 125, 3), (384, .iload 6, 2), (386, .iconst 1, 1), (387, .iadd, 1), (388, .if_icmp .eq 5, 3)]
theorem dcL_glimpses_17 : tL_glimpses_17.all (fun q => decide (decode cL_glimpses q.1 = .ok (q.2.1, q.2.2))) = true := by decide +kernel
def tL_glimpses_18 : List (Nat × Instr × Nat) := [(391, .iconst 0, 1), (392, .ireturn, 1), (393, .iinc 6 1, 3), (396, .goto (-374), 3), (399, .iload 5, 2), (401, .bipush 8, 2), (403, .if_icmp .ne 45, 3), (406, .aload_n 0, 1), (407, .iconst 0, 1), (408, .iconst 0, 1), (409, .invokevirtual 125, 3), (412, .bipush (-104), 2)]
theorem dcL_glimpses_18 : tL_glimpses_18.all (fun q => decide (decode cL_glimpses q.1 = .ok (q.2.1, q.2.2))) = true := by decide +kernel
def tL_glimpses_19 : List (Nat × Instr × Nat) := [(414, .if_icmp .ne 30, 3), (417, .aload_n 0, 1), (418, .invokevirtual 134, 3), (421, .bipush 8, 2), (423, .if_icmp .ne 21, 3), (426, .aload_n 0, 1), (427, .invokevirtual 131, 3), (430, .iconst 1, 1), (431, .aload_n 2, 1), (432, .iconst 0, 1), (433, .iaload, 1), (434, .ishl, 1)]
theorem dcL_glimpses_19 : tL_glimpses_19.all (fun q => decide (decode cL_glimpses q.1 = .ok (q.2.1, q.2.2))) = true := by decide +kernel
def tL_glimpses_20 : List (Nat × Instr × Nat) := [(435, .iconst 1, 1), (436, .isub, 1), (437, .if_icmp .ne 7, 3), (440, .iconst 1, 1), (441, .goto 28, 3), (444, .iconst 0, 1), (445, .goto 24, 3), (448, .aload_n 0, 1), (449, .invokevirtual 134, 3), (452, .iload 5, 2), (454, .if_icmp .ne 14, 3), (457, .aload_n 0, 1)]
theorem dcL_glimpses_20 : tL_glimpses_20.all (fun q => decide (decode cL_glimpses q.1 = .ok (q.2.1, q.2.2))) = true := by decide +kernel
def tL_glimpses_21 : List (Nat × Instr × Nat) := [(458, .invokevirtual 134, 3), (461, .ifCond .ne 7, 3), (464, .iconst 1, 1), (465, .goto 4, 3), (468, .iconst 0, 1), (469, .ireturn, 1)]
theorem dcL_glimpses_21 : tL_glimpses_21.all (fun q => decide (decode cL_glimpses q.1 = .ok (q.2.1, q.2.2))) = true := by decide +kernel
def tL_glimpsess : List (List (Nat × Instr × Nat)) := [tL_glimpses_0, tL_glimpses_1, tL_glimpses_2, tL_glimpses_3, tL_glimpses_4, tL_glimpses_5, tL_glimpses_6, tL_glimpses_7, tL_glimpses_8, tL_glimpses_9, tL_glimpses_10, tL_glimpses_11, tL_glimpses_12, tL_glimpses_13, tL_glimpses_14, tL_glimpses_15, tL_glimpses_16, tL_glimpses_17, tL_glimpses_18, tL_glimpses_19, tL_glimpses_20, tL_glimpses_21]
theorem dcL_glimpsess : ∀ t ∈ tL_glimpsess, t.all (fun q => decide (decode cL_glimpses q.1 = .ok (q.2.1, q.2.2))) = true := List.forall_mem_cons.mpr ⟨dcL_glimpses_0, List.forall_mem_cons.mpr ⟨dcL_glimpses_1, List.forall_mem_cons.mpr ⟨dcL_glimpses_2, List.forall_mem_cons.mpr ⟨dcL_glimpses_3, List.forall_mem_cons.mpr ⟨dcL_glimpses_4, List.forall_mem_cons.mpr ⟨dcL_glimpses_5, List.forall_mem_cons.mpr ⟨dcL_glimpses_6, List.forall_mem_cons.mpr ⟨dcL_glimpses_7, List.forall_mem_cons.mpr ⟨dcL_glimpses_8, List.forall_mem_cons.mpr ⟨dcL_glimpses_9, List.forall_mem_cons.mpr ⟨dcL_glimpses_10, List.forall_mem_cons.mpr ⟨dcL_glimpses_11, List.forall_mem_cons.mpr ⟨dcL_glimpses_12, List.forall_mem_cons.mpr ⟨dcL_glimpses_13, List.forall_mem_cons.mpr ⟨dcL_glimpses_14, List.forall_mem_cons.mpr ⟨dcL_glimpses_15, List.forall_mem_cons.mpr ⟨dcL_glimpses_16, List.forall_mem_cons.mpr ⟨dcL_glimpses_17, List.forall_mem_cons.mpr ⟨dcL_glimpses_18, List.forall_mem_cons.mpr ⟨dcL_glimpses_19, List.forall_mem_cons.mpr ⟨dcL_glimpses_20, List.forall_mem_cons.mpr ⟨dcL_glimpses_21, fun _ h => absurd h List.not_mem_nil⟩⟩⟩⟩⟩⟩⟩⟩⟩⟩⟩⟩⟩⟩⟩⟩⟩⟩⟩⟩⟩⟩
def tL_glimpses : List (Nat × Instr × Nat) := [(0, .bipush 8, 2), (2, .newarray .int, 2), (4, .astore 4, 2), (6, .aload_n 1, 1), (7, .bipush 20, 2), (9, .invokestatic 8, 3), (12, .bipush 9, 2), (14, .invokestatic 14, 3), (17, .istore 5, 2), (19, .iconst 0, 1), (20, .istore 6, 2), (22, .iload 6, 2), (24, .iload 5, 2), (26, .if_icmp .gt 373, 3), (29, .iconst 0, 1), (30, .istore 7, 2), (32, .iconst 0, 1), (33, .istore 8, 2), (35, .iload 8, 2), (37, .aload_n 2, 1), (38, .iconst 0, 1), (39, .iaload, 1), (40, .if_icmp .ge 180, 3), (43, .iconst 1, 1), (44, .istore 9, 2), (46, .iconst 0, 1), (47, .istore 10, 2), (49, .iload 10, 2), (51, .iload 6, 2), (53, .if_icmp .ge 34, 3), (56, .iload 9, 2), (58, .aload_n 2, 1), (59, .aload_n 3, 1), (60, .iload 8, 2), (62, .aload 4, 2), (64, .iload 10, 2), (66, .iaload, 1), (67, .invokestatic 56, 3), (70, .ifCond .le 7, 3), (73, .iconst 1, 1), (74, .goto 4, 3), (77, .iconst 0, 1), (78, .iand, 1), (79, .istore 9, 2), (81, .iinc 10 1, 3), (84, .goto (-35), 3), (87, .iload 7, 2), (89, .iload 9, 2), (91, .ifCond .eq 10, 3), (94, .iconst 1, 1), (95, .iload 8, 2), (97, .ishl, 1), (98, .goto 4, 3), (101, .iconst 0, 1), (102, .ior, 1), (103, .istore 7, 2), (105, .iconst 0, 1), (106, .istore 10, 2), (108, .iload 10, 2), (110, .aload_n 2, 1), (111, .iconst 0, 1), (112, .iaload, 1), (113, .if_icmp .ge 101, 3), (116, .iconst 1, 1), (117, .istore 11, 2), (119, .iconst 0, 1), (120, .istore 12, 2), (122, .iload 12, 2), (124, .iload 6, 2), (126, .if_icmp .ge 55, 3), (129, .iload 11, 2), (131, .aload_n 2, 1), (132, .aload_n 3, 1), (133, .iload 8, 2), (135, .aload 4, 2), (137, .iload 12, 2), (139, .iaload, 1), (140, .invokestatic 56, 3), (143, .ifCond .le 7, 3), (146, .iconst 1, 1), (147, .goto 4, 3), (150, .iconst 0, 1), (151, .aload_n 2, 1), (152, .aload_n 3, 1), (153, .iload 10, 2), (155, .aload 4, 2), (157, .iload 12, 2), (159, .iaload, 1), (160, .invokestatic 56, 3), (163, .ifCond .le 7, 3), (166, .iconst 1, 1), (167, .goto 4, 3), (170, .iconst 0, 1), (171, .iadd, 1), (172, .imul, 1), (173, .istore 11, 2), (175, .iinc 12 1, 3), (178, .goto (-56), 3), (181, .aload_n 0, 1), (182, .iload 8, 2), (184, .iload 10, 2), (186, .invokevirtual 128, 3), (189, .iload 8, 2), (191, .iload 10, 2), (193, .if_icmp .ne 8, 3), (196, .bipush (-101), 2), (198, .goto 5, 3), (201, .iload 11, 2), (203, .if_icmp .eq 5, 3), (206, .iconst 0, 1), (207, .ireturn, 1), (208, .iinc 10 1, 3), (211, .goto (-103), 3), (214, .iinc 8 1, 3), (217, .goto (-182), 3), (220, .aload_n 0, 1), (221, .invokevirtual 131, 3), (224, .iload 7, 2), (226, .if_icmp .ne 13, 3), (229, .aload_n 0, 1), (230, .iconst 4, 1), (231, .invokevirtual 71, 3), (234, .iload 6, 2), (236, .if_icmp .eq 5, 3), (239, .iconst 0, 1), (240, .ireturn, 1), (241, .iload 6, 2), (243, .iload 5, 2), (245, .if_icmp .ne 6, 3), (248, .goto 145, 3), (251, .aload_n 1, 1), (252, .bipush 21, 2), (254, .iload 6, 2), (256, .iconst 4, 1), (257, .irem, 1), (258, .iadd, 1), (259, .invokestatic 8, 3), (262, .bipush 7, 2), (264, .iload 6, 2), (266, .iconst 4, 1), (267, .idiv, 1), (268, .imul, 1), (269, .ishr, 1), (270, .istore 8, 2), (272, .aload_n 2, 1), (273, .iconst 0, 1), (274, .iaload, 1), (275, .ifCond .ne 7, 3), (278, .iconst 0, 1), (279, .goto 11, 3), (282, .iload 8, 2), (284, .aload_n 2, 1), (285, .iconst 0, 1), (286, .iaload, 1), (287, .invokestatic 14, 3), (290, .istore 9, 2), (292, .aload 4, 2), (294, .iload 6, 2), (296, .iload 8, 2), (298, .iconst 2, 1), (299, .ishr, 1), (300, .bipush 6, 2), (302, .invokestatic 14, 3), (305, .ifCond .eq 12, 3), (308, .aload_n 2, 1), (309, .iconst 5, 1), (310, .iload 9, 2), (312, .iadd, 1), (313, .iaload, 1), (314, .ifCond .ne 28, 3), (317, .bipush 8, 2), (319, .iload 8, 2), (321, .iconst 3, 1), (322, .ishr, 1), (323, .bipush 60, 2), (325, .invokestatic 14, 3), (328, .imul, 1), (329, .iload 8, 2), (331, .iconst 4, 1), (332, .ishr, 1), (333, .bipush 6, 2), (335, .invokestatic 14, 3), (338, .iadd, 1), (339, .goto 24, 3), (342, .aload_n 3, 1), (343, .bipush 17, 2), (345, .iload 9, 2), (347, .imul, 1), (348, .iload 8, 2), (350, .iconst 3, 1), (351, .ishr, 1), (352, .aload_n 2, 1), (353, .iconst 5, 1), (354, .iload 9, 2), (356, .iadd, 1), (357, .iaload, 1), (358, .invokestatic 14, 3), (361, .iadd, 1), (362, .iaload, 1), (363, .iastore, 1), (364, .aload_n 0, 1), (365, .aload 4, 2), (367, .iload 6, 2), (369, .iaload, 1), (370, .bipush 8, 2), (372, .idiv, 1), (373, .aload 4, 2), (375, .iload 6, 2), (377, .iaload, 1), (378, .bipush 8, 2), (380, .irem, 1), (381, .invokevirtual 125, 3), (384, .iload 6, 2), (386, .iconst 1, 1), (387, .iadd, 1), (388, .if_icmp .eq 5, 3), (391, .iconst 0, 1), (392, .ireturn, 1), (393, .iinc 6 1, 3), (396, .goto (-374), 3), (399, .iload 5, 2), (401, .bipush 8, 2), (403, .if_icmp .ne 45, 3), (406, .aload_n 0, 1), (407, .iconst 0, 1), (408, .iconst 0, 1), (409, .invokevirtual 125, 3), (412, .bipush (-104), 2), (414, .if_icmp .ne 30, 3), (417, .aload_n 0, 1), (418, .invokevirtual 134, 3), (421, .bipush 8, 2), (423, .if_icmp .ne 21, 3), (426, .aload_n 0, 1), (427, .invokevirtual 131, 3), (430, .iconst 1, 1), (431, .aload_n 2, 1), (432, .iconst 0, 1), (433, .iaload, 1), (434, .ishl, 1), (435, .iconst 1, 1), (436, .isub, 1), (437, .if_icmp .ne 7, 3), (440, .iconst 1, 1), (441, .goto 28, 3), (444, .iconst 0, 1), (445, .goto 24, 3), (448, .aload_n 0, 1), (449, .invokevirtual 134, 3), (452, .iload 5, 2), (454, .if_icmp .ne 14, 3), (457, .aload_n 0, 1), (458, .invokevirtual 134, 3), (461, .ifCond .ne 7, 3), (464, .iconst 1, 1), (465, .goto 4, 3), (468, .iconst 0, 1), (469, .ireturn, 1)]
set_option maxRecDepth 100000 in
theorem tL_glimpses_eq : tL_glimpses = tL_glimpsess.flatten := rfl
def mL_glimpses : xM := (yL_glimpses, cL_glimpses, 13, (some .boolean), 4, tL_glimpses)
theorem decL_glimpses : ∀ pc i n, xfetch mL_glimpses pc = some (i, n) → decode mL_glimpses.2.1 pc = .ok (i, n) := by
  refine xfetch_of ?_
  show tL_glimpses.all _ = true
  rw [tL_glimpses_eq, List.all_eq_true]
  intro q hq
  obtain ⟨t, ht, hqt⟩ := List.mem_flatten.mp hq
  exact List.all_eq_true.mp (dcL_glimpsess t ht) q hqt
theorem okL_glimpses : xmOk mL_glimpses := ⟨w655, ⟨by decide +kernel, by decide +kernel, by decide +kernel⟩, by decide, by decide +kernel, decL_glimpses⟩
def tL_doors_0 : List (Nat × Instr × Nat) := [(0, .iconst 0, 1), (1, .istore 4, 2), (3, .iload 4, 2), (5, .aload_n 2, 1), (6, .iconst 0, 1), (7, .iaload, 1), (8, .if_icmp .ge 143, 3), (11, .iconst 0, 1), (12, .istore 5, 2), (14, .iload 5, 2), (16, .aload_n 2, 1), (17, .iconst 0, 1)]
theorem dcL_doors_0 : tL_doors_0.all (fun q => decide (decode cL_doors q.1 = .ok (q.2.1, q.2.2))) = true := by decide +kernel
def tL_doors_1 : List (Nat × Instr × Nat) := [(18, .iaload, 1), (19, .if_icmp .ge 126, 3), (22, .sipush 999, 3), (25, .istore 6, 2), (27, .iconst 0, 1), (28, .istore 7, 2), (30, .iload 7, 2), (32, .aload_n 2, 1), (33, .iconst 5, 1), (34, .iload 4, 2), (36, .iadd, 1), (37, .iaload, 1)]
theorem dcL_doors_1 : tL_doors_1.all (fun q => decide (decode cL_doors q.1 = .ok (q.2.1, q.2.2))) = true := by decide +kernel
def tL_doors_2 : List (Nat × Instr × Nat) := [(38, .if_icmp .ge 62, 3), (41, .aload_n 2, 1), (42, .aload_n 3, 1), (43, .iload 5, 2), (45, .aload_n 3, 1), (46, .bipush 17, 2), (48, .iload 4, 2), (50, .imul, 1), (51, .iload 7, 2), (53, .iadd, 1), (54, .iaload, 1), (55, .invokestatic 56, 3)]
theorem dcL_doors_2 : tL_doors_2.all (fun q => decide (decode cL_doors q.1 = .ok (q.2.1, q.2.2))) = true := by decide +kernel
def tL_doors_3 : List (Nat × Instr × Nat) := [(58, .ifCond .le 36, 3), (61, .aload_n 3, 1), (62, .bipush 17, 2), (64, .iload 4, 2), (66, .imul, 1), (67, .iload 7, 2), (69, .iadd, 1), (70, .iaload, 1), (71, .bipush 8, 2), (73, .idiv, 1), (74, .iload 6, 2), (76, .if_icmp .ge 18, 3)]
theorem dcL_doors_3 : tL_doors_3.all (fun q => decide (decode cL_doors q.1 = .ok (q.2.1, q.2.2))) = true := by decide +kernel
def tL_doors_4 : List (Nat × Instr × Nat) := [(79, .aload_n 3, 1), (80, .bipush 17, 2), (82, .iload 4, 2), (84, .imul, 1), (85, .iload 7, 2), (87, .iadd, 1), (88, .iaload, 1), (89, .bipush 8, 2), (91, .idiv, 1), (92, .istore 6, 2), (94, .iinc 7 1, 3), (97, .goto (-67), 3)]
theorem dcL_doors_4 : tL_doors_4.all (fun q => decide (decode cL_doors q.1 = .ok (q.2.1, q.2.2))) = true := by decide +kernel
def tL_doors_5 : List (Nat × Instr × Nat) := [(100, .aload_n 0, 1), (101, .iload 4, 2), (103, .iload 5, 2), (105, .invokevirtual 137, 3), (108, .iload 4, 2), (110, .iload 5, 2), (112, .if_icmp .ne 8, 3), (115, .bipush (-101), 2), (117, .goto 17, 3), (120, .iload 6, 2), (122, .sipush 999, 3), (125, .if_icmp .ne 7, 3)]
theorem dcL_doors_5 : tL_doors_5.all (fun q => decide (decode cL_doors q.1 = .ok (q.2.1, q.2.2))) = true := by decide +kernel
def tL_doors_6 : List (Nat × Instr × Nat) := [(128, .iconst (-1), 1), (129, .goto 5, 3), (132, .iload 6, 2), (134, .if_icmp .eq 5, 3), (137, .iconst 0, 1), (138, .ireturn, 1), (139, .iinc 5 1, 3), (142, .goto (-128), 3), (145, .iinc 4 1, 3), (148, .goto (-145), 3), (151, .iconst (-1), 1), (152, .istore 4, 2)]
theorem dcL_doors_6 : tL_doors_6.all (fun q => decide (decode cL_doors q.1 = .ok (q.2.1, q.2.2))) = true := by decide +kernel
def tL_doors_7 : List (Nat × Instr × Nat) := [(154, .iconst 0, 1), (155, .istore 5, 2), (157, .aload_n 1, 1), (158, .bipush 14, 2), (160, .iaload, 1), (161, .iconst 1, 1), (162, .isub, 1), (163, .istore 6, 2), (165, .iload 6, 2), (167, .ifCond .lt 155, 3), (170, .iconst 0, 1), (171, .istore 7, 2)]
theorem dcL_doors_7 : tL_doors_7.all (fun q => decide (decode cL_doors q.1 = .ok (q.2.1, q.2.2))) = true := by decide +kernel
def tL_doors_8 : List (Nat × Instr × Nat) := [(173, .iconst 0, 1), (174, .istore 8, 2), (176, .iload 8, 2), (178, .aload_n 2, 1), (179, .iconst 0, 1), (180, .iaload, 1), (181, .if_icmp .ge 112, 3), (184, .iconst 0, 1), (185, .istore 9, 2), (187, .iconst 1, 1), (188, .istore 10, 2), (190, .iload 10, 2)]
theorem dcL_doors_8 : tL_doors_8.all (fun q => decide (decode cL_doors q.1 = .ok (q.2.1, q.2.2))) = true := by decide +kernel
def tL_doors_9 : List (Nat × Instr × Nat) := [(192, .aload_n 2, 1), (193, .iconst 5, 1), (194, .iload 8, 2), (196, .iadd, 1), (197, .iaload, 1), (198, .if_icmp .ge 74, 3), (201, .iload 9, 2), (203, .iconst 1, 1), (204, .aload_n 3, 1), (205, .bipush 17, 2), (207, .iload 8, 2), (209, .imul, 1)]
theorem dcL_doors_9 : tL_doors_9.all (fun q => decide (decode cL_doors q.1 = .ok (q.2.1, q.2.2))) = true := by decide +kernel
def tL_doors_10 : List (Nat × Instr × Nat) := [(210, .iload 10, 2), (212, .iadd, 1), (213, .iaload, 1), (214, .bipush 8, 2), (216, .irem, 1), (217, .ishl, 1), (218, .iconst 1, 1), (219, .aload_n 3, 1), (220, .bipush 17, 2), (222, .iload 8, 2), (224, .imul, 1), (225, .iload 10, 2)]
theorem dcL_doors_10 : tL_doors_10.all (fun q => decide (decode cL_doors q.1 = .ok (q.2.1, q.2.2))) = true := by decide +kernel
def tL_doors_11 : List (Nat × Instr × Nat) := [(227, .iadd, 1), (228, .iconst 1, 1), (229, .isub, 1), (230, .iaload, 1), (231, .bipush 8, 2), (233, .irem, 1), (234, .ishl, 1), (235, .ior, 1), (236, .iconst 1, 1), (237, .aload_n 1, 1), (238, .bipush 16, 2), (240, .iload 6, 2)]
theorem dcL_doors_11 : tL_doors_11.all (fun q => decide (decode cL_doors q.1 = .ok (q.2.1, q.2.2))) = true := by decide +kernel
def tL_doors_12 : List (Nat × Instr × Nat) := [(242, .iadd, 1), (243, .iaload, 1), (244, .ishl, 1), (245, .iconst 1, 1), (246, .aload_n 1, 1), (247, .bipush 26, 2), (249, .iload 6, 2), (251, .iadd, 1), (252, .iaload, 1), (253, .ishl, 1), (254, .ior, 1), (255, .if_icmp .ne 7, 3)]
theorem dcL_doors_12 : tL_doors_12.all (fun q => decide (decode cL_doors q.1 = .ok (q.2.1, q.2.2))) = true := by decide +kernel
def tL_doors_13 : List (Nat × Instr × Nat) := [(258, .iconst 1, 1), (259, .goto 4, 3), (262, .iconst 0, 1), (263, .ior, 1), (264, .istore 9, 2), (266, .iinc 10 1, 3), (269, .goto (-79), 3), (272, .iload 7, 2), (274, .iload 9, 2), (276, .ifCond .eq 7, 3), (279, .iconst 1, 1), (280, .goto 4, 3)]
theorem dcL_doors_13 : tL_doors_13.all (fun q => decide (decode cL_doors q.1 = .ok (q.2.1, q.2.2))) = true := by decide +kernel
def tL_doors_14 : List (Nat × Instr × Nat) := [(283, .iconst 0, 1), (284, .iadd, 1), (285, .istore 7, 2), (287, .iinc 8 1, 3), (290, .goto (-114), 3), (293, .iload 7, 2), (295, .ifCond .eq 21, 3), (298, .iload 7, 2), (300, .iload 5, 2), (302, .if_icmp .ge 6, 3), (305, .goto 11, 3), (308, .iload 7, 2)]
theorem dcL_doors_14 : tL_doors_14.all (fun q => decide (decode cL_doors q.1 = .ok (q.2.1, q.2.2))) = true := by decide +kernel
def tL_doors_15 : List (Nat × Instr × Nat) := [(310, .istore 5, 2), (312, .iload 6, 2), (314, .istore 4, 2), (316, .iinc 6 (-1), 3), (319, .goto (-154), 3), (322, .aload_n 0, 1), (323, .invokevirtual 140, 3), (326, .iload 4, 2), (328, .if_icmp .ne 7, 3), (331, .iconst 1, 1), (332, .goto 4, 3), (335, .iconst 0, 1)]
theorem dcL_doors_15 : tL_doors_15.all (fun q => decide (decode cL_doors q.1 = .ok (q.2.1, q.2.2))) = true := by decide +kernel
def tL_doors_16 : List (Nat × Instr × Nat) := [(336, .ireturn, 1)]
theorem dcL_doors_16 : tL_doors_16.all (fun q => decide (decode cL_doors q.1 = .ok (q.2.1, q.2.2))) = true := by decide +kernel
def tL_doorss : List (List (Nat × Instr × Nat)) := [tL_doors_0, tL_doors_1, tL_doors_2, tL_doors_3, tL_doors_4, tL_doors_5, tL_doors_6, tL_doors_7, tL_doors_8, tL_doors_9, tL_doors_10, tL_doors_11, tL_doors_12, tL_doors_13, tL_doors_14, tL_doors_15, tL_doors_16]
theorem dcL_doorss : ∀ t ∈ tL_doorss, t.all (fun q => decide (decode cL_doors q.1 = .ok (q.2.1, q.2.2))) = true := List.forall_mem_cons.mpr ⟨dcL_doors_0, List.forall_mem_cons.mpr ⟨dcL_doors_1, List.forall_mem_cons.mpr ⟨dcL_doors_2, List.forall_mem_cons.mpr ⟨dcL_doors_3, List.forall_mem_cons.mpr ⟨dcL_doors_4, List.forall_mem_cons.mpr ⟨dcL_doors_5, List.forall_mem_cons.mpr ⟨dcL_doors_6, List.forall_mem_cons.mpr ⟨dcL_doors_7, List.forall_mem_cons.mpr ⟨dcL_doors_8, List.forall_mem_cons.mpr ⟨dcL_doors_9, List.forall_mem_cons.mpr ⟨dcL_doors_10, List.forall_mem_cons.mpr ⟨dcL_doors_11, List.forall_mem_cons.mpr ⟨dcL_doors_12, List.forall_mem_cons.mpr ⟨dcL_doors_13, List.forall_mem_cons.mpr ⟨dcL_doors_14, List.forall_mem_cons.mpr ⟨dcL_doors_15, List.forall_mem_cons.mpr ⟨dcL_doors_16, fun _ h => absurd h List.not_mem_nil⟩⟩⟩⟩⟩⟩⟩⟩⟩⟩⟩⟩⟩⟩⟩⟩⟩
def tL_doors : List (Nat × Instr × Nat) := [(0, .iconst 0, 1), (1, .istore 4, 2), (3, .iload 4, 2), (5, .aload_n 2, 1), (6, .iconst 0, 1), (7, .iaload, 1), (8, .if_icmp .ge 143, 3), (11, .iconst 0, 1), (12, .istore 5, 2), (14, .iload 5, 2), (16, .aload_n 2, 1), (17, .iconst 0, 1), (18, .iaload, 1), (19, .if_icmp .ge 126, 3), (22, .sipush 999, 3), (25, .istore 6, 2), (27, .iconst 0, 1), (28, .istore 7, 2), (30, .iload 7, 2), (32, .aload_n 2, 1), (33, .iconst 5, 1), (34, .iload 4, 2), (36, .iadd, 1), (37, .iaload, 1), (38, .if_icmp .ge 62, 3), (41, .aload_n 2, 1), (42, .aload_n 3, 1), (43, .iload 5, 2), (45, .aload_n 3, 1), (46, .bipush 17, 2), (48, .iload 4, 2), (50, .imul, 1), (51, .iload 7, 2), (53, .iadd, 1), (54, .iaload, 1), (55, .invokestatic 56, 3), (58, .ifCond .le 36, 3), (61, .aload_n 3, 1), (62, .bipush 17, 2), (64, .iload 4, 2), (66, .imul, 1), (67, .iload 7, 2), (69, .iadd, 1), (70, .iaload, 1), (71, .bipush 8, 2), (73, .idiv, 1), (74, .iload 6, 2), (76, .if_icmp .ge 18, 3), (79, .aload_n 3, 1), (80, .bipush 17, 2), (82, .iload 4, 2), (84, .imul, 1), (85, .iload 7, 2), (87, .iadd, 1), (88, .iaload, 1), (89, .bipush 8, 2), (91, .idiv, 1), (92, .istore 6, 2), (94, .iinc 7 1, 3), (97, .goto (-67), 3), (100, .aload_n 0, 1), (101, .iload 4, 2), (103, .iload 5, 2), (105, .invokevirtual 137, 3), (108, .iload 4, 2), (110, .iload 5, 2), (112, .if_icmp .ne 8, 3), (115, .bipush (-101), 2), (117, .goto 17, 3), (120, .iload 6, 2), (122, .sipush 999, 3), (125, .if_icmp .ne 7, 3), (128, .iconst (-1), 1), (129, .goto 5, 3), (132, .iload 6, 2), (134, .if_icmp .eq 5, 3), (137, .iconst 0, 1), (138, .ireturn, 1), (139, .iinc 5 1, 3), (142, .goto (-128), 3), (145, .iinc 4 1, 3), (148, .goto (-145), 3), (151, .iconst (-1), 1), (152, .istore 4, 2), (154, .iconst 0, 1), (155, .istore 5, 2), (157, .aload_n 1, 1), (158, .bipush 14, 2), (160, .iaload, 1), (161, .iconst 1, 1), (162, .isub, 1), (163, .istore 6, 2), (165, .iload 6, 2), (167, .ifCond .lt 155, 3), (170, .iconst 0, 1), (171, .istore 7, 2), (173, .iconst 0, 1), (174, .istore 8, 2), (176, .iload 8, 2), (178, .aload_n 2, 1), (179, .iconst 0, 1), (180, .iaload, 1), (181, .if_icmp .ge 112, 3), (184, .iconst 0, 1), (185, .istore 9, 2), (187, .iconst 1, 1), (188, .istore 10, 2), (190, .iload 10, 2), (192, .aload_n 2, 1), (193, .iconst 5, 1), (194, .iload 8, 2), (196, .iadd, 1), (197, .iaload, 1), (198, .if_icmp .ge 74, 3), (201, .iload 9, 2), (203, .iconst 1, 1), (204, .aload_n 3, 1), (205, .bipush 17, 2), (207, .iload 8, 2), (209, .imul, 1), (210, .iload 10, 2), (212, .iadd, 1), (213, .iaload, 1), (214, .bipush 8, 2), (216, .irem, 1), (217, .ishl, 1), (218, .iconst 1, 1), (219, .aload_n 3, 1), (220, .bipush 17, 2), (222, .iload 8, 2), (224, .imul, 1), (225, .iload 10, 2), (227, .iadd, 1), (228, .iconst 1, 1), (229, .isub, 1), (230, .iaload, 1), (231, .bipush 8, 2), (233, .irem, 1), (234, .ishl, 1), (235, .ior, 1), (236, .iconst 1, 1), (237, .aload_n 1, 1), (238, .bipush 16, 2), (240, .iload 6, 2), (242, .iadd, 1), (243, .iaload, 1), (244, .ishl, 1), (245, .iconst 1, 1), (246, .aload_n 1, 1), (247, .bipush 26, 2), (249, .iload 6, 2), (251, .iadd, 1), (252, .iaload, 1), (253, .ishl, 1), (254, .ior, 1), (255, .if_icmp .ne 7, 3), (258, .iconst 1, 1), (259, .goto 4, 3), (262, .iconst 0, 1), (263, .ior, 1), (264, .istore 9, 2), (266, .iinc 10 1, 3), (269, .goto (-79), 3), (272, .iload 7, 2), (274, .iload 9, 2), (276, .ifCond .eq 7, 3), (279, .iconst 1, 1), (280, .goto 4, 3), (283, .iconst 0, 1), (284, .iadd, 1), (285, .istore 7, 2), (287, .iinc 8 1, 3), (290, .goto (-114), 3), (293, .iload 7, 2), (295, .ifCond .eq 21, 3), (298, .iload 7, 2), (300, .iload 5, 2), (302, .if_icmp .ge 6, 3), (305, .goto 11, 3), (308, .iload 7, 2), (310, .istore 5, 2), (312, .iload 6, 2), (314, .istore 4, 2), (316, .iinc 6 (-1), 3), (319, .goto (-154), 3), (322, .aload_n 0, 1), (323, .invokevirtual 140, 3), (326, .iload 4, 2), (328, .if_icmp .ne 7, 3), (331, .iconst 1, 1), (332, .goto 4, 3), (335, .iconst 0, 1), (336, .ireturn, 1)]
set_option maxRecDepth 100000 in
theorem tL_doors_eq : tL_doors = tL_doorss.flatten := rfl
def mL_doors : xM := (yL_doors, cL_doors, 11, (some .boolean), 4, tL_doors)
theorem decL_doors : ∀ pc i n, xfetch mL_doors pc = some (i, n) → decode mL_doors.2.1 pc = .ok (i, n) := by
  refine xfetch_of ?_
  show tL_doors.all _ = true
  rw [tL_doors_eq, List.all_eq_true]
  intro q hq
  obtain ⟨t, ht, hqt⟩ := List.mem_flatten.mp hq
  exact List.all_eq_true.mp (dcL_doorss t ht) q hqt
theorem okL_doors : xmOk mL_doors := ⟨w679, ⟨by decide +kernel, by decide +kernel, by decide +kernel⟩, by decide, by decide +kernel, decL_doors⟩
end
section
/-! ===== links ===== -/
theorem f4_9 : xfldOk RX4 9 4 0 := ⟨RX4, TX4, 2, rfl, by decide, w39⟩
theorem q4_9 : xputFOk RX4 9 4 0 := ⟨RX4, TX4, 2, rfl, by decide, w39, rfl, rfl⟩
theorem f4_21 : xfldOk RX4 21 4 1 := ⟨RX4, TX4, 2, rfl, by decide, w40⟩
theorem p4_21 : xputOk RX4 21 4 1 := ⟨RX4, TX4, 2, rfl, by decide, w40, rfl⟩
theorem f1_9 : xfldOk RX1 9 1 0 := ⟨RX1, TX1, 8, rfl, by decide, w53⟩
theorem q1_9 : xputFOk RX1 9 1 0 := ⟨RX1, TX1, 8, rfl, by decide, w53, rfl, rfl⟩
theorem f1_15 : xfldOk RX1 15 1 1 := ⟨RX1, TX1, 8, rfl, by decide, w54⟩
theorem q1_15 : xputFOk RX1 15 1 1 := ⟨RX1, TX1, 8, rfl, by decide, w54, rfl, rfl⟩
theorem f1_42 : xfldOk RX1 42 1 2 := ⟨RX1, TX1, 8, rfl, by decide, w55⟩
theorem p1_42 : xputOk RX1 42 1 2 := ⟨RX1, TX1, 8, rfl, by decide, w55, rfl⟩
theorem f1_45 : xfldOk RX1 45 1 3 := ⟨RX1, TX1, 8, rfl, by decide, w56⟩
theorem p1_45 : xputOk RX1 45 1 3 := ⟨RX1, TX1, 8, rfl, by decide, w56, rfl⟩
theorem f1_18 : xfldOk RX1 18 1 4 := ⟨RX1, TX1, 8, rfl, by decide, w57⟩
theorem p1_18 : xputOk RX1 18 1 4 := ⟨RX1, TX1, 8, rfl, by decide, w57, rfl⟩
theorem f1_48 : xfldOk RX1 48 1 5 := ⟨RX1, TX1, 8, rfl, by decide, w58⟩
theorem p1_48 : xputOk RX1 48 1 5 := ⟨RX1, TX1, 8, rfl, by decide, w58, rfl⟩
theorem f1_39 : xfldOk RX1 39 1 6 := ⟨RX1, TX1, 8, rfl, by decide, w59⟩
theorem p1_39 : xputOk RX1 39 1 6 := ⟨RX1, TX1, 8, rfl, by decide, w59, rfl⟩
theorem f1_54 : xfldOk RX1 54 1 7 := ⟨RX1, TX1, 8, rfl, by decide, w60⟩
theorem p1_54 : xputOk RX1 54 1 7 := ⟨RX1, TX1, 8, rfl, by decide, w60, rfl⟩
theorem f3_11 : xfldOk RX3 11 3 0 := ⟨RX3, TX3, 4, rfl, by decide, w84⟩
theorem q3_11 : xputFOk RX3 11 3 0 := ⟨RX3, TX3, 4, rfl, by decide, w84, rfl, rfl⟩
theorem f3_79 : xfldOk RX3 79 3 1 := ⟨RX3, TX3, 4, rfl, by decide, w85⟩
theorem p3_79 : xputOk RX3 79 3 1 := ⟨RX3, TX3, 4, rfl, by decide, w85, rfl⟩
theorem f3_66 : xfldOk RX3 66 3 2 := ⟨RX3, TX3, 4, rfl, by decide, w86⟩
theorem p3_66 : xputOk RX3 66 3 2 := ⟨RX3, TX3, 4, rfl, by decide, w86, rfl⟩
theorem f3_70 : xfldOk RX3 70 3 3 := ⟨RX3, TX3, 4, rfl, by decide, w87⟩
theorem p3_70 : xputOk RX3 70 3 3 := ⟨RX3, TX3, 4, rfl, by decide, w87, rfl⟩
theorem f7_9 : xfldOk RX7 9 7 0 := ⟨RX7, TX7, 4, rfl, by decide, w105⟩
theorem q7_9 : xputFOk RX7 9 7 0 := ⟨RX7, TX7, 4, rfl, by decide, w105, rfl, rfl⟩
theorem f7_15 : xfldOk RX7 15 7 1 := ⟨RX7, TX7, 4, rfl, by decide, w106⟩
theorem q7_15 : xputFOk RX7 15 7 1 := ⟨RX7, TX7, 4, rfl, by decide, w106, rfl, rfl⟩
theorem f7_18 : xfldOk RX7 18 7 2 := ⟨RX7, TX7, 4, rfl, by decide, w107⟩
theorem q7_18 : xputFOk RX7 18 7 2 := ⟨RX7, TX7, 4, rfl, by decide, w107, rfl, rfl⟩
theorem f7_21 : xfldOk RX7 21 7 3 := ⟨RX7, TX7, 4, rfl, by decide, w108⟩
theorem p7_21 : xputOk RX7 21 7 3 := ⟨RX7, TX7, 4, rfl, by decide, w108, rfl⟩
theorem f0_9 : xfldOk RX0 9 0 0 := ⟨RX0, TX0, 2, rfl, by decide, w124⟩
theorem q0_9 : xputFOk RX0 9 0 0 := ⟨RX0, TX0, 2, rfl, by decide, w124, rfl, rfl⟩
theorem f0_15 : xfldOk RX0 15 0 1 := ⟨RX0, TX0, 2, rfl, by decide, w125⟩
theorem p0_15 : xputOk RX0 15 0 1 := ⟨RX0, TX0, 2, rfl, by decide, w125, rfl⟩
theorem f5_12 : xfldOk RX5 12 5 0 := ⟨RX5, TX5, 2, rfl, by decide, w149⟩
theorem q5_12 : xputFOk RX5 12 5 0 := ⟨RX5, TX5, 2, rfl, by decide, w149, rfl, rfl⟩
theorem f5_18 : xfldOk RX5 18 5 1 := ⟨RX5, TX5, 2, rfl, by decide, w150⟩
theorem p5_18 : xputOk RX5 18 5 1 := ⟨RX5, TX5, 2, rfl, by decide, w150, rfl⟩
theorem f2_11 : xfldOk RX2 11 2 0 := ⟨RX2, TX2, 5, rfl, by decide, w156⟩
theorem q2_11 : xputFOk RX2 11 2 0 := ⟨RX2, TX2, 5, rfl, by decide, w156, rfl, rfl⟩
theorem f2_20 : xfldOk RX2 20 2 1 := ⟨RX2, TX2, 5, rfl, by decide, w157⟩
theorem q2_20 : xputFOk RX2 20 2 1 := ⟨RX2, TX2, 5, rfl, by decide, w157, rfl, rfl⟩
theorem f2_27 : xfldOk RX2 27 2 2 := ⟨RX2, TX2, 5, rfl, by decide, w158⟩
theorem q2_27 : xputFOk RX2 27 2 2 := ⟨RX2, TX2, 5, rfl, by decide, w158, rfl, rfl⟩
theorem f2_32 : xfldOk RX2 32 2 3 := ⟨RX2, TX2, 5, rfl, by decide, w159⟩
theorem p2_32 : xputOk RX2 32 2 3 := ⟨RX2, TX2, 5, rfl, by decide, w159, rfl⟩
theorem f6_11 : xfldOk RX6 11 6 0 := ⟨RX6, TX6, 7, rfl, by decide, w177⟩
theorem q6_11 : xputFOk RX6 11 6 0 := ⟨RX6, TX6, 7, rfl, by decide, w177, rfl, rfl⟩
theorem f6_15 : xfldOk RX6 15 6 1 := ⟨RX6, TX6, 7, rfl, by decide, w178⟩
theorem q6_15 : xputFOk RX6 15 6 1 := ⟨RX6, TX6, 7, rfl, by decide, w178, rfl, rfl⟩
theorem f8_9 : xfldOk RX8 9 8 0 := ⟨RX8, TX8, 3, rfl, by decide, w200⟩
theorem p8_9 : xputOk RX8 9 8 0 := ⟨RX8, TX8, 3, rfl, by decide, w200, rfl⟩
theorem f8_15 : xfldOk RX8 15 8 1 := ⟨RX8, TX8, 3, rfl, by decide, w201⟩
theorem p8_15 : xputOk RX8 15 8 1 := ⟨RX8, TX8, 3, rfl, by decide, w201, rfl⟩
theorem f8_18 : xfldOk RX8 18 8 2 := ⟨RX8, TX8, 3, rfl, by decide, w202⟩
theorem p8_18 : xputOk RX8 18 8 2 := ⟨RX8, TX8, 3, rfl, by decide, w202, rfl⟩
theorem f9_12 : xfldOk RX9 12 9 0 := ⟨RX9, TX9, 13, rfl, by decide, w211⟩
theorem q9_12 : xputFOk RX9 12 9 0 := ⟨RX9, TX9, 13, rfl, by decide, w211, rfl, rfl⟩
theorem f9_19 : xfldOk RX9 19 9 1 := ⟨RX9, TX9, 13, rfl, by decide, w212⟩
theorem q9_19 : xputFOk RX9 19 9 1 := ⟨RX9, TX9, 13, rfl, by decide, w212, rfl, rfl⟩
theorem f9_23 : xfldOk RX9 23 9 2 := ⟨RX9, TX9, 13, rfl, by decide, w213⟩
theorem q9_23 : xputFOk RX9 23 9 2 := ⟨RX9, TX9, 13, rfl, by decide, w213, rfl, rfl⟩
theorem f9_29 : xfldOk RX9 29 9 3 := ⟨RX9, TX9, 13, rfl, by decide, w214⟩
theorem q9_29 : xputFOk RX9 29 9 3 := ⟨RX9, TX9, 13, rfl, by decide, w214, rfl, rfl⟩
theorem f9_35 : xfldOk RX9 35 9 4 := ⟨RX9, TX9, 13, rfl, by decide, w215⟩
theorem q9_35 : xputFOk RX9 35 9 4 := ⟨RX9, TX9, 13, rfl, by decide, w215, rfl, rfl⟩
theorem f9_42 : xfldOk RX9 42 9 5 := ⟨RX9, TX9, 13, rfl, by decide, w216⟩
theorem q9_42 : xputFOk RX9 42 9 5 := ⟨RX9, TX9, 13, rfl, by decide, w216, rfl, rfl⟩
theorem f9_49 : xfldOk RX9 49 9 6 := ⟨RX9, TX9, 13, rfl, by decide, w217⟩
theorem q9_49 : xputFOk RX9 49 9 6 := ⟨RX9, TX9, 13, rfl, by decide, w217, rfl, rfl⟩
theorem f9_56 : xfldOk RX9 56 9 7 := ⟨RX9, TX9, 13, rfl, by decide, w218⟩
theorem q9_56 : xputFOk RX9 56 9 7 := ⟨RX9, TX9, 13, rfl, by decide, w218, rfl, rfl⟩
theorem f9_63 : xfldOk RX9 63 9 8 := ⟨RX9, TX9, 13, rfl, by decide, w219⟩
theorem q9_63 : xputFOk RX9 63 9 8 := ⟨RX9, TX9, 13, rfl, by decide, w219, rfl, rfl⟩
theorem f9_70 : xfldOk RX9 70 9 9 := ⟨RX9, TX9, 13, rfl, by decide, w220⟩
theorem q9_70 : xputFOk RX9 70 9 9 := ⟨RX9, TX9, 13, rfl, by decide, w220, rfl, rfl⟩
theorem f9_105 : xfldOk RX9 105 9 10 := ⟨RX9, TX9, 13, rfl, by decide, w221⟩
theorem p9_105 : xputOk RX9 105 9 10 := ⟨RX9, TX9, 13, rfl, by decide, w221, rfl⟩
theorem f9_101 : xfldOk RX9 101 9 11 := ⟨RX9, TX9, 13, rfl, by decide, w222⟩
theorem p9_101 : xputOk RX9 101 9 11 := ⟨RX9, TX9, 13, rfl, by decide, w222, rfl⟩
theorem f9_217 : xfldOk RX9 217 9 12 := ⟨RX9, TX9, 13, rfl, by decide, w223⟩
theorem k11_74 : xcI RL 74 mX9_init := ⟨w27, w28, w15, rfl, rfl⟩
theorem k9_11 : xcIN RX9 11 mX4_init := ⟨w35, w36, w16, rfl, rfl⟩
theorem k9_18 : xcIN RX9 18 mX1_init := ⟨w49, w50, w17, rfl, rfl⟩
theorem k9_28 : xcIN RX9 28 mX3_init := ⟨w80, w81, w18, rfl, rfl⟩
theorem k9_41 : xcIN RX9 41 mX7_init := ⟨w101, w102, w19, rfl, rfl⟩
theorem k9_48 : xcIN RX9 48 mX0_init := ⟨w120, w121, w20, rfl, rfl⟩
theorem k9_55 : xcI RX9 55 mX2_init := ⟨w133, w134, w21, rfl, rfl⟩
theorem k2_19 : xcIN RX2 19 mX7_init := ⟨w139, w102, w19, rfl, rfl⟩
theorem k2_26 : xcIN RX2 26 mX0_init := ⟨w141, w121, w20, rfl, rfl⟩
theorem k2_31 : xcIN RX2 31 mX5_init := ⟨w143, w144, w22, rfl, rfl⟩
theorem k5_11 : xcIN RX5 11 mX3_init := ⟨w148, w81, w18, rfl, rfl⟩
theorem k9_62 : xcIN RX9 62 mX6_init := ⟨w173, w174, w23, rfl, rfl⟩
theorem k9_69 : xcIN RX9 69 mX8_init := ⟨w196, w197, w24, rfl, rfl⟩
theorem k9_74 : xcIN RX9 74 mX5_init := ⟨w210, w144, w22, rfl, rfl⟩
theorem k11_43 : xcV RL 43 mX9_fault := ⟨w251, w252, w253, w15⟩
theorem k9_90 : xcV RX9 90 mX1_read := ⟨w255, w256, w257, w17⟩
theorem k1_22 : xcV RX1 22 mX1_clear := ⟨w259, w261, w0, w17⟩
theorem k1_25 : xcV RX1 25 mX4_length := ⟨w263, w264, w265, w16⟩
theorem k1_31 : xcV RX1 31 mX4_at := ⟨w267, w268, w269, w16⟩
theorem k1_35 : xcV RX1 35 mX1_takes := ⟨w271, w273, w1, w17⟩
theorem k1_51 : xcSN RX1 51 mX9_roomDigitOf := ⟨w275, w276, w15⟩
theorem k9_334 : xcS RX9 334 mX9_digitOf := ⟨w278, w279, w15⟩
theorem k1_57 : xcV RX1 57 mX1_goesOn := ⟨w281, w283, w2, w17⟩
theorem k1_61 : xcV RX1 61 mX1_addsDoor := ⟨w285, w287, w3, w17⟩
theorem k1_72 : xcSN RX1 72 mX9_isRoom := ⟨w289, w290, w15⟩
theorem k1_75 : xcV RX1 75 mX1_doorBetween := ⟨w292, w293, w294, w17⟩
theorem k1_65 : xcSN RX1 65 mX9_digitOf := ⟨w296, w279, w15⟩
theorem k1_69 : xcV RX1 69 mX1_addsSight := ⟨w297, w299, w4, w17⟩
theorem k1_79 : xcV RX1 79 mX1_isSeenFrom := ⟨w301, w302, w303, w17⟩
theorem k9_94 : xcS RX9 94 mX3_faultIn := ⟨w305, w306, w18⟩
theorem k3_15 : xcV RX3 15 mX4_length := ⟨w308, w264, w265, w16⟩
theorem k3_21 : xcV RX3 21 mX4_at := ⟨w309, w268, w269, w16⟩
theorem k3_25 : xcS RX3 25 mX3_mayStand := ⟨w310, w311, w18⟩
theorem k3_29 : xcSN RX3 29 mX9_digitOf := ⟨w313, w279, w15⟩
theorem k3_33 : xcSN RX3 33 mX9_roomDigitOf := ⟨w314, w276, w15⟩
theorem k3_36 : xcS RX3 36 mX3_stepOf := ⟨w315, w316, w18⟩
theorem k11_79 : xcV RL 79 mX9_house := ⟨w318, w319, w320, w15⟩
theorem k9_79 : xcV RX9 79 mX4_length := ⟨w322, w264, w265, w16⟩
theorem k9_97 : xcV RX9 97 mX1_isWhole := ⟨w323, w324, w325, w17⟩
theorem k9_108 : xcV RX9 108 mX7_clear := ⟨w327, w328, w329, w19⟩
theorem k9_109 : xcV RX9 109 mX0_clear := ⟨w331, w332, w333, w20⟩
theorem k9_110 : xcV RX9 110 mX2_drop := ⟨w335, w336, w337, w21⟩
theorem k9_87 : xcV RX9 87 mX4_clear := ⟨w339, w340, w341, w16⟩
theorem k9_113 : xcV RX9 113 mX1_doors := ⟨w343, w344, w345, w17⟩
theorem k11_83 : xcV RL 83 mX9_between := ⟨w347, w348, w349, w15⟩
theorem k9_116 : xcS RX9 116 mX9_isRoom := ⟨w351, w290, w15⟩
theorem k9_120 : xcV RX9 120 mX9_hasHouse := ⟨w352, w354, w5, w15⟩
theorem k9_123 : xcV RX9 123 mX1_doorBetween := ⟨w356, w293, w294, w17⟩
theorem k9_127 : xcV RX9 127 mX1_isSeenFrom := ⟨w357, w302, w303, w17⟩
theorem k11_31 : xcV RL 31 mX9_person := ⟨w358, w359, w360, w15⟩
theorem k9_131 : xcS RX9 131 mX9_isKind := ⟨w362, w363, w15⟩
theorem k9_134 : xcV RX9 134 mX9_personAt := ⟨w365, w367, w6, w15⟩
theorem k9_138 : xcV RX9 138 mX5_begin := ⟨w369, w370, w371, w22⟩
theorem k5_22 : xcV RX5 22 mX3_clear := ⟨w373, w374, w375, w18⟩
theorem k11_46 : xcV RL 46 mX9_life := ⟨w377, w378, w379, w15⟩
theorem k9_142 : xcV RX9 142 mX5_kind := ⟨w381, w382, w383, w22⟩
theorem k9_145 : xcV RX9 145 mX1_leapOf := ⟨w385, w386, w387, w17⟩
theorem k1_82 : xcSN RX1 82 mX9_isOfKind := ⟨w389, w390, w15⟩
theorem k9_149 : xcV RX9 149 mX3_read := ⟨w392, w393, w394, w18⟩
theorem k3_39 : xcV RX3 39 mX3_clear := ⟨w396, w374, w375, w18⟩
theorem k3_42 : xcS RX3 42 mX3_faultIn := ⟨w397, w306, w18⟩
theorem k3_46 : xcSN RX3 46 mX9_spotOf := ⟨w398, w399, w15⟩
theorem k3_50 : xcV RX3 50 mX3_add := ⟨w401, w403, w7, w18⟩
theorem k3_54 : xcV RX3 54 mX3_takes := ⟨w405, w407, w8, w18⟩
theorem k3_58 : xcV RX3 58 mX3_lastSpot := ⟨w409, w410, w411, w18⟩
theorem k3_82 : xcV RX3 82 mX3_spotAt := ⟨w413, w414, w415, w18⟩
theorem k3_61 : xcV RX3 61 mX1_spotAfter := ⟨w417, w418, w419, w17⟩
theorem k1_85 : xcSN RX1 85 mX9_minuteOf := ⟨w421, w422, w15⟩
theorem k1_88 : xcSN RX1 88 mX9_roomOf := ⟨w424, w425, w15⟩
theorem k1_91 : xcSN RX1 91 mX9_spotOf := ⟨w427, w399, w15⟩
theorem k1_94 : xcSN RX1 94 mX9_isMinute := ⟨w428, w429, w15⟩
theorem k3_73 : xcSN RX3 73 mX9_roomOf := ⟨w431, w425, w15⟩
theorem k3_76 : xcV RX3 76 mX1_doorBetween := ⟨w432, w293, w294, w17⟩
theorem k9_152 : xcV RX9 152 mX5_lived := ⟨w433, w434, w435, w22⟩
theorem k9_156 : xcV RX9 156 mX3_copyFrom := ⟨w437, w438, w439, w18⟩
theorem k9_160 : xcV RX9 160 mX3_selves := ⟨w441, w442, w443, w18⟩
theorem k11_63 : xcV RL 63 mX9_about := ⟨w445, w446, w447, w15⟩
theorem k9_163 : xcV RX9 163 mX3_lastSpot := ⟨w449, w410, w411, w18⟩
theorem k9_166 : xcV RX9 166 mX3_throughs := ⟨w450, w451, w452, w18⟩
theorem k9_169 : xcS RX9 169 mX9_minuteOf := ⟨w454, w422, w15⟩
theorem k9_172 : xcS RX9 172 mX9_roomOf := ⟨w455, w425, w15⟩
theorem k11_94 : xcV RL 94 mX9_as := ⟨w456, w457, w458, w15⟩
theorem k9_175 : xcS RX9 175 mX9_isOfKind := ⟨w460, w390, w15⟩
theorem k11_49 : xcV RL 49 mX9_self := ⟨w461, w462, w463, w15⟩
theorem k9_178 : xcV RX9 178 mX3_spotAt := ⟨w465, w414, w415, w18⟩
theorem k11_53 : xcV RL 53 mX9_there := ⟨w466, w467, w468, w15⟩
theorem k9_181 : xcS RX9 181 mX9_isMinute := ⟨w470, w429, w15⟩
theorem k9_184 : xcS RX9 184 mX9_spotOf := ⟨w471, w399, w15⟩
theorem k9_187 : xcV RX9 187 mX3_selvesAt := ⟨w472, w473, w474, w18⟩
theorem k11_66 : xcV RL 66 mX9_met := ⟨w476, w477, w478, w15⟩
theorem k9_190 : xcV RX9 190 mX5_firstMeeting := ⟨w480, w481, w482, w22⟩
theorem k5_25 : xcV RX5 25 mX3_selves := ⟨w484, w442, w443, w18⟩
theorem k5_29 : xcV RX5 29 mX3_spotAt := ⟨w485, w414, w415, w18⟩
theorem k5_33 : xcSN RX5 33 mX9_minuteOf := ⟨w486, w422, w15⟩
theorem k5_36 : xcV RX5 36 mX5_isMetBySelf := ⟨w487, w489, w9, w22⟩
theorem k5_40 : xcSN RX5 40 mX9_roomOf := ⟨w491, w425, w15⟩
theorem k5_43 : xcV RX5 43 mX1_meetingRooms := ⟨w492, w493, w494, w17⟩
theorem k11_68 : xcV RL 68 mX9_most := ⟨w496, w497, w498, w15⟩
theorem k9_194 : xcV RX9 194 mX3_fullestMinute := ⟨w500, w501, w502, w18⟩
theorem k3_85 : xcSN RX3 85 mX9_minuteOf := ⟨w504, w422, w15⟩
theorem k3_88 : xcV RX3 88 mX3_selvesIn := ⟨w505, w506, w507, w18⟩
theorem k9_197 : xcV RX9 197 mX3_selvesIn := ⟨w509, w506, w507, w18⟩
theorem k11_122 : xcV RL 122 mX9_task := ⟨w510, w511, w512, w15⟩
theorem k9_207 : xcV RX9 207 mX7_add := ⟨w514, w515, w516, w19⟩
theorem k11_119 : xcV RL 119 mX9_done := ⟨w518, w519, w520, w15⟩
theorem k9_211 : xcV RX9 211 mX7_doneBy := ⟨w522, w523, w524, w19⟩
theorem k7_39 : xcV RX7 39 mX3_selves := ⟨w526, w442, w443, w18⟩
theorem k7_45 : xcV RX7 45 mX3_spotAt := ⟨w527, w414, w415, w18⟩
theorem k7_48 : xcV RX7 48 mX7_doneAt := ⟨w528, w529, w530, w19⟩
theorem k7_32 : xcSN RX7 32 mX9_minuteOf := ⟨w532, w422, w15⟩
theorem k7_36 : xcSN RX7 36 mX9_roomOf := ⟨w533, w425, w15⟩
theorem k11_125 : xcV RL 125 mX9_glimpse := ⟨w534, w535, w536, w15⟩
theorem k9_233 : xcV RX9 233 mX0_add := ⟨w538, w539, w540, w20⟩
theorem k11_115 : xcV RL 115 mX9_lives := ⟨w542, w543, w544, w15⟩
theorem k9_244 : xcV RX9 244 mX8_begin := ⟨w546, w547, w548, w24⟩
theorem k9_247 : xcV RX9 247 mX8_go := ⟨w550, w551, w552, w24⟩
theorem k8_21 : xcV RX8 21 mX8_waysOn := ⟨w554, w556, w10, w24⟩
theorem k8_39 : xcV RX8 39 mX1_spotAfter := ⟨w558, w418, w419, w17⟩
theorem k8_25 : xcV RX8 25 mX8_draw := ⟨w559, w561, w11, w24⟩
theorem k8_29 : xcV RX8 29 mX8_take := ⟨w567, w569, w12, w24⟩
theorem k9_251 : xcV RX9 251 mX8_tell := ⟨w571, w572, w573, w24⟩
theorem k8_33 : xcSN RX8 33 mX9_minuteOf := ⟨w575, w422, w15⟩
theorem k8_36 : xcSN RX8 36 mX9_roomOf := ⟨w576, w425, w15⟩
theorem k11_71 : xcV RL 71 mX9_count := ⟨w577, w578, w579, w15⟩
theorem k9_270 : xcV RX9 270 mX1_sights := ⟨w581, w582, w583, w17⟩
theorem k9_214 : xcV RX9 214 mX7_size := ⟨w585, w586, w587, w19⟩
theorem k9_235 : xcV RX9 235 mX0_size := ⟨w589, w590, w591, w20⟩
theorem k9_273 : xcV RX9 273 mX1_back := ⟨w593, w594, w595, w17⟩
theorem k9_276 : xcV RX9 276 mX1_lowRoom := ⟨w597, w598, w599, w17⟩
theorem k11_8 : xcS RL 8 mL_cell := ⟨w601, w602, w14⟩
theorem k11_14 : xcS RL 14 mL_at := ⟨w605, w606, w14⟩
theorem k11_75 : xcS RL 75 mL_houseText := ⟨w608, w609, w14⟩
theorem k11_39 : xcS RL 39 mL_write := ⟨w611, w612, w14⟩
theorem k11_18 : xcV RL 18 mX9_letters := ⟨w614, w615, w616, w15⟩
theorem k9_75 : xcS RX9 75 mX4_lettersIn := ⟨w618, w619, w16⟩
theorem k4_15 : xcS RX4 15 mX4_byteOf := ⟨w621, w622, w16⟩
theorem k9_83 : xcV RX9 83 mX4_addAll := ⟨w625, w626, w627, w16⟩
theorem k11_27 : xcS RL 27 mL_step := ⟨w629, w630, w14⟩
theorem k11_24 : xcS RL 24 mL_back := ⟨w632, w633, w14⟩
theorem k11_86 : xcS RL 86 mL_people := ⟨w635, w636, w14⟩
theorem k11_35 : xcS RL 35 mL_lifeText := ⟨w638, w639, w14⟩
theorem k11_90 : xcS RL 90 mL_stands := ⟨w641, w642, w14⟩
theorem k11_56 : xcS RL 56 mL_there := ⟨w644, w645, w14⟩
theorem k11_59 : xcS RL 59 mL_met := ⟨w647, w648, w14⟩
theorem k11_97 : xcS RL 97 mL_tasks := ⟨w650, w651, w14⟩
theorem k11_100 : xcS RL 100 mL_glimpses := ⟨w653, w654, w14⟩
theorem k11_128 : xcV RL 128 mX9_pair := ⟨w656, w657, w658, w15⟩
theorem k9_240 : xcV RX9 240 mX0_waysBetween := ⟨w660, w661, w662, w20⟩
theorem k0_26 : xcV RX0 26 mX3_selvesAt := ⟨w664, w473, w474, w18⟩
theorem k11_131 : xcV RL 131 mX9_whose := ⟨w665, w666, w667, w15⟩
theorem k9_236 : xcV RX9 236 mX0_areAllOf := ⟨w669, w670, w671, w20⟩
theorem k11_134 : xcV RL 134 mX9_forget := ⟨w673, w674, w675, w15⟩
theorem k11_103 : xcS RL 103 mL_doors := ⟨w677, w678, w14⟩
theorem k11_137 : xcV RL 137 mX9_meet := ⟨w680, w681, w682, w15⟩
theorem k9_200 : xcV RX9 200 mX3_firstMinuteWith := ⟨w684, w685, w686, w18⟩
theorem k3_91 : xcV RX3 91 mX3_selvesAt := ⟨w688, w473, w474, w18⟩
theorem k11_140 : xcV RL 140 mX9_locked := ⟨w689, w690, w691, w15⟩
theorem k9_204 : xcV RX9 204 mX9_usersOf := ⟨w693, w695, w13, w15⟩
theorem k9_331 : xcV RX9 331 mX3_usesDoor := ⟨w697, w698, w699, w18⟩
theorem n11_19 : xnewOk RL 19 9 := ⟨RX9, TX9, 13, rfl, w25, w26, w15⟩
theorem n9_9 : xnewOk RX9 9 4 := ⟨RX4, TX4, 2, rfl, w33, w34, w16⟩
theorem n9_16 : xnewOk RX9 16 1 := ⟨RX1, TX1, 8, rfl, w47, w48, w17⟩
theorem n9_26 : xnewOk RX9 26 3 := ⟨RX3, TX3, 4, rfl, w78, w79, w18⟩
theorem n9_33 : xnewOk RX9 33 5 := ⟨RX5, TX5, 2, rfl, w97, w142, w22⟩
theorem n9_39 : xnewOk RX9 39 7 := ⟨RX7, TX7, 4, rfl, w99, w100, w19⟩
theorem n9_46 : xnewOk RX9 46 0 := ⟨RX0, TX0, 2, rfl, w118, w119, w20⟩
theorem n9_53 : xnewOk RX9 53 2 := ⟨RX2, TX2, 5, rfl, w131, w132, w21⟩
theorem n2_9 : xnewOk RX2 9 5 := ⟨RX5, TX5, 2, rfl, w137, w142, w22⟩
theorem n2_17 : xnewOk RX2 17 7 := ⟨RX7, TX7, 4, rfl, w138, w100, w19⟩
theorem n2_24 : xnewOk RX2 24 0 := ⟨RX0, TX0, 2, rfl, w140, w119, w20⟩
theorem n5_9 : xnewOk RX5 9 3 := ⟨RX3, TX3, 4, rfl, w147, w79, w18⟩
theorem n9_60 : xnewOk RX9 60 6 := ⟨RX6, TX6, 7, rfl, w171, w172, w23⟩
theorem n9_67 : xnewOk RX9 67 8 := ⟨RX8, TX8, 3, rfl, w194, w195, w24⟩
end
section
/-! ===== the law: its instructions, in pieces ===== -/
def tL0 : List (Nat × Instr × Nat) := [(0, .new 19, 3), (3, .dup, 1), (4, .invokespecial 74, 3), (7, .astore_n 1, 1), (8, .bipush 36, 2), (10, .newarray .int, 2), (12, .astore_n 2, 1), (13, .bipush 8, 2), (15, .newarray .int, 2), (17, .astore_n 3, 1), (18, .bipush 51, 2), (20, .newarray .int, 2)]
theorem dcL0 : tL0.all (fun q => decide (decode cL_law q.1 = .ok (q.2.1, q.2.2))) = true := by decide +kernel
def tL1 : List (Nat × Instr × Nat) := [(22, .astore 4, 2), (24, .bipush 45, 2), (26, .newarray .int, 2), (28, .astore 5, 2), (30, .aload_n 0, 1), (31, .iconst 0, 1), (32, .aload_n 2, 1), (33, .aload 5, 2), (35, .invokestatic 75, 3), (38, .istore 6, 2), (40, .aload_n 1, 1), (41, .aload 5, 2)]
theorem dcL1 : tL1.all (fun q => decide (decode cL_law q.1 = .ok (q.2.1, q.2.2))) = true := by decide +kernel
def tL2 : List (Nat × Instr × Nat) := [(43, .iload 6, 2), (45, .invokestatic 39, 3), (48, .ifCond .eq 62, 3), (51, .aload_n 1, 1), (52, .iconst 0, 1), (53, .invokevirtual 43, 3), (56, .iload 6, 2), (58, .if_icmp .ne 52, 3), (61, .aload_n 1, 1), (62, .invokevirtual 79, 3), (65, .aload_n 2, 1), (66, .bipush 14, 2)]
theorem dcL2 : tL2.all (fun q => decide (decode cL_law q.1 = .ok (q.2.1, q.2.2))) = true := by decide +kernel
def tL3 : List (Nat × Instr × Nat) := [(68, .iaload, 1), (69, .if_icmp .ne 41, 3), (72, .aload_n 1, 1), (73, .iconst 1, 1), (74, .invokevirtual 71, 3), (77, .aload_n 2, 1), (78, .bipush 15, 2), (80, .iaload, 1), (81, .if_icmp .ne 29, 3), (84, .aload_n 1, 1), (85, .bipush 8, 2), (87, .invokevirtual 71, 3)]
theorem dcL3 : tL3.all (fun q => decide (decode cL_law q.1 = .ok (q.2.1, q.2.2))) = true := by decide +kernel
def tL4 : List (Nat × Instr × Nat) := [(90, .aload_n 2, 1), (91, .bipush 13, 2), (93, .iaload, 1), (94, .if_icmp .ne 16, 3), (97, .aload_n 1, 1), (98, .bipush 9, 2), (100, .invokevirtual 71, 3), (103, .aload_n 2, 1), (104, .bipush 12, 2), (106, .iaload, 1), (107, .if_icmp .eq 5, 3), (110, .iconst 0, 1)]
theorem dcL4 : tL4.all (fun q => decide (decode cL_law q.1 = .ok (q.2.1, q.2.2))) = true := by decide +kernel
def tL5 : List (Nat × Instr × Nat) := [(111, .ireturn, 1), (112, .iconst 0, 1), (113, .istore 7, 2), (115, .iload 7, 2), (117, .bipush 6, 2), (119, .if_icmp .ge 74, 3), (122, .iconst 0, 1), (123, .istore 8, 2), (125, .iload 8, 2), (127, .bipush 6, 2), (129, .if_icmp .ge 58, 3), (132, .aload_n 1, 1)]
theorem dcL5 : tL5.all (fun q => decide (decode cL_law q.1 = .ok (q.2.1, q.2.2))) = true := by decide +kernel
def tL6 : List (Nat × Instr × Nat) := [(133, .iload 7, 2), (135, .iload 8, 2), (137, .invokevirtual 83, 3), (140, .iload 7, 2), (142, .iload 8, 2), (144, .if_icmp .ne 8, 3), (147, .bipush (-101), 2), (149, .goto 27, 3), (152, .aload_n 2, 1), (153, .iload 7, 2), (155, .iaload, 1), (156, .iload 8, 2)]
theorem dcL6 : tL6.all (fun q => decide (decode cL_law q.1 = .ok (q.2.1, q.2.2))) = true := by decide +kernel
def tL7 : List (Nat × Instr × Nat) := [(158, .ishr, 1), (159, .iconst 1, 1), (160, .iand, 1), (161, .iconst 2, 1), (162, .aload_n 2, 1), (163, .bipush 6, 2), (165, .iload 7, 2), (167, .iadd, 1), (168, .iaload, 1), (169, .iload 8, 2), (171, .ishr, 1), (172, .iconst 1, 1)]
theorem dcL7 : tL7.all (fun q => decide (decode cL_law q.1 = .ok (q.2.1, q.2.2))) = true := by decide +kernel
def tL8 : List (Nat × Instr × Nat) := [(173, .iand, 1), (174, .imul, 1), (175, .iadd, 1), (176, .if_icmp .eq 5, 3), (179, .iconst 0, 1), (180, .ireturn, 1), (181, .iinc 8 1, 3), (184, .goto (-59), 3), (187, .iinc 7 1, 3), (190, .goto (-75), 3), (193, .aload_n 1, 1), (194, .aload_n 0, 1)]
theorem dcL8 : tL8.all (fun q => decide (decode cL_law q.1 = .ok (q.2.1, q.2.2))) = true := by decide +kernel
def tL9 : List (Nat × Instr × Nat) := [(195, .iconst 3, 1), (196, .iconst 0, 1), (197, .aload_n 2, 1), (198, .aload_n 3, 1), (199, .aload 4, 2), (201, .aload 5, 2), (203, .invokestatic 86, 3), (206, .ifCond .eq 14, 3), (209, .aload_n 1, 1), (210, .aload_n 2, 1), (211, .aload_n 3, 1), (212, .aload 4, 2)]
theorem dcL9 : tL9.all (fun q => decide (decode cL_law q.1 = .ok (q.2.1, q.2.2))) = true := by decide +kernel
def tL10 : List (Nat × Instr × Nat) := [(214, .invokestatic 90, 3), (217, .ifCond .ne 5, 3), (220, .iconst 0, 1), (221, .ireturn, 1), (222, .iconst 0, 1), (223, .istore 7, 2), (225, .iload 7, 2), (227, .aload_n 3, 1), (228, .iconst 0, 1), (229, .iaload, 1), (230, .if_icmp .ge 75, 3), (233, .iconst 0, 1)]
theorem dcL10 : tL10.all (fun q => decide (decode cL_law q.1 = .ok (q.2.1, q.2.2))) = true := by decide +kernel
def tL11 : List (Nat × Instr × Nat) := [(234, .istore 8, 2), (236, .iload 8, 2), (238, .iconst 5, 1), (239, .if_icmp .ge 60, 3), (242, .aload_n 1, 1), (243, .iload 7, 2), (245, .iload 8, 2), (247, .invokevirtual 94, 3), (250, .iload 8, 2), (252, .ifCond .eq 30, 3), (255, .iload 8, 2), (257, .aload_n 3, 1)]
theorem dcL11 : tL11.all (fun q => decide (decode cL_law q.1 = .ok (q.2.1, q.2.2))) = true := by decide +kernel
def tL12 : List (Nat × Instr × Nat) := [(258, .iconst 1, 1), (259, .iload 7, 2), (261, .iadd, 1), (262, .iaload, 1), (263, .if_icmp .eq 19, 3), (266, .iload 8, 2), (268, .iconst 3, 1), (269, .if_icmp .ne 18, 3), (272, .aload_n 3, 1), (273, .iconst 1, 1), (274, .iload 7, 2), (276, .iadd, 1)]
theorem dcL12 : tL12.all (fun q => decide (decode cL_law q.1 = .ok (q.2.1, q.2.2))) = true := by decide +kernel
def tL13 : List (Nat × Instr × Nat) := [(277, .iaload, 1), (278, .iconst 4, 1), (279, .if_icmp .ne 8, 3), (282, .iload 7, 2), (284, .goto 4, 3), (287, .iconst (-1), 1), (288, .if_icmp .eq 5, 3), (291, .iconst 0, 1), (292, .ireturn, 1), (293, .iinc 8 1, 3), (296, .goto (-60), 3), (299, .iinc 7 1, 3)]
theorem dcL13 : tL13.all (fun q => decide (decode cL_law q.1 = .ok (q.2.1, q.2.2))) = true := by decide +kernel
def tL14 : List (Nat × Instr × Nat) := [(302, .goto (-77), 3), (305, .aload_n 1, 1), (306, .aload_n 0, 1), (307, .aload_n 3, 1), (308, .aload 4, 2), (310, .invokestatic 97, 3), (313, .ifCond .eq 25, 3), (316, .aload_n 1, 1), (317, .aload_n 0, 1), (318, .aload_n 3, 1), (319, .aload 4, 2), (321, .invokestatic 100, 3)]
theorem dcL14 : tL14.all (fun q => decide (decode cL_law q.1 = .ok (q.2.1, q.2.2))) = true := by decide +kernel
def tL15 : List (Nat × Instr × Nat) := [(324, .ifCond .eq 14, 3), (327, .aload_n 1, 1), (328, .aload_n 2, 1), (329, .aload_n 3, 1), (330, .aload 4, 2), (332, .invokestatic 103, 3), (335, .ifCond .ne 5, 3), (338, .iconst 0, 1), (339, .ireturn, 1), (340, .iconst 0, 1), (341, .istore 7, 2), (343, .iload 7, 2)]
theorem dcL15 : tL15.all (fun q => decide (decode cL_law q.1 = .ok (q.2.1, q.2.2))) = true := by decide +kernel
def tL16 : List (Nat × Instr × Nat) := [(345, .iconst 3, 1), (346, .if_icmp .ge 355, 3), (349, .aload_n 0, 1), (350, .bipush 26, 2), (352, .iload 7, 2), (354, .iadd, 1), (355, .invokestatic 8, 3), (358, .istore 8, 2), (360, .iload 8, 2), (362, .iconst 5, 1), (363, .invokestatic 14, 3), (366, .istore 9, 2)]
theorem dcL16 : tL16.all (fun q => decide (decode cL_law q.1 = .ok (q.2.1, q.2.2))) = true := by decide +kernel
def tL17 : List (Nat × Instr × Nat) := [(368, .iload 8, 2), (370, .iconst 3, 1), (371, .ishr, 1), (372, .iconst 2, 1), (373, .invokestatic 14, 3), (376, .ifCond .ne 10, 3), (379, .aload_n 2, 1), (380, .bipush 12, 2), (382, .iaload, 1), (383, .goto 12, 3), (386, .iload 8, 2), (388, .iconst 4, 1)]
theorem dcL17 : tL17.all (fun q => decide (decode cL_law q.1 = .ok (q.2.1, q.2.2))) = true := by decide +kernel
def tL18 : List (Nat × Instr × Nat) := [(389, .ishr, 1), (390, .bipush 6, 2), (392, .invokestatic 14, 3), (395, .istore 10, 2), (397, .iconst 1, 1), (398, .iload 8, 2), (400, .bipush 7, 2), (402, .ishr, 1), (403, .bipush 16, 2), (405, .invokestatic 14, 3), (408, .iadd, 1), (409, .istore 11, 2)]
theorem dcL18 : tL18.all (fun q => decide (decode cL_law q.1 = .ok (q.2.1, q.2.2))) = true := by decide +kernel
def tL19 : List (Nat × Instr × Nat) := [(411, .aload_n 0, 1), (412, .bipush 29, 2), (414, .iload 7, 2), (416, .iadd, 1), (417, .invokestatic 8, 3), (420, .ldc 106, 2), (422, .iand, 1), (423, .istore 12, 2), (425, .sipush 240, 3), (428, .iload 10, 2), (430, .iadd, 1), (431, .istore 13, 2)]
theorem dcL19 : tL19.all (fun q => decide (decode cL_law q.1 = .ok (q.2.1, q.2.2))) = true := by decide +kernel
def tL20 : List (Nat × Instr × Nat) := [(433, .iconst 0, 1), (434, .istore 14, 2), (436, .iload 12, 2), (438, .i2l, 1), (439, .lstore 15, 2), (441, .iconst 0, 1), (442, .istore 17, 2), (444, .iload 17, 2), (446, .iload 11, 2), (448, .if_icmp .ge 165, 3), (451, .iconst 0, 1), (452, .istore 18, 2)]
theorem dcL20 : tL20.all (fun q => decide (decode cL_law q.1 = .ok (q.2.1, q.2.2))) = true := by decide +kernel
def tL21 : List (Nat × Instr × Nat) := [(454, .iconst 0, 1), (455, .istore 19, 2), (457, .iload 19, 2), (459, .bipush 8, 2), (461, .if_icmp .ge 32, 3), (464, .iload 18, 2), (466, .aload_n 2, 1), (467, .iload 9, 2), (469, .iload 13, 2), (471, .iload 19, 2), (473, .invokestatic 27, 3), (476, .ifCond .ge 7, 3)]
theorem dcL21 : tL21.all (fun q => decide (decode cL_law q.1 = .ok (q.2.1, q.2.2))) = true := by decide +kernel
def tL22 : List (Nat × Instr × Nat) := [(479, .iconst 0, 1), (480, .goto 4, 3), (483, .iconst 1, 1), (484, .iadd, 1), (485, .istore 18, 2), (487, .iinc 19 1, 3), (490, .goto (-33), 3), (493, .iload 18, 2), (495, .ifCond .ne 6, 3), (498, .goto 115, 3), (501, .lload 15, 2), (503, .ldc2_w 107, 3)]
theorem dcL22 : tL22.all (fun q => decide (decode cL_law q.1 = .ok (q.2.1, q.2.2))) = true := by decide +kernel
def tL23 : List (Nat × Instr × Nat) := [(506, .lmul, 1), (507, .ldc2_w 109, 3), (510, .ladd, 1), (511, .ldc2_w 111, 3), (514, .lrem, 1), (515, .lstore 15, 2), (517, .lload 15, 2), (519, .ldc2_w 113, 3), (522, .ldiv, 1), (523, .iload 18, 2), (525, .i2l, 1), (526, .lrem, 1)]
theorem dcL23 : tL23.all (fun q => decide (decode cL_law q.1 = .ok (q.2.1, q.2.2))) = true := by decide +kernel
def tL24 : List (Nat × Instr × Nat) := [(527, .l2i, 1), (528, .istore 19, 2), (530, .iload 13, 2), (532, .istore 20, 2), (534, .iconst 0, 1), (535, .istore 21, 2), (537, .iload 21, 2), (539, .bipush 8, 2), (541, .if_icmp .ge 42, 3), (544, .aload_n 2, 1), (545, .iload 9, 2), (547, .iload 13, 2)]
theorem dcL24 : tL24.all (fun q => decide (decode cL_law q.1 = .ok (q.2.1, q.2.2))) = true := by decide +kernel
def tL25 : List (Nat × Instr × Nat) := [(549, .iload 21, 2), (551, .invokestatic 27, 3), (554, .ifCond .lt 23, 3), (557, .iload 19, 2), (559, .iinc 19 (-1), 3), (562, .ifCond .ne 15, 3), (565, .aload_n 2, 1), (566, .iload 9, 2), (568, .iload 13, 2), (570, .iload 21, 2), (572, .invokestatic 27, 3), (575, .istore 20, 2)]
theorem dcL25 : tL25.all (fun q => decide (decode cL_law q.1 = .ok (q.2.1, q.2.2))) = true := by decide +kernel
def tL26 : List (Nat × Instr × Nat) := [(577, .iinc 21 1, 3), (580, .goto (-43), 3), (583, .iload 14, 2), (585, .iload 20, 2), (587, .iload 13, 2), (589, .bipush 7, 2), (591, .isub, 1), (592, .if_icmp .ge 7, 3), (595, .iconst 1, 1), (596, .goto 4, 3), (599, .iconst 0, 1), (600, .iadd, 1)]
theorem dcL26 : tL26.all (fun q => decide (decode cL_law q.1 = .ok (q.2.1, q.2.2))) = true := by decide +kernel
def tL27 : List (Nat × Instr × Nat) := [(601, .istore 14, 2), (603, .iload 20, 2), (605, .istore 13, 2), (607, .iinc 17 1, 3), (610, .goto (-166), 3), (613, .aload_n 1, 1), (614, .iload 9, 2), (616, .iload 10, 2), (618, .iload 11, 2), (620, .iload 12, 2), (622, .iconst 0, 1), (623, .invokevirtual 115, 3)]
theorem dcL27 : tL27.all (fun q => decide (decode cL_law q.1 = .ok (q.2.1, q.2.2))) = true := by decide +kernel
def tL28 : List (Nat × Instr × Nat) := [(626, .iload 13, 2), (628, .bipush 8, 2), (630, .idiv, 1), (631, .if_icmp .ne 62, 3), (634, .aload_n 1, 1), (635, .iload 9, 2), (637, .iload 10, 2), (639, .iload 11, 2), (641, .iload 12, 2), (643, .iconst 1, 1), (644, .invokevirtual 115, 3), (647, .iload 13, 2)]
theorem dcL28 : tL28.all (fun q => decide (decode cL_law q.1 = .ok (q.2.1, q.2.2))) = true := by decide +kernel
def tL29 : List (Nat × Instr × Nat) := [(649, .bipush 8, 2), (651, .irem, 1), (652, .if_icmp .ne 41, 3), (655, .aload_n 1, 1), (656, .iload 9, 2), (658, .iload 10, 2), (660, .iload 11, 2), (662, .iload 12, 2), (664, .iconst 2, 1), (665, .invokevirtual 115, 3), (668, .iload 14, 2), (670, .if_icmp .ne 23, 3)]
theorem dcL29 : tL29.all (fun q => decide (decode cL_law q.1 = .ok (q.2.1, q.2.2))) = true := by decide +kernel
def tL30 : List (Nat × Instr × Nat) := [(673, .aload_n 1, 1), (674, .iload 9, 2), (676, .iload 10, 2), (678, .iload 11, 2), (680, .iload 12, 2), (682, .iconst 3, 1), (683, .invokevirtual 115, 3), (686, .i2l, 1), (687, .lload 15, 2), (689, .lcmp, 1), (690, .ifCond .eq 5, 3), (693, .iconst 0, 1)]
theorem dcL30 : tL30.all (fun q => decide (decode cL_law q.1 = .ok (q.2.1, q.2.2))) = true := by decide +kernel
def tL31 : List (Nat × Instr × Nat) := [(694, .ireturn, 1), (695, .iinc 7 1, 3), (698, .goto (-355), 3), (701, .aload_n 3, 1), (702, .iconst 0, 1), (703, .iaload, 1), (704, .istore 7, 2), (706, .aload_n 1, 1), (707, .bipush 6, 2), (709, .iconst 0, 1), (710, .invokevirtual 83, 3), (713, .bipush (-101), 2)]
theorem dcL31 : tL31.all (fun q => decide (decode cL_law q.1 = .ok (q.2.1, q.2.2))) = true := by decide +kernel
def tL32 : List (Nat × Instr × Nat) := [(715, .if_icmp .ne 336, 3), (718, .aload_n 1, 1), (719, .iconst 5, 1), (720, .invokevirtual 31, 3), (723, .bipush (-102), 2), (725, .if_icmp .ne 326, 3), (728, .aload_n 1, 1), (729, .iload 7, 2), (731, .invokevirtual 46, 3), (734, .bipush (-101), 2), (736, .if_icmp .ne 315, 3), (739, .aload_n 1, 1)]
theorem dcL32 : tL32.all (fun q => decide (decode cL_law q.1 = .ok (q.2.1, q.2.2))) = true := by decide +kernel
def tL33 : List (Nat × Instr × Nat) := [(740, .iload 7, 2), (742, .iconst 0, 1), (743, .invokevirtual 63, 3), (746, .bipush (-101), 2), (748, .if_icmp .ne 303, 3), (751, .aload_n 1, 1), (752, .iload 7, 2), (754, .iconst 0, 1), (755, .invokevirtual 94, 3), (758, .bipush (-101), 2), (760, .if_icmp .ne 291, 3), (763, .aload_n 1, 1)]
theorem dcL33 : tL33.all (fun q => decide (decode cL_law q.1 = .ok (q.2.1, q.2.2))) = true := by decide +kernel
def tL34 : List (Nat × Instr × Nat) := [(764, .iload 7, 2), (766, .iconst 0, 1), (767, .iconst 0, 1), (768, .invokevirtual 49, 3), (771, .bipush (-101), 2), (773, .if_icmp .ne 278, 3), (776, .aload_n 1, 1), (777, .iload 7, 2), (779, .iconst 0, 1), (780, .iconst 0, 1), (781, .invokevirtual 53, 3), (784, .bipush (-101), 2)]
theorem dcL34 : tL34.all (fun q => decide (decode cL_law q.1 = .ok (q.2.1, q.2.2))) = true := by decide +kernel
def tL35 : List (Nat × Instr × Nat) := [(786, .if_icmp .ne 265, 3), (789, .aload_n 1, 1), (790, .iload 7, 2), (792, .invokevirtual 66, 3), (795, .bipush (-101), 2), (797, .if_icmp .ne 254, 3), (800, .aload_n 1, 1), (801, .iload 7, 2), (803, .iconst 0, 1), (804, .invokevirtual 68, 3), (807, .bipush (-101), 2), (809, .if_icmp .ne 242, 3)]
theorem dcL35 : tL35.all (fun q => decide (decode cL_law q.1 = .ok (q.2.1, q.2.2))) = true := by decide +kernel
def tL36 : List (Nat × Instr × Nat) := [(812, .aload_n 1, 1), (813, .iload 7, 2), (815, .invokevirtual 119, 3), (818, .bipush (-101), 2), (820, .if_icmp .ne 231, 3), (823, .aload_n 1, 1), (824, .bipush 6, 2), (826, .iconst 0, 1), (827, .iconst 0, 1), (828, .invokevirtual 122, 3), (831, .bipush (-101), 2), (833, .if_icmp .ne 218, 3)]
theorem dcL36 : tL36.all (fun q => decide (decode cL_law q.1 = .ok (q.2.1, q.2.2))) = true := by decide +kernel
def tL37 : List (Nat × Instr × Nat) := [(836, .aload_n 1, 1), (837, .iconst 0, 1), (838, .iconst (-1), 1), (839, .iconst 0, 1), (840, .invokevirtual 122, 3), (843, .bipush (-102), 2), (845, .if_icmp .ne 206, 3), (848, .aload_n 1, 1), (849, .iconst 0, 1), (850, .iconst 5, 1), (851, .iconst 4, 1), (852, .invokevirtual 122, 3)]
theorem dcL37 : tL37.all (fun q => decide (decode cL_law q.1 = .ok (q.2.1, q.2.2))) = true := by decide +kernel
def tL38 : List (Nat × Instr × Nat) := [(855, .bipush (-102), 2), (857, .if_icmp .ne 194, 3), (860, .aload_n 1, 1), (861, .iconst 0, 1), (862, .iconst 0, 1), (863, .bipush 60, 2), (865, .invokevirtual 122, 3), (868, .bipush (-102), 2), (870, .if_icmp .ne 181, 3), (873, .aload_n 1, 1), (874, .bipush 60, 2), (876, .iconst 0, 1)]
theorem dcL38 : tL38.all (fun q => decide (decode cL_law q.1 = .ok (q.2.1, q.2.2))) = true := by decide +kernel
def tL39 : List (Nat × Instr × Nat) := [(877, .invokevirtual 125, 3), (880, .bipush (-102), 2), (882, .if_icmp .ne 169, 3), (885, .aload_n 1, 1), (886, .iconst 0, 1), (887, .bipush 6, 2), (889, .invokevirtual 125, 3), (892, .bipush (-101), 2), (894, .if_icmp .ne 157, 3), (897, .aload_n 1, 1), (898, .iconst 5, 1), (899, .iconst 0, 1)]
theorem dcL39 : tL39.all (fun q => decide (decode cL_law q.1 = .ok (q.2.1, q.2.2))) = true := by decide +kernel
def tL40 : List (Nat × Instr × Nat) := [(900, .iconst 1, 1), (901, .iconst 0, 1), (902, .iconst 0, 1), (903, .invokevirtual 115, 3), (906, .bipush (-102), 2), (908, .if_icmp .ne 143, 3), (911, .aload_n 1, 1), (912, .iconst 0, 1), (913, .bipush 6, 2), (915, .iconst 1, 1), (916, .iconst 0, 1), (917, .iconst 0, 1)]
theorem dcL40 : tL40.all (fun q => decide (decode cL_law q.1 = .ok (q.2.1, q.2.2))) = true := by decide +kernel
def tL41 : List (Nat × Instr × Nat) := [(918, .invokevirtual 115, 3), (921, .bipush (-101), 2), (923, .if_icmp .ne 128, 3), (926, .aload_n 1, 1), (927, .iconst 0, 1), (928, .iconst 0, 1), (929, .iconst 0, 1), (930, .iconst 0, 1), (931, .iconst 0, 1), (932, .invokevirtual 115, 3), (935, .bipush (-102), 2), (937, .if_icmp .ne 114, 3)]
theorem dcL41 : tL41.all (fun q => decide (decode cL_law q.1 = .ok (q.2.1, q.2.2))) = true := by decide +kernel
def tL42 : List (Nat × Instr × Nat) := [(940, .aload_n 1, 1), (941, .iconst 0, 1), (942, .iconst 0, 1), (943, .bipush 17, 2), (945, .iconst 0, 1), (946, .iconst 0, 1), (947, .invokevirtual 115, 3), (950, .bipush (-102), 2), (952, .if_icmp .ne 99, 3), (955, .aload_n 1, 1), (956, .iconst 0, 1), (957, .iconst 0, 1)]
theorem dcL42 : tL42.all (fun q => decide (decode cL_law q.1 = .ok (q.2.1, q.2.2))) = true := by decide +kernel
def tL43 : List (Nat × Instr × Nat) := [(958, .iconst 1, 1), (959, .iconst (-1), 1), (960, .iconst 0, 1), (961, .invokevirtual 115, 3), (964, .bipush (-102), 2), (966, .if_icmp .ne 85, 3), (969, .aload_n 1, 1), (970, .iconst 0, 1), (971, .iconst 0, 1), (972, .iconst 1, 1), (973, .iconst 0, 1), (974, .iconst 4, 1)]
theorem dcL43 : tL43.all (fun q => decide (decode cL_law q.1 = .ok (q.2.1, q.2.2))) = true := by decide +kernel
def tL44 : List (Nat × Instr × Nat) := [(975, .invokevirtual 115, 3), (978, .bipush (-102), 2), (980, .if_icmp .ne 71, 3), (983, .iload 7, 2), (985, .ifCond .eq 62, 3), (988, .aload_n 1, 1), (989, .iconst 0, 1), (990, .iconst 5, 1), (991, .invokevirtual 63, 3), (994, .bipush (-102), 2), (996, .if_icmp .ne 55, 3), (999, .aload_n 1, 1)]
theorem dcL44 : tL44.all (fun q => decide (decode cL_law q.1 = .ok (q.2.1, q.2.2))) = true := by decide +kernel
def tL45 : List (Nat × Instr × Nat) := [(1000, .iconst 0, 1), (1001, .iconst 5, 1), (1002, .invokevirtual 94, 3), (1005, .bipush (-102), 2), (1007, .if_icmp .ne 44, 3), (1010, .aload_n 1, 1), (1011, .iconst 0, 1), (1012, .bipush 60, 2), (1014, .iconst 0, 1), (1015, .invokevirtual 53, 3), (1018, .bipush (-102), 2), (1020, .if_icmp .ne 31, 3)]
theorem dcL45 : tL45.all (fun q => decide (decode cL_law q.1 = .ok (q.2.1, q.2.2))) = true := by decide +kernel
def tL46 : List (Nat × Instr × Nat) := [(1023, .aload_n 1, 1), (1024, .iconst 0, 1), (1025, .iconst 0, 1), (1026, .bipush 6, 2), (1028, .invokevirtual 53, 3), (1031, .bipush (-101), 2), (1033, .if_icmp .ne 18, 3), (1036, .aload_n 1, 1), (1037, .iconst 0, 1), (1038, .iconst 2, 1), (1039, .invokevirtual 68, 3), (1042, .bipush (-102), 2)]
theorem dcL46 : tL46.all (fun q => decide (decode cL_law q.1 = .ok (q.2.1, q.2.2))) = true := by decide +kernel
def tL47 : List (Nat × Instr × Nat) := [(1044, .if_icmp .ne 7, 3), (1047, .iconst 1, 1), (1048, .goto 4, 3), (1051, .iconst 0, 1), (1052, .ireturn, 1)]
theorem dcL47 : tL47.all (fun q => decide (decode cL_law q.1 = .ok (q.2.1, q.2.2))) = true := by decide +kernel
def tLs : List (List (Nat × Instr × Nat)) := [tL0, tL1, tL2, tL3, tL4, tL5, tL6, tL7, tL8, tL9, tL10, tL11, tL12, tL13, tL14, tL15, tL16, tL17, tL18, tL19, tL20, tL21, tL22, tL23, tL24, tL25, tL26, tL27, tL28, tL29, tL30, tL31, tL32, tL33, tL34, tL35, tL36, tL37, tL38, tL39, tL40, tL41, tL42, tL43, tL44, tL45, tL46, tL47]
theorem dcLs : ∀ t ∈ tLs, t.all (fun q => decide (decode cL_law q.1 = .ok (q.2.1, q.2.2))) = true := List.forall_mem_cons.mpr ⟨dcL0, List.forall_mem_cons.mpr ⟨dcL1, List.forall_mem_cons.mpr ⟨dcL2, List.forall_mem_cons.mpr ⟨dcL3, List.forall_mem_cons.mpr ⟨dcL4, List.forall_mem_cons.mpr ⟨dcL5, List.forall_mem_cons.mpr ⟨dcL6, List.forall_mem_cons.mpr ⟨dcL7, List.forall_mem_cons.mpr ⟨dcL8, List.forall_mem_cons.mpr ⟨dcL9, List.forall_mem_cons.mpr ⟨dcL10, List.forall_mem_cons.mpr ⟨dcL11, List.forall_mem_cons.mpr ⟨dcL12, List.forall_mem_cons.mpr ⟨dcL13, List.forall_mem_cons.mpr ⟨dcL14, List.forall_mem_cons.mpr ⟨dcL15, List.forall_mem_cons.mpr ⟨dcL16, List.forall_mem_cons.mpr ⟨dcL17, List.forall_mem_cons.mpr ⟨dcL18, List.forall_mem_cons.mpr ⟨dcL19, List.forall_mem_cons.mpr ⟨dcL20, List.forall_mem_cons.mpr ⟨dcL21, List.forall_mem_cons.mpr ⟨dcL22, List.forall_mem_cons.mpr ⟨dcL23, List.forall_mem_cons.mpr ⟨dcL24, List.forall_mem_cons.mpr ⟨dcL25, List.forall_mem_cons.mpr ⟨dcL26, List.forall_mem_cons.mpr ⟨dcL27, List.forall_mem_cons.mpr ⟨dcL28, List.forall_mem_cons.mpr ⟨dcL29, List.forall_mem_cons.mpr ⟨dcL30, List.forall_mem_cons.mpr ⟨dcL31, List.forall_mem_cons.mpr ⟨dcL32, List.forall_mem_cons.mpr ⟨dcL33, List.forall_mem_cons.mpr ⟨dcL34, List.forall_mem_cons.mpr ⟨dcL35, List.forall_mem_cons.mpr ⟨dcL36, List.forall_mem_cons.mpr ⟨dcL37, List.forall_mem_cons.mpr ⟨dcL38, List.forall_mem_cons.mpr ⟨dcL39, List.forall_mem_cons.mpr ⟨dcL40, List.forall_mem_cons.mpr ⟨dcL41, List.forall_mem_cons.mpr ⟨dcL42, List.forall_mem_cons.mpr ⟨dcL43, List.forall_mem_cons.mpr ⟨dcL44, List.forall_mem_cons.mpr ⟨dcL45, List.forall_mem_cons.mpr ⟨dcL46, List.forall_mem_cons.mpr ⟨dcL47, fun _ h => absurd h List.not_mem_nil⟩⟩⟩⟩⟩⟩⟩⟩⟩⟩⟩⟩⟩⟩⟩⟩⟩⟩⟩⟩⟩⟩⟩⟩⟩⟩⟩⟩⟩⟩⟩⟩⟩⟩⟩⟩⟩⟩⟩⟩⟩⟩⟩⟩⟩⟩⟩⟩
def tL_law : List (Nat × Instr × Nat) := [(0, .new 19, 3), (3, .dup, 1), (4, .invokespecial 74, 3), (7, .astore_n 1, 1), (8, .bipush 36, 2), (10, .newarray .int, 2), (12, .astore_n 2, 1), (13, .bipush 8, 2), (15, .newarray .int, 2), (17, .astore_n 3, 1), (18, .bipush 51, 2), (20, .newarray .int, 2), (22, .astore 4, 2), (24, .bipush 45, 2), (26, .newarray .int, 2), (28, .astore 5, 2), (30, .aload_n 0, 1), (31, .iconst 0, 1), (32, .aload_n 2, 1), (33, .aload 5, 2), (35, .invokestatic 75, 3), (38, .istore 6, 2), (40, .aload_n 1, 1), (41, .aload 5, 2), (43, .iload 6, 2), (45, .invokestatic 39, 3), (48, .ifCond .eq 62, 3), (51, .aload_n 1, 1), (52, .iconst 0, 1), (53, .invokevirtual 43, 3), (56, .iload 6, 2), (58, .if_icmp .ne 52, 3), (61, .aload_n 1, 1), (62, .invokevirtual 79, 3), (65, .aload_n 2, 1), (66, .bipush 14, 2), (68, .iaload, 1), (69, .if_icmp .ne 41, 3), (72, .aload_n 1, 1), (73, .iconst 1, 1), (74, .invokevirtual 71, 3), (77, .aload_n 2, 1), (78, .bipush 15, 2), (80, .iaload, 1), (81, .if_icmp .ne 29, 3), (84, .aload_n 1, 1), (85, .bipush 8, 2), (87, .invokevirtual 71, 3), (90, .aload_n 2, 1), (91, .bipush 13, 2), (93, .iaload, 1), (94, .if_icmp .ne 16, 3), (97, .aload_n 1, 1), (98, .bipush 9, 2), (100, .invokevirtual 71, 3), (103, .aload_n 2, 1), (104, .bipush 12, 2), (106, .iaload, 1), (107, .if_icmp .eq 5, 3), (110, .iconst 0, 1), (111, .ireturn, 1), (112, .iconst 0, 1), (113, .istore 7, 2), (115, .iload 7, 2), (117, .bipush 6, 2), (119, .if_icmp .ge 74, 3), (122, .iconst 0, 1), (123, .istore 8, 2), (125, .iload 8, 2), (127, .bipush 6, 2), (129, .if_icmp .ge 58, 3), (132, .aload_n 1, 1), (133, .iload 7, 2), (135, .iload 8, 2), (137, .invokevirtual 83, 3), (140, .iload 7, 2), (142, .iload 8, 2), (144, .if_icmp .ne 8, 3), (147, .bipush (-101), 2), (149, .goto 27, 3), (152, .aload_n 2, 1), (153, .iload 7, 2), (155, .iaload, 1), (156, .iload 8, 2), (158, .ishr, 1), (159, .iconst 1, 1), (160, .iand, 1), (161, .iconst 2, 1), (162, .aload_n 2, 1), (163, .bipush 6, 2), (165, .iload 7, 2), (167, .iadd, 1), (168, .iaload, 1), (169, .iload 8, 2), (171, .ishr, 1), (172, .iconst 1, 1), (173, .iand, 1), (174, .imul, 1), (175, .iadd, 1), (176, .if_icmp .eq 5, 3), (179, .iconst 0, 1), (180, .ireturn, 1), (181, .iinc 8 1, 3), (184, .goto (-59), 3), (187, .iinc 7 1, 3), (190, .goto (-75), 3), (193, .aload_n 1, 1), (194, .aload_n 0, 1), (195, .iconst 3, 1), (196, .iconst 0, 1), (197, .aload_n 2, 1), (198, .aload_n 3, 1), (199, .aload 4, 2), (201, .aload 5, 2), (203, .invokestatic 86, 3), (206, .ifCond .eq 14, 3), (209, .aload_n 1, 1), (210, .aload_n 2, 1), (211, .aload_n 3, 1), (212, .aload 4, 2), (214, .invokestatic 90, 3), (217, .ifCond .ne 5, 3), (220, .iconst 0, 1), (221, .ireturn, 1), (222, .iconst 0, 1), (223, .istore 7, 2), (225, .iload 7, 2), (227, .aload_n 3, 1), (228, .iconst 0, 1), (229, .iaload, 1), (230, .if_icmp .ge 75, 3), (233, .iconst 0, 1), (234, .istore 8, 2), (236, .iload 8, 2), (238, .iconst 5, 1), (239, .if_icmp .ge 60, 3), (242, .aload_n 1, 1), (243, .iload 7, 2), (245, .iload 8, 2), (247, .invokevirtual 94, 3), (250, .iload 8, 2), (252, .ifCond .eq 30, 3), (255, .iload 8, 2), (257, .aload_n 3, 1), (258, .iconst 1, 1), (259, .iload 7, 2), (261, .iadd, 1), (262, .iaload, 1), (263, .if_icmp .eq 19, 3), (266, .iload 8, 2), (268, .iconst 3, 1), (269, .if_icmp .ne 18, 3), (272, .aload_n 3, 1), (273, .iconst 1, 1), (274, .iload 7, 2), (276, .iadd, 1), (277, .iaload, 1), (278, .iconst 4, 1), (279, .if_icmp .ne 8, 3), (282, .iload 7, 2), (284, .goto 4, 3), (287, .iconst (-1), 1), (288, .if_icmp .eq 5, 3), (291, .iconst 0, 1), (292, .ireturn, 1), (293, .iinc 8 1, 3), (296, .goto (-60), 3), (299, .iinc 7 1, 3), (302, .goto (-77), 3), (305, .aload_n 1, 1), (306, .aload_n 0, 1), (307, .aload_n 3, 1), (308, .aload 4, 2), (310, .invokestatic 97, 3), (313, .ifCond .eq 25, 3), (316, .aload_n 1, 1), (317, .aload_n 0, 1), (318, .aload_n 3, 1), (319, .aload 4, 2), (321, .invokestatic 100, 3), (324, .ifCond .eq 14, 3), (327, .aload_n 1, 1), (328, .aload_n 2, 1), (329, .aload_n 3, 1), (330, .aload 4, 2), (332, .invokestatic 103, 3), (335, .ifCond .ne 5, 3), (338, .iconst 0, 1), (339, .ireturn, 1), (340, .iconst 0, 1), (341, .istore 7, 2), (343, .iload 7, 2), (345, .iconst 3, 1), (346, .if_icmp .ge 355, 3), (349, .aload_n 0, 1), (350, .bipush 26, 2), (352, .iload 7, 2), (354, .iadd, 1), (355, .invokestatic 8, 3), (358, .istore 8, 2), (360, .iload 8, 2), (362, .iconst 5, 1), (363, .invokestatic 14, 3), (366, .istore 9, 2), (368, .iload 8, 2), (370, .iconst 3, 1), (371, .ishr, 1), (372, .iconst 2, 1), (373, .invokestatic 14, 3), (376, .ifCond .ne 10, 3), (379, .aload_n 2, 1), (380, .bipush 12, 2), (382, .iaload, 1), (383, .goto 12, 3), (386, .iload 8, 2), (388, .iconst 4, 1), (389, .ishr, 1), (390, .bipush 6, 2), (392, .invokestatic 14, 3), (395, .istore 10, 2), (397, .iconst 1, 1), (398, .iload 8, 2), (400, .bipush 7, 2), (402, .ishr, 1), (403, .bipush 16, 2), (405, .invokestatic 14, 3), (408, .iadd, 1), (409, .istore 11, 2), (411, .aload_n 0, 1), (412, .bipush 29, 2), (414, .iload 7, 2), (416, .iadd, 1), (417, .invokestatic 8, 3), (420, .ldc 106, 2), (422, .iand, 1), (423, .istore 12, 2), (425, .sipush 240, 3), (428, .iload 10, 2), (430, .iadd, 1), (431, .istore 13, 2), (433, .iconst 0, 1), (434, .istore 14, 2), (436, .iload 12, 2), (438, .i2l, 1), (439, .lstore 15, 2), (441, .iconst 0, 1), (442, .istore 17, 2), (444, .iload 17, 2), (446, .iload 11, 2), (448, .if_icmp .ge 165, 3), (451, .iconst 0, 1), (452, .istore 18, 2), (454, .iconst 0, 1), (455, .istore 19, 2), (457, .iload 19, 2), (459, .bipush 8, 2), (461, .if_icmp .ge 32, 3), (464, .iload 18, 2), (466, .aload_n 2, 1), (467, .iload 9, 2), (469, .iload 13, 2), (471, .iload 19, 2), (473, .invokestatic 27, 3), (476, .ifCond .ge 7, 3), (479, .iconst 0, 1), (480, .goto 4, 3), (483, .iconst 1, 1), (484, .iadd, 1), (485, .istore 18, 2), (487, .iinc 19 1, 3), (490, .goto (-33), 3), (493, .iload 18, 2), (495, .ifCond .ne 6, 3), (498, .goto 115, 3), (501, .lload 15, 2), (503, .ldc2_w 107, 3), (506, .lmul, 1), (507, .ldc2_w 109, 3), (510, .ladd, 1), (511, .ldc2_w 111, 3), (514, .lrem, 1), (515, .lstore 15, 2), (517, .lload 15, 2), (519, .ldc2_w 113, 3), (522, .ldiv, 1), (523, .iload 18, 2), (525, .i2l, 1), (526, .lrem, 1), (527, .l2i, 1), (528, .istore 19, 2), (530, .iload 13, 2), (532, .istore 20, 2), (534, .iconst 0, 1), (535, .istore 21, 2), (537, .iload 21, 2), (539, .bipush 8, 2), (541, .if_icmp .ge 42, 3), (544, .aload_n 2, 1), (545, .iload 9, 2), (547, .iload 13, 2), (549, .iload 21, 2), (551, .invokestatic 27, 3), (554, .ifCond .lt 23, 3), (557, .iload 19, 2), (559, .iinc 19 (-1), 3), (562, .ifCond .ne 15, 3), (565, .aload_n 2, 1), (566, .iload 9, 2), (568, .iload 13, 2), (570, .iload 21, 2), (572, .invokestatic 27, 3), (575, .istore 20, 2), (577, .iinc 21 1, 3), (580, .goto (-43), 3), (583, .iload 14, 2), (585, .iload 20, 2), (587, .iload 13, 2), (589, .bipush 7, 2), (591, .isub, 1), (592, .if_icmp .ge 7, 3), (595, .iconst 1, 1), (596, .goto 4, 3), (599, .iconst 0, 1), (600, .iadd, 1), (601, .istore 14, 2), (603, .iload 20, 2), (605, .istore 13, 2), (607, .iinc 17 1, 3), (610, .goto (-166), 3), (613, .aload_n 1, 1), (614, .iload 9, 2), (616, .iload 10, 2), (618, .iload 11, 2), (620, .iload 12, 2), (622, .iconst 0, 1), (623, .invokevirtual 115, 3), (626, .iload 13, 2), (628, .bipush 8, 2), (630, .idiv, 1), (631, .if_icmp .ne 62, 3), (634, .aload_n 1, 1), (635, .iload 9, 2), (637, .iload 10, 2), (639, .iload 11, 2), (641, .iload 12, 2), (643, .iconst 1, 1), (644, .invokevirtual 115, 3), (647, .iload 13, 2), (649, .bipush 8, 2), (651, .irem, 1), (652, .if_icmp .ne 41, 3), (655, .aload_n 1, 1), (656, .iload 9, 2), (658, .iload 10, 2), (660, .iload 11, 2), (662, .iload 12, 2), (664, .iconst 2, 1), (665, .invokevirtual 115, 3), (668, .iload 14, 2), (670, .if_icmp .ne 23, 3), (673, .aload_n 1, 1), (674, .iload 9, 2), (676, .iload 10, 2), (678, .iload 11, 2), (680, .iload 12, 2), (682, .iconst 3, 1), (683, .invokevirtual 115, 3), (686, .i2l, 1), (687, .lload 15, 2), (689, .lcmp, 1), (690, .ifCond .eq 5, 3), (693, .iconst 0, 1), (694, .ireturn, 1), (695, .iinc 7 1, 3), (698, .goto (-355), 3), (701, .aload_n 3, 1), (702, .iconst 0, 1), (703, .iaload, 1), (704, .istore 7, 2), (706, .aload_n 1, 1), (707, .bipush 6, 2), (709, .iconst 0, 1), (710, .invokevirtual 83, 3), (713, .bipush (-101), 2), (715, .if_icmp .ne 336, 3), (718, .aload_n 1, 1), (719, .iconst 5, 1), (720, .invokevirtual 31, 3), (723, .bipush (-102), 2), (725, .if_icmp .ne 326, 3), (728, .aload_n 1, 1), (729, .iload 7, 2), (731, .invokevirtual 46, 3), (734, .bipush (-101), 2), (736, .if_icmp .ne 315, 3), (739, .aload_n 1, 1), (740, .iload 7, 2), (742, .iconst 0, 1), (743, .invokevirtual 63, 3), (746, .bipush (-101), 2), (748, .if_icmp .ne 303, 3), (751, .aload_n 1, 1), (752, .iload 7, 2), (754, .iconst 0, 1), (755, .invokevirtual 94, 3), (758, .bipush (-101), 2), (760, .if_icmp .ne 291, 3), (763, .aload_n 1, 1), (764, .iload 7, 2), (766, .iconst 0, 1), (767, .iconst 0, 1), (768, .invokevirtual 49, 3), (771, .bipush (-101), 2), (773, .if_icmp .ne 278, 3), (776, .aload_n 1, 1), (777, .iload 7, 2), (779, .iconst 0, 1), (780, .iconst 0, 1), (781, .invokevirtual 53, 3), (784, .bipush (-101), 2), (786, .if_icmp .ne 265, 3), (789, .aload_n 1, 1), (790, .iload 7, 2), (792, .invokevirtual 66, 3), (795, .bipush (-101), 2), (797, .if_icmp .ne 254, 3), (800, .aload_n 1, 1), (801, .iload 7, 2), (803, .iconst 0, 1), (804, .invokevirtual 68, 3), (807, .bipush (-101), 2), (809, .if_icmp .ne 242, 3), (812, .aload_n 1, 1), (813, .iload 7, 2), (815, .invokevirtual 119, 3), (818, .bipush (-101), 2), (820, .if_icmp .ne 231, 3), (823, .aload_n 1, 1), (824, .bipush 6, 2), (826, .iconst 0, 1), (827, .iconst 0, 1), (828, .invokevirtual 122, 3), (831, .bipush (-101), 2), (833, .if_icmp .ne 218, 3), (836, .aload_n 1, 1), (837, .iconst 0, 1), (838, .iconst (-1), 1), (839, .iconst 0, 1), (840, .invokevirtual 122, 3), (843, .bipush (-102), 2), (845, .if_icmp .ne 206, 3), (848, .aload_n 1, 1), (849, .iconst 0, 1), (850, .iconst 5, 1), (851, .iconst 4, 1), (852, .invokevirtual 122, 3), (855, .bipush (-102), 2), (857, .if_icmp .ne 194, 3), (860, .aload_n 1, 1), (861, .iconst 0, 1), (862, .iconst 0, 1), (863, .bipush 60, 2), (865, .invokevirtual 122, 3), (868, .bipush (-102), 2), (870, .if_icmp .ne 181, 3), (873, .aload_n 1, 1), (874, .bipush 60, 2), (876, .iconst 0, 1), (877, .invokevirtual 125, 3), (880, .bipush (-102), 2), (882, .if_icmp .ne 169, 3), (885, .aload_n 1, 1), (886, .iconst 0, 1), (887, .bipush 6, 2), (889, .invokevirtual 125, 3), (892, .bipush (-101), 2), (894, .if_icmp .ne 157, 3), (897, .aload_n 1, 1), (898, .iconst 5, 1), (899, .iconst 0, 1), (900, .iconst 1, 1), (901, .iconst 0, 1), (902, .iconst 0, 1), (903, .invokevirtual 115, 3), (906, .bipush (-102), 2), (908, .if_icmp .ne 143, 3), (911, .aload_n 1, 1), (912, .iconst 0, 1), (913, .bipush 6, 2), (915, .iconst 1, 1), (916, .iconst 0, 1), (917, .iconst 0, 1), (918, .invokevirtual 115, 3), (921, .bipush (-101), 2), (923, .if_icmp .ne 128, 3), (926, .aload_n 1, 1), (927, .iconst 0, 1), (928, .iconst 0, 1), (929, .iconst 0, 1), (930, .iconst 0, 1), (931, .iconst 0, 1), (932, .invokevirtual 115, 3), (935, .bipush (-102), 2), (937, .if_icmp .ne 114, 3), (940, .aload_n 1, 1), (941, .iconst 0, 1), (942, .iconst 0, 1), (943, .bipush 17, 2), (945, .iconst 0, 1), (946, .iconst 0, 1), (947, .invokevirtual 115, 3), (950, .bipush (-102), 2), (952, .if_icmp .ne 99, 3), (955, .aload_n 1, 1), (956, .iconst 0, 1), (957, .iconst 0, 1), (958, .iconst 1, 1), (959, .iconst (-1), 1), (960, .iconst 0, 1), (961, .invokevirtual 115, 3), (964, .bipush (-102), 2), (966, .if_icmp .ne 85, 3), (969, .aload_n 1, 1), (970, .iconst 0, 1), (971, .iconst 0, 1), (972, .iconst 1, 1), (973, .iconst 0, 1), (974, .iconst 4, 1), (975, .invokevirtual 115, 3), (978, .bipush (-102), 2), (980, .if_icmp .ne 71, 3), (983, .iload 7, 2), (985, .ifCond .eq 62, 3), (988, .aload_n 1, 1), (989, .iconst 0, 1), (990, .iconst 5, 1), (991, .invokevirtual 63, 3), (994, .bipush (-102), 2), (996, .if_icmp .ne 55, 3), (999, .aload_n 1, 1), (1000, .iconst 0, 1), (1001, .iconst 5, 1), (1002, .invokevirtual 94, 3), (1005, .bipush (-102), 2), (1007, .if_icmp .ne 44, 3), (1010, .aload_n 1, 1), (1011, .iconst 0, 1), (1012, .bipush 60, 2), (1014, .iconst 0, 1), (1015, .invokevirtual 53, 3), (1018, .bipush (-102), 2), (1020, .if_icmp .ne 31, 3), (1023, .aload_n 1, 1), (1024, .iconst 0, 1), (1025, .iconst 0, 1), (1026, .bipush 6, 2), (1028, .invokevirtual 53, 3), (1031, .bipush (-101), 2), (1033, .if_icmp .ne 18, 3), (1036, .aload_n 1, 1), (1037, .iconst 0, 1), (1038, .iconst 2, 1), (1039, .invokevirtual 68, 3), (1042, .bipush (-102), 2), (1044, .if_icmp .ne 7, 3), (1047, .iconst 1, 1), (1048, .goto 4, 3), (1051, .iconst 0, 1), (1052, .ireturn, 1)]
set_option maxRecDepth 100000 in
theorem tL_law_eq : tL_law = tLs.flatten := rfl
def mL_law : xM := (yL_law, cL_law, 22, (some .boolean), 1, tL_law)
theorem decL_law : ∀ pc i n, xfetch mL_law pc = some (i, n) → decode mL_law.2.1 pc = .ok (i, n) := by
  refine xfetch_of ?_
  show tL_law.all _ = true
  rw [tL_law_eq, List.all_eq_true]
  intro q hq
  obtain ⟨t, ht, hqt⟩ := List.mem_flatten.mp hq
  exact List.all_eq_true.mp (dcLs t ht) q hqt
end
section
variable {τ : List xSh}
/-! ===== the cells of the law's two systems, once they are made: 54 of them ===== -/
def σF (τ : List xSh) : List xSh := .inl (9, [some 1, some 3, some 6, some 9, some 11, some 12, some 16, some 18, some 38, some 41, none, none, none]) ::
  .inl (4, [some 2, none]) ::
  .inr (.inl 45) ::
  .inl (1, [some 4, some 5, none, none, none, none, none, none]) ::
  .inr (.inl 36) ::
  .inr (.inl 6) ::
  .inl (1, [some 7, some 8, none, none, none, none, none, none]) ::
  .inr (.inl 36) ::
  .inr (.inl 6) ::
  .inl (3, [some 10, none, none, none]) ::
  .inr (.inl 17) ::
  .inr (.inr [some 42, some 45, some 48, some 51]) ::
  .inl (7, [some 13, some 14, some 15, none]) ::
  .inr (.inl 5) ::
  .inr (.inl 5) ::
  .inr (.inl 5) ::
  .inl (0, [some 17, none]) ::
  .inr (.inl 8) ::
  .inl (2, [some 19, some 20, some 24, none, none]) ::
  .inr (.inr [some 26, some 29, some 32, some 35]) ::
  .inl (7, [some 21, some 22, some 23, none]) ::
  .inr (.inl 5) ::
  .inr (.inl 5) ::
  .inr (.inl 5) ::
  .inl (0, [some 25, none]) ::
  .inr (.inl 8) ::
  .inl (5, [some 27, none]) ::
  .inl (3, [some 28, none, none, none]) ::
  .inr (.inl 17) ::
  .inl (5, [some 30, none]) ::
  .inl (3, [some 31, none, none, none]) ::
  .inr (.inl 17) ::
  .inl (5, [some 33, none]) ::
  .inl (3, [some 34, none, none, none]) ::
  .inr (.inl 17) ::
  .inl (5, [some 36, none]) ::
  .inl (3, [some 37, none, none, none]) ::
  .inr (.inl 17) ::
  .inl (6, [some 39, some 40, none, none, none, none, none]) ::
  .inr (.inl 2520) ::
  .inr (.inl 60) ::
  .inl (8, [none, none, none]) ::
  .inl (5, [some 43, none]) ::
  .inl (3, [some 44, none, none, none]) ::
  .inr (.inl 17) ::
  .inl (5, [some 46, none]) ::
  .inl (3, [some 47, none, none, none]) ::
  .inr (.inl 17) ::
  .inl (5, [some 49, none]) ::
  .inl (3, [some 50, none, none, none]) ::
  .inr (.inl 17) ::
  .inl (5, [some 52, none]) ::
  .inl (3, [some 53, none, none, none]) ::
  .inr (.inl 17) :: τ
/-- a contract of a method that makes nothing: what it answers, the stores behind it -/
def xR (τ : List xSh) (d : Nat) (M : xM) (args : List Value) (S : Nat → Nat → Int32) (G : Nat → Nat → Int64) (r : Option Value) (S' : Nat → Nat → Int32) (G' : Nat → Nat → Int64) : Prop := xC d M args ((σF τ), S, G) 0 0 (fun r' h' => r' = r ∧ h' = ((σF τ), S', G'))
/-- a truth as an int -/
def xb (p : Prop) [Decidable p] : Int32 := if p then 1 else 0
theorem xb_t {p : Prop} [Decidable p] (h : p) : xb p = 1 := if_pos h
theorem xb_f {p : Prop} [Decidable p] (h : ¬ p) : xb p = 0 := if_neg h
theorem xb_ne0 {p : Prop} [Decidable p] : ¬ xb p = 0 ↔ p := by
  unfold xb; split <;> simp_all
theorem xb_eq0 {p : Prop} [Decidable p] : xb p = 0 ↔ ¬ p := by
  unfold xb; split <;> simp_all
theorem xb_01 {p : Prop} [Decidable p] : xb p = 0 ∨ xb p = 1 := by
  unfold xb; split <;> simp
theorem xb_nar {p : Prop} [Decidable p] : narrow .boolean (.int (xb p)) = .int (xb p) := by
  unfold xb; split <;> rfl
theorem xb_iff {p q : Prop} [Decidable p] [Decidable q] (h : p ↔ q) : xb p = xb q := by
  unfold xb; simp [h]
theorem i32_ext {a b : Int32} : a = b ↔ a.toInt = b.toInt := ⟨fun h => by rw [h], fun h => Int32.toInt_inj.mp h⟩
section XP
variable {X : Option (Nat × (Nat → Int32))} {d : Nat} {M M' : xM} {c n mc ms pc q idx : Nat} {L : List (Option Value)} {As st stk : List Value} {S S' : Nat → Nat → Int32} {G G' : Nat → Nat → Int64} {Q : Option Value → xH → Prop} {h : xH}
theorem xA.topi {x y : Int32} (e : x = y) (k : xA X d M c n mc ms pc L (.int y :: st) h Q) : xA X d M c n mc ms pc L (.int x :: st) h Q := e ▸ k
theorem xA.topl {x y : Int64} (e : x = y) (k : xA X d M c n mc ms pc L (.long y :: st) h Q) : xA X d M c n mc ms pc L (.long x :: st) h Q := e ▸ k
theorem xA.store {σ : List xSh} (e : S = S') (k : xA X d M c n mc ms pc L st (σ, S', G) Q) : xA X d M c n mc ms pc L st (σ, S, G) Q := e ▸ k
theorem xA.callVv {a ci : Nat} {r : List (Option Nat)} (hd : xfetch M pc = some (.invokevirtual idx, 3)) (hk : xcV M.1.cls idx M') (hm : xmOk M') (hσ : (σF τ)[a]? = some (.inl (ci, r))) (hci : (vwCl[ci]?).map (fun z => z.1) = some M'.1.cls) (hn : As.length = M'.2.2.2.2.1) (hLn : L.length = M.2.2.1) (hst : (st.map Value.category).sum ≤ 8) (hC : xR τ d M' (.ref a :: As) S G none S' G') (hq : pc + 3 = q) (hs : stk = As.reverse ++ .ref a :: st) (kk : xA X (d + 1) M 0 0 0 0 q L st ((σF τ), S', G') Q) : xA X (d + 1) M 0 0 0 0 pc L stk ((σF τ), S, G) Q := by
  refine xA.callV hd hk hm (h := ((σF τ), S, G)) hσ hci hn hLn hst hC (Nat.le_refl _) (Nat.le_refl _) hq hs ?_
  rintro r' h' ⟨rfl, rfl⟩
  exact kk
theorem xA.callSv (hd : xfetch M pc = some (.invokestatic idx, 3)) (hk : xcS M.1.cls idx M') (hm : xmOk M') (hn : As.length = M'.2.2.2.2.1) (hLn : L.length = M.2.2.1) (hst : (st.map Value.category).sum ≤ 8) (hC : xR τ d M' As S G none S' G') (hq : pc + 3 = q) (hs : stk = As.reverse ++ st) (kk : xA X (d + 1) M 0 0 0 0 q L st ((σF τ), S', G') Q) : xA X (d + 1) M 0 0 0 0 pc L stk ((σF τ), S, G) Q := by
  refine xA.callS hd hk hm (h := ((σF τ), S, G)) hn hLn hst hC (Nat.le_refl _) (Nat.le_refl _) hq hs ?_
  rintro r' h' ⟨rfl, rfl⟩
  exact kk
theorem xA.callSNv (hd : xfetch M pc = some (.invokestatic idx, 3)) (hk : xcSN M.1.cls idx M') (hm : xmOk M') (hn : As.length = M'.2.2.2.2.1) (hLn : L.length = M.2.2.1) (hst : (st.map Value.category).sum ≤ 8) (hC : xR τ d M' As S G none S' G') (hq : pc + 3 = q) (hs : stk = As.reverse ++ st) (kk : xA X (d + 1) M 0 0 0 0 q L st ((σF τ), S', G') Q) : xA X (d + 1) M 0 0 0 0 pc L stk ((σF τ), S, G) Q := by
  refine xA.callSN hd hk hm (h := ((σF τ), S, G)) hn hLn hst hC (Nat.le_refl _) (Nat.le_refl _) hq hs ?_
  rintro r' h' ⟨rfl, rfl⟩
  exact kk
theorem xA.callVi {v : Int32} {a ci : Nat} {r : List (Option Nat)} (hd : xfetch M pc = some (.invokevirtual idx, 3)) (hk : xcV M.1.cls idx M') (hm : xmOk M') (hσ : (σF τ)[a]? = some (.inl (ci, r))) (hci : (vwCl[ci]?).map (fun z => z.1) = some M'.1.cls) (hn : As.length = M'.2.2.2.2.1) (hLn : L.length = M.2.2.1) (hst : (st.map Value.category).sum ≤ 8) (hC : xR τ d M' (.ref a :: As) S G (some (.int v)) S' G') (hq : pc + 3 = q) (hs : stk = As.reverse ++ .ref a :: st) (kk : xA X (d + 1) M 0 0 0 0 q L (.int v :: st) ((σF τ), S', G') Q) : xA X (d + 1) M 0 0 0 0 pc L stk ((σF τ), S, G) Q := by
  refine xA.callV hd hk hm (h := ((σF τ), S, G)) hσ hci hn hLn hst hC (Nat.le_refl _) (Nat.le_refl _) hq hs ?_
  rintro r' h' ⟨rfl, rfl⟩
  exact kk
theorem xA.callSi {v : Int32} (hd : xfetch M pc = some (.invokestatic idx, 3)) (hk : xcS M.1.cls idx M') (hm : xmOk M') (hn : As.length = M'.2.2.2.2.1) (hLn : L.length = M.2.2.1) (hst : (st.map Value.category).sum ≤ 8) (hC : xR τ d M' As S G (some (.int v)) S' G') (hq : pc + 3 = q) (hs : stk = As.reverse ++ st) (kk : xA X (d + 1) M 0 0 0 0 q L (.int v :: st) ((σF τ), S', G') Q) : xA X (d + 1) M 0 0 0 0 pc L stk ((σF τ), S, G) Q := by
  refine xA.callS hd hk hm (h := ((σF τ), S, G)) hn hLn hst hC (Nat.le_refl _) (Nat.le_refl _) hq hs ?_
  rintro r' h' ⟨rfl, rfl⟩
  exact kk
theorem xA.callSNi {v : Int32} (hd : xfetch M pc = some (.invokestatic idx, 3)) (hk : xcSN M.1.cls idx M') (hm : xmOk M') (hn : As.length = M'.2.2.2.2.1) (hLn : L.length = M.2.2.1) (hst : (st.map Value.category).sum ≤ 8) (hC : xR τ d M' As S G (some (.int v)) S' G') (hq : pc + 3 = q) (hs : stk = As.reverse ++ st) (kk : xA X (d + 1) M 0 0 0 0 q L (.int v :: st) ((σF τ), S', G') Q) : xA X (d + 1) M 0 0 0 0 pc L stk ((σF τ), S, G) Q := by
  refine xA.callSN hd hk hm (h := ((σF τ), S, G)) hn hLn hst hC (Nat.le_refl _) (Nat.le_refl _) hq hs ?_
  rintro r' h' ⟨rfl, rfl⟩
  exact kk
theorem xA.callVl {v : Int64} {a ci : Nat} {r : List (Option Nat)} (hd : xfetch M pc = some (.invokevirtual idx, 3)) (hk : xcV M.1.cls idx M') (hm : xmOk M') (hσ : (σF τ)[a]? = some (.inl (ci, r))) (hci : (vwCl[ci]?).map (fun z => z.1) = some M'.1.cls) (hn : As.length = M'.2.2.2.2.1) (hLn : L.length = M.2.2.1) (hst : (st.map Value.category).sum ≤ 8) (hC : xR τ d M' (.ref a :: As) S G (some (.long v)) S' G') (hq : pc + 3 = q) (hs : stk = As.reverse ++ .ref a :: st) (kk : xA X (d + 1) M 0 0 0 0 q L (.long v :: st) ((σF τ), S', G') Q) : xA X (d + 1) M 0 0 0 0 pc L stk ((σF τ), S, G) Q := by
  refine xA.callV hd hk hm (h := ((σF τ), S, G)) hσ hci hn hLn hst hC (Nat.le_refl _) (Nat.le_refl _) hq hs ?_
  rintro r' h' ⟨rfl, rfl⟩
  exact kk
theorem xA.callSl {v : Int64} (hd : xfetch M pc = some (.invokestatic idx, 3)) (hk : xcS M.1.cls idx M') (hm : xmOk M') (hn : As.length = M'.2.2.2.2.1) (hLn : L.length = M.2.2.1) (hst : (st.map Value.category).sum ≤ 8) (hC : xR τ d M' As S G (some (.long v)) S' G') (hq : pc + 3 = q) (hs : stk = As.reverse ++ st) (kk : xA X (d + 1) M 0 0 0 0 q L (.long v :: st) ((σF τ), S', G') Q) : xA X (d + 1) M 0 0 0 0 pc L stk ((σF τ), S, G) Q := by
  refine xA.callS hd hk hm (h := ((σF τ), S, G)) hn hLn hst hC (Nat.le_refl _) (Nat.le_refl _) hq hs ?_
  rintro r' h' ⟨rfl, rfl⟩
  exact kk
theorem xA.callSNl {v : Int64} (hd : xfetch M pc = some (.invokestatic idx, 3)) (hk : xcSN M.1.cls idx M') (hm : xmOk M') (hn : As.length = M'.2.2.2.2.1) (hLn : L.length = M.2.2.1) (hst : (st.map Value.category).sum ≤ 8) (hC : xR τ d M' As S G (some (.long v)) S' G') (hq : pc + 3 = q) (hs : stk = As.reverse ++ st) (kk : xA X (d + 1) M 0 0 0 0 q L (.long v :: st) ((σF τ), S', G') Q) : xA X (d + 1) M 0 0 0 0 pc L stk ((σF τ), S, G) Q := by
  refine xA.callSN hd hk hm (h := ((σF τ), S, G)) hn hLn hst hC (Nat.le_refl _) (Nat.le_refl _) hq hs ?_
  rintro r' h' ⟨rfl, rfl⟩
  exact kk
theorem xA.callVr {v : Value} {a ci : Nat} {r : List (Option Nat)} (hd : xfetch M pc = some (.invokevirtual idx, 3)) (hk : xcV M.1.cls idx M') (hm : xmOk M') (hσ : (σF τ)[a]? = some (.inl (ci, r))) (hci : (vwCl[ci]?).map (fun z => z.1) = some M'.1.cls) (hn : As.length = M'.2.2.2.2.1) (hLn : L.length = M.2.2.1) (hst : (st.map Value.category).sum ≤ 8) (hC : xR τ d M' (.ref a :: As) S G (some v) S' G') (hq : pc + 3 = q) (hs : stk = As.reverse ++ .ref a :: st) (kk : xA X (d + 1) M 0 0 0 0 q L (v :: st) ((σF τ), S', G') Q) : xA X (d + 1) M 0 0 0 0 pc L stk ((σF τ), S, G) Q := by
  refine xA.callV hd hk hm (h := ((σF τ), S, G)) hσ hci hn hLn hst hC (Nat.le_refl _) (Nat.le_refl _) hq hs ?_
  rintro r' h' ⟨rfl, rfl⟩
  exact kk
theorem xA.callSr {v : Value} (hd : xfetch M pc = some (.invokestatic idx, 3)) (hk : xcS M.1.cls idx M') (hm : xmOk M') (hn : As.length = M'.2.2.2.2.1) (hLn : L.length = M.2.2.1) (hst : (st.map Value.category).sum ≤ 8) (hC : xR τ d M' As S G (some v) S' G') (hq : pc + 3 = q) (hs : stk = As.reverse ++ st) (kk : xA X (d + 1) M 0 0 0 0 q L (v :: st) ((σF τ), S', G') Q) : xA X (d + 1) M 0 0 0 0 pc L stk ((σF τ), S, G) Q := by
  refine xA.callS hd hk hm (h := ((σF τ), S, G)) hn hLn hst hC (Nat.le_refl _) (Nat.le_refl _) hq hs ?_
  rintro r' h' ⟨rfl, rfl⟩
  exact kk
theorem xA.callSNr {v : Value} (hd : xfetch M pc = some (.invokestatic idx, 3)) (hk : xcSN M.1.cls idx M') (hm : xmOk M') (hn : As.length = M'.2.2.2.2.1) (hLn : L.length = M.2.2.1) (hst : (st.map Value.category).sum ≤ 8) (hC : xR τ d M' As S G (some v) S' G') (hq : pc + 3 = q) (hs : stk = As.reverse ++ st) (kk : xA X (d + 1) M 0 0 0 0 q L (v :: st) ((σF τ), S', G') Q) : xA X (d + 1) M 0 0 0 0 pc L stk ((σF τ), S, G) Q := by
  refine xA.callSN hd hk hm (h := ((σF τ), S, G)) hn hLn hst hC (Nat.le_refl _) (Nat.le_refl _) hq hs ?_
  rintro r' h' ⟨rfl, rfl⟩
  exact kk
end XP
theorem xu_same {S : Nat → Nat → Int32} {a k : Nat} {v : Int32} : xu S a k v a k = v := by simp [xu]
theorem xu_ne1 {S : Nat → Nat → Int32} {a k j i : Nat} {v : Int32} (h : j ≠ a) : xu S a k v j i = S j i := by simp [xu, h]
theorem xu_ne2 {S : Nat → Nat → Int32} {a k j i : Nat} {v : Int32} (h : i ≠ k) : xu S a k v j i = S j i := by simp [xu, h]
theorem nI_mul (a b : Nat) : nI a * nI b = nI (a * b) := by
  unfold nI; exact (Int32.ofNat_mul a b).symm
theorem nI_sub {a b : Nat} (h : b ≤ a) : nI a - nI b = nI (a - b) := by
  have e : a = (a - b) + b := by omega
  rw [e, ← nI_add, Int32.add_sub_cancel, Nat.add_sub_cancel]
end
section
variable {τ : List xSh}
/-! ===== small methods of the class ===== -/
abbrev rg (x : Int32) (n : Nat) : Prop := 0 ≤ x.toInt ∧ x.toInt < (n : Int)
theorem rg_nI {x : Int32} {n : Nat} (h : rg x n) (hn : n < 2 ^ 31) : ∃ j, j < n ∧ x = nI j := vp_in_of (vp_in_iff.mpr h) hn
theorem rg_of {j n : Nat} (h : j < n) (hn : n < 2 ^ 31) : rg (nI j) n := vp_in_iff.mp (vp_in_nI h hn)
/-- a spot's minute, room; none stays none -/
def xmin (x : Int32) : Int32 := if x = -1 then -1 else x / 6
def xroom (x : Int32) : Int32 := if x = -1 then -1 else x - x / 6 * 6
/-- the digit that a letter tells -/
def xdig (x lo hi : Int32) : Int32 := if lo ≤ x - 48 ∧ x - 48 ≤ hi then x - 48 else -1
theorem i32_toInt_m1 : (-1 : Int32).toInt = -1 := by decide
theorem nI_m1 {n : Nat} (h : n < 2 ^ 31) : ¬ nI n = -1 := by
  intro q
  have a := nI_toInt h
  rw [q, i32_toInt_m1] at a
  omega
theorem nI_div6 {n : Nat} (h : n < 2 ^ 31) : nI n / 6 = nI (n / 6) := by
  rw [i32_ext, Int32.toInt_div_of_ne_right _ _ (by decide), nI_toInt h, nI_toInt (by omega), show (6 : Int32).toInt = 6 from rfl, Int.tdiv_eq_ediv_of_nonneg (by omega)]
  omega
theorem xmin_nI {m r : Nat} (hm : m < 60) (hr : r < 6) : xmin (nI (m * 6 + r)) = nI m := by
  unfold xmin
  rw [if_neg (nI_m1 (by omega)), nI_div6 (by omega)]
  congr 1; omega
theorem xroom_nI {m r : Nat} (hm : m < 60) (hr : r < 6) : xroom (nI (m * 6 + r)) = nI r := by
  unfold xroom
  rw [if_neg (nI_m1 (by omega)), nI_div6 (by omega), show (6 : Int32) = nI 6 from rfl, nI_mul, nI_sub (by omega)]
  congr 1; omega

set_option maxRecDepth 100000 in
set_option maxHeartbeats 400000 in
theorem c_X9_isRoom (d : Nat) (S : Nat → Nat → Int32) (G : Nat → Nat → Int64) (x : Int32) : xR τ d mX9_isRoom [.int x] S G (some (.int (xb (rg x 6)))) S G := by
  refine xC.of okX9_isRoom (Nat.le_of_ble_eq_true rfl) (L := [_]) rfl ?_
  refine xA.iload_n (i := 0) rfl rfl rfl rfl ?_
  refine xA.if_lt (tgt := 14) rfl rfl rfl (fun h1 => ?_) (fun h1 => ?_)
  · refine xA.iconst (v := 0) rfl (by decide) rfl ?_
    exact xA.iret rfl rfl rfl ⟨by first | (rw [xb_t (by simp only [Int32.lt_iff_toInt_lt, Int32.le_iff_toInt_le, i32_ext, Int32.reduceToInt] at *; omega)]; done) | (rw [xb_f (by simp only [Int32.lt_iff_toInt_lt, Int32.le_iff_toInt_le, i32_ext, Int32.reduceToInt] at *; omega)]; done), rfl⟩
  · refine xA.iload_n (i := 0) rfl rfl rfl rfl ?_
    refine xA.bipush (v := 6) rfl (by decide) rfl ?_
    refine xA.icmp_ge (tgt := 14) rfl rfl rfl (fun h7 => ?_) (fun h7 => ?_)
    · refine xA.iconst (v := 0) rfl (by decide) rfl ?_
      exact xA.iret rfl rfl rfl ⟨by first | (rw [xb_t (by simp only [Int32.lt_iff_toInt_lt, Int32.le_iff_toInt_le, i32_ext, Int32.reduceToInt] at *; omega)]; done) | (rw [xb_f (by simp only [Int32.lt_iff_toInt_lt, Int32.le_iff_toInt_le, i32_ext, Int32.reduceToInt] at *; omega)]; done), rfl⟩
    · refine xA.iconst (v := 1) rfl (by decide) rfl ?_
      refine xA.goto (q := 15) rfl rfl ?_
      exact xA.iret rfl rfl rfl ⟨by first | (rw [xb_t (by simp only [Int32.lt_iff_toInt_lt, Int32.le_iff_toInt_le, i32_ext, Int32.reduceToInt] at *; omega)]; done) | (rw [xb_f (by simp only [Int32.lt_iff_toInt_lt, Int32.le_iff_toInt_le, i32_ext, Int32.reduceToInt] at *; omega)]; done), rfl⟩
set_option maxRecDepth 100000 in
set_option maxHeartbeats 400000 in
theorem c_X9_isMinute (d : Nat) (S : Nat → Nat → Int32) (G : Nat → Nat → Int64) (x : Int32) : xR τ d mX9_isMinute [.int x] S G (some (.int (xb (rg x 60)))) S G := by
  refine xC.of okX9_isMinute (Nat.le_of_ble_eq_true rfl) (L := [_]) rfl ?_
  refine xA.iload_n (i := 0) rfl rfl rfl rfl ?_
  refine xA.if_lt (tgt := 14) rfl rfl rfl (fun h1 => ?_) (fun h1 => ?_)
  · refine xA.iconst (v := 0) rfl (by decide) rfl ?_
    exact xA.iret rfl rfl rfl ⟨by first | (rw [xb_t (by simp only [Int32.lt_iff_toInt_lt, Int32.le_iff_toInt_le, i32_ext, Int32.reduceToInt] at *; omega)]; done) | (rw [xb_f (by simp only [Int32.lt_iff_toInt_lt, Int32.le_iff_toInt_le, i32_ext, Int32.reduceToInt] at *; omega)]; done), rfl⟩
  · refine xA.iload_n (i := 0) rfl rfl rfl rfl ?_
    refine xA.bipush (v := 60) rfl (by decide) rfl ?_
    refine xA.icmp_ge (tgt := 14) rfl rfl rfl (fun h7 => ?_) (fun h7 => ?_)
    · refine xA.iconst (v := 0) rfl (by decide) rfl ?_
      exact xA.iret rfl rfl rfl ⟨by first | (rw [xb_t (by simp only [Int32.lt_iff_toInt_lt, Int32.le_iff_toInt_le, i32_ext, Int32.reduceToInt] at *; omega)]; done) | (rw [xb_f (by simp only [Int32.lt_iff_toInt_lt, Int32.le_iff_toInt_le, i32_ext, Int32.reduceToInt] at *; omega)]; done), rfl⟩
    · refine xA.iconst (v := 1) rfl (by decide) rfl ?_
      refine xA.goto (q := 15) rfl rfl ?_
      exact xA.iret rfl rfl rfl ⟨by first | (rw [xb_t (by simp only [Int32.lt_iff_toInt_lt, Int32.le_iff_toInt_le, i32_ext, Int32.reduceToInt] at *; omega)]; done) | (rw [xb_f (by simp only [Int32.lt_iff_toInt_lt, Int32.le_iff_toInt_le, i32_ext, Int32.reduceToInt] at *; omega)]; done), rfl⟩
set_option maxRecDepth 100000 in
set_option maxHeartbeats 400000 in
theorem c_X9_isKind (d : Nat) (S : Nat → Nat → Int32) (G : Nat → Nat → Int64) (x : Int32) : xR τ d mX9_isKind [.int x] S G (some (.int (xb (rg x 5)))) S G := by
  refine xC.of okX9_isKind (Nat.le_of_ble_eq_true rfl) (L := [_]) rfl ?_
  refine xA.iload_n (i := 0) rfl rfl rfl rfl ?_
  refine xA.if_lt (tgt := 13) rfl rfl rfl (fun h1 => ?_) (fun h1 => ?_)
  · refine xA.iconst (v := 0) rfl (by decide) rfl ?_
    exact xA.iret rfl rfl rfl ⟨by first | (rw [xb_t (by simp only [Int32.lt_iff_toInt_lt, Int32.le_iff_toInt_le, i32_ext, Int32.reduceToInt] at *; omega)]; done) | (rw [xb_f (by simp only [Int32.lt_iff_toInt_lt, Int32.le_iff_toInt_le, i32_ext, Int32.reduceToInt] at *; omega)]; done), rfl⟩
  · refine xA.iload_n (i := 0) rfl rfl rfl rfl ?_
    refine xA.iconst (v := 5) rfl (by decide) rfl ?_
    refine xA.icmp_ge (tgt := 13) rfl rfl rfl (fun h6 => ?_) (fun h6 => ?_)
    · refine xA.iconst (v := 0) rfl (by decide) rfl ?_
      exact xA.iret rfl rfl rfl ⟨by first | (rw [xb_t (by simp only [Int32.lt_iff_toInt_lt, Int32.le_iff_toInt_le, i32_ext, Int32.reduceToInt] at *; omega)]; done) | (rw [xb_f (by simp only [Int32.lt_iff_toInt_lt, Int32.le_iff_toInt_le, i32_ext, Int32.reduceToInt] at *; omega)]; done), rfl⟩
    · refine xA.iconst (v := 1) rfl (by decide) rfl ?_
      refine xA.goto (q := 14) rfl rfl ?_
      exact xA.iret rfl rfl rfl ⟨by first | (rw [xb_t (by simp only [Int32.lt_iff_toInt_lt, Int32.le_iff_toInt_le, i32_ext, Int32.reduceToInt] at *; omega)]; done) | (rw [xb_f (by simp only [Int32.lt_iff_toInt_lt, Int32.le_iff_toInt_le, i32_ext, Int32.reduceToInt] at *; omega)]; done), rfl⟩
set_option maxRecDepth 100000 in
set_option maxHeartbeats 400000 in
theorem c_X9_isOfKind (d : Nat) (S : Nat → Nat → Int32) (G : Nat → Nat → Int64) (x y : Int32) : xR τ d mX9_isOfKind [.int x, .int y] S G (some (.int (xb (y = 0 ∨ y = x ∨ (y = 3 ∧ x = 4))))) S G := by
  refine xC.of okX9_isOfKind (Nat.le_of_ble_eq_true rfl) (L := [_, _]) rfl ?_
  refine xA.iload_n (i := 1) rfl rfl rfl rfl ?_
  refine xA.if_eq (tgt := 19) rfl rfl rfl (fun h1 => ?_) (fun h1 => ?_)
  · refine xA.iconst (v := 1) rfl (by decide) rfl ?_
    refine xA.goto (q := 24) rfl rfl ?_
    exact xA.iret rfl rfl rfl ⟨by first | (rw [xb_t (by simp only [Int32.lt_iff_toInt_lt, Int32.le_iff_toInt_le, i32_ext, Int32.reduceToInt] at *; omega)]; done) | (rw [xb_f (by simp only [Int32.lt_iff_toInt_lt, Int32.le_iff_toInt_le, i32_ext, Int32.reduceToInt] at *; omega)]; done), rfl⟩
  · refine xA.iload_n (i := 1) rfl rfl rfl rfl ?_
    refine xA.iload_n (i := 0) rfl rfl rfl rfl ?_
    refine xA.icmp_eq (tgt := 19) rfl rfl rfl (fun h6 => ?_) (fun h6 => ?_)
    · refine xA.iconst (v := 1) rfl (by decide) rfl ?_
      refine xA.goto (q := 24) rfl rfl ?_
      exact xA.iret rfl rfl rfl ⟨by first | (rw [xb_t (by simp only [Int32.lt_iff_toInt_lt, Int32.le_iff_toInt_le, i32_ext, Int32.reduceToInt] at *; omega)]; done) | (rw [xb_f (by simp only [Int32.lt_iff_toInt_lt, Int32.le_iff_toInt_le, i32_ext, Int32.reduceToInt] at *; omega)]; done), rfl⟩
    · refine xA.iload_n (i := 1) rfl rfl rfl rfl ?_
      refine xA.iconst (v := 3) rfl (by decide) rfl ?_
      refine xA.icmp_ne (tgt := 23) rfl rfl rfl (fun h11 => ?_) (fun h11 => ?_)
      · refine xA.iconst (v := 0) rfl (by decide) rfl ?_
        exact xA.iret rfl rfl rfl ⟨by first | (rw [xb_t (by simp only [Int32.lt_iff_toInt_lt, Int32.le_iff_toInt_le, i32_ext, Int32.reduceToInt] at *; omega)]; done) | (rw [xb_f (by simp only [Int32.lt_iff_toInt_lt, Int32.le_iff_toInt_le, i32_ext, Int32.reduceToInt] at *; omega)]; done), rfl⟩
      · refine xA.iload_n (i := 0) rfl rfl rfl rfl ?_
        refine xA.iconst (v := 4) rfl (by decide) rfl ?_
        refine xA.icmp_ne (tgt := 23) rfl rfl rfl (fun h16 => ?_) (fun h16 => ?_)
        · refine xA.iconst (v := 0) rfl (by decide) rfl ?_
          exact xA.iret rfl rfl rfl ⟨by first | (rw [xb_t (by simp only [Int32.lt_iff_toInt_lt, Int32.le_iff_toInt_le, i32_ext, Int32.reduceToInt] at *; omega)]; done) | (rw [xb_f (by simp only [Int32.lt_iff_toInt_lt, Int32.le_iff_toInt_le, i32_ext, Int32.reduceToInt] at *; omega)]; done), rfl⟩
        · refine xA.iconst (v := 1) rfl (by decide) rfl ?_
          refine xA.goto (q := 24) rfl rfl ?_
          exact xA.iret rfl rfl rfl ⟨by first | (rw [xb_t (by simp only [Int32.lt_iff_toInt_lt, Int32.le_iff_toInt_le, i32_ext, Int32.reduceToInt] at *; omega)]; done) | (rw [xb_f (by simp only [Int32.lt_iff_toInt_lt, Int32.le_iff_toInt_le, i32_ext, Int32.reduceToInt] at *; omega)]; done), rfl⟩
set_option maxRecDepth 100000 in
set_option maxHeartbeats 400000 in
theorem c_X9_spotOf (d : Nat) (S : Nat → Nat → Int32) (G : Nat → Nat → Int64) (x y : Int32) : xR τ d mX9_spotOf [.int x, .int y] S G (some (.int (x * 6 + y))) S G := by
  refine xC.of okX9_spotOf (Nat.le_of_ble_eq_true rfl) (L := [_, _]) rfl ?_
  refine xA.iload_n (i := 0) rfl rfl rfl rfl ?_
  refine xA.bipush (v := 6) rfl (by decide) rfl ?_
  refine xA.imul rfl rfl ?_
  refine xA.iload_n (i := 1) rfl rfl rfl rfl ?_
  refine xA.iadd rfl rfl ?_
  exact xA.iret rfl rfl rfl ⟨rfl, rfl⟩
set_option maxRecDepth 100000 in
set_option maxHeartbeats 400000 in
theorem c_X9_minuteOf (d : Nat) (S : Nat → Nat → Int32) (G : Nat → Nat → Int64) (x : Int32) : xR τ d mX9_minuteOf [.int x] S G (some (.int (xmin x))) S G := by
  refine xC.of okX9_minuteOf (Nat.le_of_ble_eq_true rfl) (L := [_]) rfl ?_
  refine xA.iload_n (i := 0) rfl rfl rfl rfl ?_
  refine xA.iconst (v := (-1)) rfl (by decide) rfl ?_
  refine xA.icmp_ne (tgt := 9) rfl rfl rfl (fun h2 => ?_) (fun h2 => ?_)
  · refine xA.iload_n (i := 0) rfl rfl rfl rfl ?_
    refine xA.bipush (v := 6) rfl (by decide) rfl ?_
    refine xA.idiv rfl (by decide) rfl ?_
    exact xA.iret rfl rfl rfl ⟨by simp [xmin, *], rfl⟩
  · refine xA.iconst (v := (-1)) rfl (by decide) rfl ?_
    refine xA.goto (q := 13) rfl rfl ?_
    exact xA.iret rfl rfl rfl ⟨by simp [xmin, *], rfl⟩
set_option maxRecDepth 100000 in
set_option maxHeartbeats 400000 in
theorem c_X9_roomOf (d : Nat) (S : Nat → Nat → Int32) (G : Nat → Nat → Int64) (x : Int32) : xR τ d mX9_roomOf [.int x] S G (some (.int (xroom x))) S G := by
  refine xC.of okX9_roomOf (Nat.le_of_ble_eq_true rfl) (L := [_]) rfl ?_
  refine xA.iload_n (i := 0) rfl rfl rfl rfl ?_
  refine xA.iconst (v := (-1)) rfl (by decide) rfl ?_
  refine xA.icmp_ne (tgt := 9) rfl rfl rfl (fun h2 => ?_) (fun h2 => ?_)
  · refine xA.iload_n (i := 0) rfl rfl rfl rfl ?_
    refine xA.bipush (v := 6) rfl (by decide) rfl ?_
    refine xA.irem rfl (by decide) rfl ?_
    exact xA.iret rfl rfl rfl ⟨by simp [xroom, *], rfl⟩
  · refine xA.iconst (v := (-1)) rfl (by decide) rfl ?_
    refine xA.goto (q := 13) rfl rfl ?_
    exact xA.iret rfl rfl rfl ⟨by simp [xroom, *], rfl⟩
set_option maxRecDepth 100000 in
set_option maxHeartbeats 400000 in
theorem c_X9_digitOf (d : Nat) (S : Nat → Nat → Int32) (G : Nat → Nat → Int64) (x lo hi : Int32) : xR τ d mX9_digitOf [.int x, .int lo, .int hi] S G (some (.int (xdig x lo hi))) S G := by
  refine xC.of okX9_digitOf (Nat.le_of_ble_eq_true rfl) (L := [_, _, _, _]) rfl ?_
  refine xA.iload_n (i := 0) rfl rfl rfl rfl ?_
  refine xA.bipush (v := 48) rfl (by decide) rfl ?_
  refine xA.isub rfl rfl ?_
  refine xA.istore_n (i := 3) (L' := [_, _, _, _]) rfl rfl (Nat.le_of_ble_eq_true rfl) rfl rfl ?_
  refine xA.iload_n (i := 3) rfl rfl rfl rfl ?_
  refine xA.iload_n (i := 1) rfl rfl rfl rfl ?_
  refine xA.icmp_lt (tgt := 19) rfl rfl rfl (fun h7 => ?_) (fun h7 => ?_)
  · refine xA.iconst (v := (-1)) rfl (by decide) rfl ?_
    exact xA.iret rfl rfl rfl ⟨by unfold xdig; first | (rw [if_pos (by simp only [Int32.lt_iff_toInt_lt, Int32.le_iff_toInt_le, i32_ext, Int32.reduceToInt] at *; omega)]; done) | (rw [if_neg (by simp only [Int32.lt_iff_toInt_lt, Int32.le_iff_toInt_le, i32_ext, Int32.reduceToInt] at *; omega)]; done), rfl⟩
  · refine xA.iload_n (i := 3) rfl rfl rfl rfl ?_
    refine xA.iload_n (i := 2) rfl rfl rfl rfl ?_
    refine xA.icmp_gt (tgt := 19) rfl rfl rfl (fun h12 => ?_) (fun h12 => ?_)
    · refine xA.iconst (v := (-1)) rfl (by decide) rfl ?_
      exact xA.iret rfl rfl rfl ⟨by unfold xdig; first | (rw [if_pos (by simp only [Int32.lt_iff_toInt_lt, Int32.le_iff_toInt_le, i32_ext, Int32.reduceToInt] at *; omega)]; done) | (rw [if_neg (by simp only [Int32.lt_iff_toInt_lt, Int32.le_iff_toInt_le, i32_ext, Int32.reduceToInt] at *; omega)]; done), rfl⟩
    · refine xA.iload_n (i := 3) rfl rfl rfl rfl ?_
      refine xA.goto (q := 20) rfl rfl ?_
      exact xA.iret rfl rfl rfl ⟨by unfold xdig; first | (rw [if_pos (by simp only [Int32.lt_iff_toInt_lt, Int32.le_iff_toInt_le, i32_ext, Int32.reduceToInt] at *; omega)]; done) | (rw [if_neg (by simp only [Int32.lt_iff_toInt_lt, Int32.le_iff_toInt_le, i32_ext, Int32.reduceToInt] at *; omega)]; done), rfl⟩
set_option maxRecDepth 100000 in
set_option maxHeartbeats 400000 in
theorem c_X9_roomDigitOf (d : Nat) (S : Nat → Nat → Int32) (G : Nat → Nat → Int64) (x : Int32) : xR τ (d + 1) mX9_roomDigitOf [.int x] S G (some (.int (xdig x 0 5))) S G := by
  refine xC.of okX9_roomDigitOf (Nat.le_of_ble_eq_true rfl) (L := [_]) rfl ?_
  refine xA.iload_n (i := 0) rfl rfl rfl rfl ?_
  refine xA.iconst (v := 0) rfl (by decide) rfl ?_
  refine xA.iconst (v := 5) rfl (by decide) rfl ?_
  refine xA.callSi (As := [_, _, _]) rfl k9_334 okX9_digitOf rfl rfl (Nat.le_of_ble_eq_true rfl) (c_X9_digitOf d S G _ _ _) rfl rfl ?_
  exact xA.iret rfl rfl rfl ⟨rfl, rfl⟩
set_option maxRecDepth 100000 in
set_option maxHeartbeats 400000 in
theorem c_X9_hasHouse (d : Nat) (S : Nat → Nat → Int32) (G : Nat → Nat → Int64)  : xR τ d mX9_hasHouse [.ref 0] S G (some (.int (xb (0 < S 0 11)))) S G := by
  refine xC.of okX9_hasHouse (Nat.le_of_ble_eq_true rfl) (L := [_]) rfl ?_
  refine xA.aload_n (i := 0) rfl rfl rfl rfl ?_
  refine xA.getI rfl f9_101 rfl rfl rfl ?_
  refine xA.if_le (tgt := 11) rfl rfl rfl (fun h4 => ?_) (fun h4 => ?_)
  · refine xA.iconst (v := 0) rfl (by decide) rfl ?_
    exact xA.iret rfl rfl rfl ⟨by simp [xb, *], rfl⟩
  · refine xA.iconst (v := 1) rfl (by decide) rfl ?_
    refine xA.goto (q := 12) rfl rfl ?_
    exact xA.iret rfl rfl rfl ⟨by simp [xb, *], rfl⟩
set_option maxRecDepth 100000 in
set_option maxHeartbeats 400000 in
theorem c_X4_length (d : Nat) (S : Nat → Nat → Int32) (G : Nat → Nat → Int64)  : xR τ d mX4_length [.ref 1] S G (some (.int (S 1 1))) S G := by
  refine xC.of okX4_length (Nat.le_of_ble_eq_true rfl) (L := [_]) rfl ?_
  refine xA.aload_n (i := 0) rfl rfl rfl rfl ?_
  refine xA.getI rfl f4_21 rfl rfl rfl ?_
  exact xA.iret rfl rfl rfl ⟨rfl, rfl⟩
set_option maxRecDepth 100000 in
set_option maxHeartbeats 400000 in
theorem c_X4_clear (d : Nat) (S : Nat → Nat → Int32) (G : Nat → Nat → Int64)  : xR τ d mX4_clear [.ref 1] S G none (xu S 1 1 0) G := by
  refine xC.of okX4_clear (Nat.le_of_ble_eq_true rfl) (L := [_]) rfl ?_
  refine xA.aload_n (i := 0) rfl rfl rfl rfl ?_
  refine xA.iconst (v := 0) rfl (by decide) rfl ?_
  refine xA.putI rfl p4_21 rfl rfl rfl ?_
  exact xA.vret rfl rfl ⟨rfl, rfl⟩
set_option maxRecDepth 100000 in
set_option maxHeartbeats 400000 in
theorem c_X8_begin (d : Nat) (S : Nat → Nat → Int32) (G : Nat → Nat → Int64) (x y : Int32) : xR τ d mX8_begin [.ref 41, .int x, .int y] S G none (xu (xu (xu S 41 0 x) 41 1 0) 41 2 y) G := by
  refine xC.of okX8_begin (Nat.le_of_ble_eq_true rfl) (L := [_, _, _]) rfl ?_
  refine xA.aload_n (i := 0) rfl rfl rfl rfl ?_
  refine xA.iload_n (i := 1) rfl rfl rfl rfl ?_
  refine xA.putI rfl p8_9 rfl rfl rfl ?_
  refine xA.aload_n (i := 0) rfl rfl rfl rfl ?_
  refine xA.iconst (v := 0) rfl (by decide) rfl ?_
  refine xA.putI rfl p8_15 rfl rfl rfl ?_
  refine xA.aload_n (i := 0) rfl rfl rfl rfl ?_
  refine xA.iload_n (i := 2) rfl rfl rfl rfl ?_
  refine xA.putI rfl p8_18 rfl rfl rfl ?_
  exact xA.vret rfl rfl ⟨rfl, rfl⟩
/-- the shapes of a house, a life, tasks, glimpses, a person, by the number of the first cell -/
def isHouse (τ : List xSh) (k : Nat) : Prop := (σF τ)[k]? = some (.inl (1, [some (k + 1), some (k + 2), none, none, none, none, none, none])) ∧ (σF τ)[k + 1]? = some (.inr (.inl 36)) ∧ (σF τ)[k + 2]? = some (.inr (.inl 6))
def isLife (τ : List xSh) (k : Nat) : Prop := (σF τ)[k]? = some (.inl (3, [some (k + 1), none, none, none])) ∧ (σF τ)[k + 1]? = some (.inr (.inl 17))
def isTasks (τ : List xSh) (k : Nat) : Prop := (σF τ)[k]? = some (.inl (7, [some (k + 1), some (k + 2), some (k + 3), none])) ∧ (σF τ)[k + 1]? = some (.inr (.inl 5)) ∧ (σF τ)[k + 2]? = some (.inr (.inl 5)) ∧ (σF τ)[k + 3]? = some (.inr (.inl 5))
def isGlim (τ : List xSh) (k : Nat) : Prop := (σF τ)[k]? = some (.inl (0, [some (k + 1), none])) ∧ (σF τ)[k + 1]? = some (.inr (.inl 8))
def isPers (τ : List xSh) (k : Nat) : Prop := (σF τ)[k]? = some (.inl (5, [some (k + 1), none])) ∧ isLife τ (k + 1)
set_option maxRecDepth 100000 in
set_option maxHeartbeats 400000 in
theorem c_X1_doors (d : Nat) (S : Nat → Nat → Int32) (G : Nat → Nat → Int64) (k : Nat) (hk : isHouse τ k) : xR τ d mX1_doors [.ref k] S G (some (.int (S k 2))) S G := by
  refine xC.of okX1_doors (Nat.le_of_ble_eq_true rfl) (L := [_]) rfl ?_
  refine xA.aload_n (i := 0) rfl rfl rfl rfl ?_
  refine xA.getI rfl f1_42 hk.1 rfl rfl ?_
  exact xA.iret rfl rfl rfl ⟨rfl, rfl⟩
set_option maxRecDepth 100000 in
set_option maxHeartbeats 400000 in
theorem c_X1_sights (d : Nat) (S : Nat → Nat → Int32) (G : Nat → Nat → Int64) (k : Nat) (hk : isHouse τ k) : xR τ d mX1_sights [.ref k] S G (some (.int (S k 3))) S G := by
  refine xC.of okX1_sights (Nat.le_of_ble_eq_true rfl) (L := [_]) rfl ?_
  refine xA.aload_n (i := 0) rfl rfl rfl rfl ?_
  refine xA.getI rfl f1_45 hk.1 rfl rfl ?_
  exact xA.iret rfl rfl rfl ⟨rfl, rfl⟩
set_option maxRecDepth 100000 in
set_option maxHeartbeats 400000 in
theorem c_X1_lowRoom (d : Nat) (S : Nat → Nat → Int32) (G : Nat → Nat → Int64) (k : Nat) (hk : isHouse τ k) : xR τ d mX1_lowRoom [.ref k] S G (some (.int (S k 4))) S G := by
  refine xC.of okX1_lowRoom (Nat.le_of_ble_eq_true rfl) (L := [_]) rfl ?_
  refine xA.aload_n (i := 0) rfl rfl rfl rfl ?_
  refine xA.getI rfl f1_18 hk.1 rfl rfl ?_
  exact xA.iret rfl rfl rfl ⟨rfl, rfl⟩
set_option maxRecDepth 100000 in
set_option maxHeartbeats 400000 in
theorem c_X1_back (d : Nat) (S : Nat → Nat → Int32) (G : Nat → Nat → Int64) (k : Nat) (hk : isHouse τ k) : xR τ d mX1_back [.ref k] S G (some (.int (S k 5))) S G := by
  refine xC.of okX1_back (Nat.le_of_ble_eq_true rfl) (L := [_]) rfl ?_
  refine xA.aload_n (i := 0) rfl rfl rfl rfl ?_
  refine xA.getI rfl f1_48 hk.1 rfl rfl ?_
  exact xA.iret rfl rfl rfl ⟨rfl, rfl⟩
set_option maxRecDepth 100000 in
set_option maxHeartbeats 400000 in
theorem c_X1_isWhole (d : Nat) (S : Nat → Nat → Int32) (G : Nat → Nat → Int64) (k : Nat) (hk : isHouse τ k) : xR τ d mX1_isWhole [.ref k] S G (some (.int (xb (S k 6 = 5 ∨ S k 6 = 8)))) S G := by
  refine xC.of okX1_isWhole (Nat.le_of_ble_eq_true rfl) (L := [_]) rfl ?_
  refine xA.aload_n (i := 0) rfl rfl rfl rfl ?_
  refine xA.getI rfl f1_39 hk.1 rfl rfl ?_
  refine xA.iconst (v := 5) rfl (by decide) rfl ?_
  refine xA.icmp_eq (tgt := 17) rfl rfl rfl (fun h5 => ?_) (fun h5 => ?_)
  · refine xA.iconst (v := 1) rfl (by decide) rfl ?_
    refine xA.goto (q := 22) rfl rfl ?_
    exact xA.iret rfl rfl rfl ⟨by simp [xb, *], rfl⟩
  · refine xA.aload_n (i := 0) rfl rfl rfl rfl ?_
    refine xA.getI rfl f1_39 hk.1 rfl rfl ?_
    refine xA.bipush (v := 8) rfl (by decide) rfl ?_
    refine xA.icmp_ne (tgt := 21) rfl rfl rfl (fun h14 => ?_) (fun h14 => ?_)
    · refine xA.iconst (v := 0) rfl (by decide) rfl ?_
      exact xA.iret rfl rfl rfl ⟨by simp [xb, *], rfl⟩
    · refine xA.iconst (v := 1) rfl (by decide) rfl ?_
      refine xA.goto (q := 22) rfl rfl ?_
      exact xA.iret rfl rfl rfl ⟨by simp [xb, *], rfl⟩
set_option maxRecDepth 100000 in
set_option maxHeartbeats 400000 in
theorem c_X1_leapOf (d : Nat) (S : Nat → Nat → Int32) (G : Nat → Nat → Int64) (k : Nat) (hk : isHouse τ k) (x : Int32) : xR τ (d + 1) mX1_leapOf [.ref k, .int x] S G (some (.int (if x = 2 then S k 5 + 1 else S k 5))) S G := by
  refine xC.of okX1_leapOf (Nat.le_of_ble_eq_true rfl) (L := [_, _]) rfl ?_
  refine xA.iload_n (i := 1) rfl rfl rfl rfl ?_
  refine xA.iconst (v := 2) rfl (by decide) rfl ?_
  refine xA.callSNi (As := [_, _]) rfl k1_82 okX9_isOfKind rfl rfl (Nat.le_of_ble_eq_true rfl) (c_X9_isOfKind d S G _ _) rfl rfl ?_
  refine xA.if_eq (tgt := 17) rfl rfl rfl (fun h5 => ?_) (fun h5 => ?_)
  · refine xA.aload_n (i := 0) rfl rfl rfl rfl ?_
    refine xA.getI rfl f1_48 hk.1 rfl rfl ?_
    exact xA.iret rfl rfl rfl ⟨by by_cases hx : x = 2 <;> simp_all [xb, eq_comm], rfl⟩
  · refine xA.aload_n (i := 0) rfl rfl rfl rfl ?_
    refine xA.getI rfl f1_48 hk.1 rfl rfl ?_
    refine xA.iconst (v := 1) rfl (by decide) rfl ?_
    refine xA.iadd rfl rfl ?_
    refine xA.goto (q := 21) rfl rfl ?_
    exact xA.iret rfl rfl rfl ⟨by by_cases hx : x = 2 <;> simp_all [xb, eq_comm], rfl⟩
set_option maxRecDepth 100000 in
set_option maxHeartbeats 400000 in
theorem c_X3_selves (d : Nat) (S : Nat → Nat → Int32) (G : Nat → Nat → Int64) (k : Nat) (hk : isLife τ k) : xR τ d mX3_selves [.ref k] S G (some (.int (S k 1))) S G := by
  refine xC.of okX3_selves (Nat.le_of_ble_eq_true rfl) (L := [_]) rfl ?_
  refine xA.aload_n (i := 0) rfl rfl rfl rfl ?_
  refine xA.getI rfl f3_79 hk.1 rfl rfl ?_
  exact xA.iret rfl rfl rfl ⟨rfl, rfl⟩
set_option maxRecDepth 100000 in
set_option maxHeartbeats 400000 in
theorem c_X3_throughs (d : Nat) (S : Nat → Nat → Int32) (G : Nat → Nat → Int64) (k : Nat) (hk : isLife τ k) : xR τ d mX3_throughs [.ref k] S G (some (.int (S k 2))) S G := by
  refine xC.of okX3_throughs (Nat.le_of_ble_eq_true rfl) (L := [_]) rfl ?_
  refine xA.aload_n (i := 0) rfl rfl rfl rfl ?_
  refine xA.getI rfl f3_66 hk.1 rfl rfl ?_
  exact xA.iret rfl rfl rfl ⟨rfl, rfl⟩
set_option maxRecDepth 100000 in
set_option maxHeartbeats 400000 in
theorem c_X3_clear (d : Nat) (S : Nat → Nat → Int32) (G : Nat → Nat → Int64) (k : Nat) (hk : isLife τ k) : xR τ d mX3_clear [.ref k] S G none (xu (xu (xu S k 1 0) k 2 0) k 3 0) G := by
  refine xC.of okX3_clear (Nat.le_of_ble_eq_true rfl) (L := [_]) rfl ?_
  refine xA.aload_n (i := 0) rfl rfl rfl rfl ?_
  refine xA.iconst (v := 0) rfl (by decide) rfl ?_
  refine xA.putI rfl p3_79 hk.1 rfl rfl ?_
  refine xA.aload_n (i := 0) rfl rfl rfl rfl ?_
  refine xA.iconst (v := 0) rfl (by decide) rfl ?_
  refine xA.putI rfl p3_66 hk.1 rfl rfl ?_
  refine xA.aload_n (i := 0) rfl rfl rfl rfl ?_
  refine xA.iconst (v := 0) rfl (by decide) rfl ?_
  refine xA.putI rfl p3_70 hk.1 rfl rfl ?_
  exact xA.vret rfl rfl ⟨rfl, rfl⟩
set_option maxRecDepth 100000 in
set_option maxHeartbeats 400000 in
theorem c_X3_usesDoor (d : Nat) (S : Nat → Nat → Int32) (G : Nat → Nat → Int64) (k : Nat) (hk : isLife τ k) (x : Int32) : xR τ d mX3_usesDoor [.ref k, .int x] S G (some (.int (xb (¬ ((S k 3 >>> (x &&& 31)) &&& 1 = 0))))) S G := by
  refine xC.of okX3_usesDoor (Nat.le_of_ble_eq_true rfl) (L := [_, _]) rfl ?_
  refine xA.aload_n (i := 0) rfl rfl rfl rfl ?_
  refine xA.getI rfl f3_70 hk.1 rfl rfl ?_
  refine xA.iload_n (i := 1) rfl rfl rfl rfl ?_
  refine xA.ishr rfl rfl ?_
  refine xA.iconst (v := 1) rfl (by decide) rfl ?_
  refine xA.iand rfl rfl ?_
  refine xA.if_eq (tgt := 15) rfl rfl rfl (fun h8 => ?_) (fun h8 => ?_)
  · refine xA.iconst (v := 0) rfl (by decide) rfl ?_
    exact xA.iret rfl rfl rfl ⟨by simp [xb, *], rfl⟩
  · refine xA.iconst (v := 1) rfl (by decide) rfl ?_
    refine xA.goto (q := 16) rfl rfl ?_
    exact xA.iret rfl rfl rfl ⟨by simp [xb, *], rfl⟩
set_option maxRecDepth 100000 in
set_option maxHeartbeats 400000 in
theorem c_X7_size (d : Nat) (S : Nat → Nat → Int32) (G : Nat → Nat → Int64) (k : Nat) (hk : isTasks τ k) : xR τ d mX7_size [.ref k] S G (some (.int (S k 3))) S G := by
  refine xC.of okX7_size (Nat.le_of_ble_eq_true rfl) (L := [_]) rfl ?_
  refine xA.aload_n (i := 0) rfl rfl rfl rfl ?_
  refine xA.getI rfl f7_21 hk.1 rfl rfl ?_
  exact xA.iret rfl rfl rfl ⟨rfl, rfl⟩
set_option maxRecDepth 100000 in
set_option maxHeartbeats 400000 in
theorem c_X7_clear (d : Nat) (S : Nat → Nat → Int32) (G : Nat → Nat → Int64) (k : Nat) (hk : isTasks τ k) : xR τ d mX7_clear [.ref k] S G none (xu S k 3 0) G := by
  refine xC.of okX7_clear (Nat.le_of_ble_eq_true rfl) (L := [_]) rfl ?_
  refine xA.aload_n (i := 0) rfl rfl rfl rfl ?_
  refine xA.iconst (v := 0) rfl (by decide) rfl ?_
  refine xA.putI rfl p7_21 hk.1 rfl rfl ?_
  exact xA.vret rfl rfl ⟨rfl, rfl⟩
set_option maxRecDepth 100000 in
set_option maxHeartbeats 400000 in
theorem c_X0_size (d : Nat) (S : Nat → Nat → Int32) (G : Nat → Nat → Int64) (k : Nat) (hk : isGlim τ k) : xR τ d mX0_size [.ref k] S G (some (.int (S k 1))) S G := by
  refine xC.of okX0_size (Nat.le_of_ble_eq_true rfl) (L := [_]) rfl ?_
  refine xA.aload_n (i := 0) rfl rfl rfl rfl ?_
  refine xA.getI rfl f0_15 hk.1 rfl rfl ?_
  exact xA.iret rfl rfl rfl ⟨rfl, rfl⟩
set_option maxRecDepth 100000 in
set_option maxHeartbeats 400000 in
theorem c_X0_clear (d : Nat) (S : Nat → Nat → Int32) (G : Nat → Nat → Int64) (k : Nat) (hk : isGlim τ k) : xR τ d mX0_clear [.ref k] S G none (xu S k 1 0) G := by
  refine xC.of okX0_clear (Nat.le_of_ble_eq_true rfl) (L := [_]) rfl ?_
  refine xA.aload_n (i := 0) rfl rfl rfl rfl ?_
  refine xA.iconst (v := 0) rfl (by decide) rfl ?_
  refine xA.putI rfl p0_15 hk.1 rfl rfl ?_
  exact xA.vret rfl rfl ⟨rfl, rfl⟩
set_option maxRecDepth 100000 in
set_option maxHeartbeats 400000 in
theorem c_X5_kind (d : Nat) (S : Nat → Nat → Int32) (G : Nat → Nat → Int64) (k : Nat) (hk : isPers τ k) : xR τ d mX5_kind [.ref k] S G (some (.int (S k 1))) S G := by
  refine xC.of okX5_kind (Nat.le_of_ble_eq_true rfl) (L := [_]) rfl ?_
  refine xA.aload_n (i := 0) rfl rfl rfl rfl ?_
  refine xA.getI rfl f5_18 hk.1 rfl rfl ?_
  exact xA.iret rfl rfl rfl ⟨rfl, rfl⟩
set_option maxRecDepth 100000 in
set_option maxHeartbeats 400000 in
theorem c_X5_lived (d : Nat) (S : Nat → Nat → Int32) (G : Nat → Nat → Int64) (k : Nat) (hk : isPers τ k) : xR τ d mX5_lived [.ref k] S G (some (.ref (k + 1))) S G := by
  refine xC.of okX5_lived (Nat.le_of_ble_eq_true rfl) (L := [_]) rfl ?_
  refine xA.aload_n (i := 0) rfl rfl rfl rfl ?_
  refine xA.getR rfl f5_12 hk.1 rfl rfl rfl ?_
  exact xA.aret rfl rfl (Or.inr ⟨_, rfl⟩) ⟨rfl, rfl⟩
set_option maxRecDepth 100000 in
set_option maxHeartbeats 400000 in
theorem c_X5_begin (d : Nat) (S : Nat → Nat → Int32) (G : Nat → Nat → Int64) (k : Nat) (hk : isPers τ k) (x : Int32) : xR τ (d + 1) mX5_begin [.ref k, .int x] S G none (xu (xu (xu (xu S k 1 x) (k + 1) 1 0) (k + 1) 2 0) (k + 1) 3 0) G := by
  refine xC.of okX5_begin (Nat.le_of_ble_eq_true rfl) (L := [_, _]) rfl ?_
  refine xA.aload_n (i := 0) rfl rfl rfl rfl ?_
  refine xA.iload_n (i := 1) rfl rfl rfl rfl ?_
  refine xA.putI rfl p5_18 hk.1 rfl rfl ?_
  refine xA.aload_n (i := 0) rfl rfl rfl rfl ?_
  refine xA.getR rfl f5_12 hk.1 rfl rfl rfl ?_
  refine xA.callVv (As := []) rfl k5_22 okX3_clear hk.2.1 rfl rfl rfl (Nat.le_of_ble_eq_true rfl) (c_X3_clear d _ G _ hk.2) rfl rfl ?_
  exact xA.vret rfl rfl ⟨rfl, rfl⟩
set_option maxRecDepth 100000 in
set_option maxHeartbeats 400000 in
theorem c_X2_drop (d : Nat) (S : Nat → Nat → Int32) (G : Nat → Nat → Int64)  : xR τ d mX2_drop [.ref 18] S G none (xu S 18 3 0) G := by
  refine xC.of okX2_drop (Nat.le_of_ble_eq_true rfl) (L := [_]) rfl ?_
  refine xA.aload_n (i := 0) rfl rfl rfl rfl ?_
  refine xA.iconst (v := 0) rfl (by decide) rfl ?_
  refine xA.putZ rfl p2_32 rfl rfl (by decide) rfl ?_
  exact xA.vret rfl rfl ⟨rfl, rfl⟩
end
section
variable {τ : List xSh}
/-! ===== counting; lives ===== -/
/-- a loop, from behind -/
theorem xloop {P : Nat → Prop} (n : Nat) (hs : ∀ i, i < n → P (i + 1) → P i) (he : P n) : ∀ i, i ≤ n → P i := by
  have key : ∀ t i, i + t = n → P i := by
    intro t
    induction t with
    | zero => intro i hi; rw [Nat.add_zero] at hi; subst hi; exact he
    | succ t ih => intro i hi; exact hs i (by omega) (ih (i + 1) (by omega))
  exact fun i hi => key (n - i) i (by omega)
/-- how many -/
def cn (f : Nat → Bool) : Nat → Nat
  | 0 => 0
  | n + 1 => cn f n + (if f n then 1 else 0)
theorem cn_t {f : Nat → Bool} {i : Nat} (h : f i = true) : nI (cn f i) + 1 = nI (cn f (i + 1)) := by
  rw [nI_1]; simp [cn, h]
theorem cn_f {f : Nat → Bool} {i : Nat} (h : f i = false) : nI (cn f i) + 0 = nI (cn f (i + 1)) := by
  simp [cn, h]
theorem cn_le (f : Nat → Bool) (n : Nat) : cn f n ≤ n := by
  induction n with
  | zero => exact Nat.le_refl 0
  | succ n ih => unfold cn; split <;> omega
theorem cn_congr {f g : Nat → Bool} {n : Nat} (h : ∀ i, i < n → f i = g i) : cn f n = cn g n := by
  induction n with
  | zero => rfl
  | succ n ih => unfold cn; rw [ih (fun i hi => h i (by omega)), h n (by omega)]
theorem cn_pos {f : Nat → Bool} {n : Nat} : 0 < cn f n ↔ ∃ i, i < n ∧ f i = true := by
  induction n with
  | zero => simp [cn]
  | succ n ih =>
    unfold cn
    by_cases hn : f n = true
    · simp only [hn, if_true]
      exact ⟨fun _ => ⟨n, by omega, hn⟩, fun _ => by omega⟩
    · simp only [hn, if_false, Nat.add_zero, Bool.false_eq_true]
      rw [ih]
      exact ⟨fun ⟨i, h1, h2⟩ => ⟨i, by omega, h2⟩, fun ⟨i, h1, h2⟩ => ⟨i, by
        rcases Nat.lt_or_ge i n with h3 | h3
        · exact h3
        · have : i = n := by omega
          subst this; exact absurd h2 hn, h2⟩⟩

set_option maxRecDepth 100000 in
set_option maxHeartbeats 400000 in
theorem c_X3_spotAt (d : Nat) (S : Nat → Nat → Int32) (G : Nat → Nat → Int64) (k : Nat) (hk : isLife τ k) (n i : Nat) (hn : S k 1 = nI n) (hi : i < n) (h17 : n ≤ 17) : xR τ d mX3_spotAt [.ref k, .int (nI i)] S G (some (.int (S (k + 1) i))) S G := by
  refine xC.of okX3_spotAt (Nat.le_of_ble_eq_true rfl) (L := [_, _]) rfl ?_
  refine xA.iload_n (i := 1) rfl rfl rfl rfl ?_
  refine xA.if_lt (tgt := 30) rfl rfl rfl (fun h1 => ?_) (fun h1 => ?_)
  · exact absurd h1 (nI_pos (by omega))
  · refine xA.iload_n (i := 1) rfl rfl rfl rfl ?_
    refine xA.aload_n (i := 0) rfl rfl rfl rfl ?_
    refine xA.getI rfl f3_79 hk.1 rfl rfl ?_
    refine xA.topi (hn) ?_
    refine xA.icmp_ge (tgt := 30) rfl rfl rfl (fun h9 => ?_) (fun h9 => ?_)
    · exact absurd h9 (nI_ge hi (by omega))
    · refine xA.iload_n (i := 1) rfl rfl rfl rfl ?_
      refine xA.aload_n (i := 0) rfl rfl rfl rfl ?_
      refine xA.getR rfl f3_11 hk.1 rfl rfl rfl ?_
      refine xA.alen rfl hk.2 rfl ?_
      refine xA.icmp_ge (tgt := 30) rfl rfl rfl (fun h18 => ?_) (fun h18 => ?_)
      · exact absurd h18 (nI_ge (by omega) (by omega))
      · refine xA.aload_n (i := 0) rfl rfl rfl rfl ?_
        refine xA.getR rfl f3_11 hk.1 rfl rfl rfl ?_
        refine xA.iload_n (i := 1) rfl rfl rfl rfl ?_
        refine xA.iald rfl hk.2 (vp_in_nI (by omega) (by omega)) rfl ?_
        refine xA.topi (congrArg (S (k + 1)) (nI_clamp (by omega))) ?_
        refine xA.goto (q := 31) rfl rfl ?_
        exact xA.iret rfl rfl rfl ⟨rfl, rfl⟩
set_option maxRecDepth 100000 in
set_option maxHeartbeats 400000 in
theorem c_X3_spotAtN (d : Nat) (S : Nat → Nat → Int32) (G : Nat → Nat → Int64) (k : Nat) (hk : isLife τ k) : xR τ d mX3_spotAt [.ref k, .int (-1)] S G (some (.int (-1))) S G := by
  refine xC.of okX3_spotAt (Nat.le_of_ble_eq_true rfl) (L := [_, _]) rfl ?_
  refine xA.iload_n (i := 1) rfl rfl rfl rfl ?_
  refine xA.if_lt (tgt := 30) rfl rfl rfl (fun h1 => ?_) (fun h1 => ?_)
  · refine xA.iconst (v := (-1)) rfl (by decide) rfl ?_
    exact xA.iret rfl rfl rfl ⟨rfl, rfl⟩
  · exact absurd (by decide) h1
set_option maxRecDepth 100000 in
set_option maxHeartbeats 400000 in
theorem c_X3_lastSpot0 (d : Nat) (S : Nat → Nat → Int32) (G : Nat → Nat → Int64) (k : Nat) (hk : isLife τ k) (hn : S k 1 = nI 0) : xR τ (d + 1) mX3_lastSpot [.ref k] S G (some (.int (-1))) S G := by
  refine xC.of okX3_lastSpot (Nat.le_of_ble_eq_true rfl) (L := [_]) rfl ?_
  refine xA.aload_n (i := 0) rfl rfl rfl rfl ?_
  refine xA.aload_n (i := 0) rfl rfl rfl rfl ?_
  refine xA.getI rfl f3_79 hk.1 rfl rfl ?_
  refine xA.topi (hn) ?_
  refine xA.iconst (v := 1) rfl (by decide) rfl ?_
  refine xA.isub rfl rfl ?_
  refine xA.topi ((rfl : nI 0 - 1 = -1)) ?_
  refine xA.callVi (As := [_]) rfl k3_82 okX3_spotAt hk.1 rfl rfl rfl (Nat.le_of_ble_eq_true rfl) (c_X3_spotAtN d S G k hk) rfl rfl ?_
  exact xA.iret rfl rfl rfl ⟨rfl, rfl⟩
set_option maxRecDepth 100000 in
set_option maxHeartbeats 400000 in
theorem c_X3_lastSpot (d : Nat) (S : Nat → Nat → Int32) (G : Nat → Nat → Int64) (k : Nat) (hk : isLife τ k) (n : Nat) (hn : S k 1 = nI (n + 1)) (h17 : n + 1 ≤ 17) : xR τ (d + 1) mX3_lastSpot [.ref k] S G (some (.int (S (k + 1) n))) S G := by
  refine xC.of okX3_lastSpot (Nat.le_of_ble_eq_true rfl) (L := [_]) rfl ?_
  refine xA.aload_n (i := 0) rfl rfl rfl rfl ?_
  refine xA.aload_n (i := 0) rfl rfl rfl rfl ?_
  refine xA.getI rfl f3_79 hk.1 rfl rfl ?_
  refine xA.topi (hn) ?_
  refine xA.iconst (v := 1) rfl (by decide) rfl ?_
  refine xA.isub rfl rfl ?_
  refine xA.topi (nI_pred n) ?_
  refine xA.callVi (As := [_]) rfl k3_82 okX3_spotAt hk.1 rfl rfl rfl (Nat.le_of_ble_eq_true rfl) (c_X3_spotAt d S G k hk (n + 1) n hn (by omega) h17) rfl rfl ?_
  exact xA.iret rfl rfl rfl ⟨rfl, rfl⟩
set_option maxRecDepth 100000 in
set_option maxHeartbeats 400000 in
theorem c_X3_selvesAt (d : Nat) (S : Nat → Nat → Int32) (G : Nat → Nat → Int64) (k : Nat) (hk : isLife τ k) (n : Nat) (hn : S k 1 = nI n) (h17 : n ≤ 17) (x : Int32) : xR τ (d + 1) mX3_selvesAt [.ref k, .int x] S G (some (.int (nI (cn (fun j => decide (S (k + 1) j = x)) n)))) S G := by
  refine xC.of okX3_selvesAt (Nat.le_of_ble_eq_true rfl) (L := [_, _, _, _]) rfl ?_
  have loop : ∀ i, i ≤ n → xA none (d + 1) mX3_selvesAt 0 0 0 0 4 [some (.ref k), some (.int x), some (.int (nI (cn (fun j => decide (S (k + 1) j = x)) i))), some (.int (nI i))] [] ((σF τ), S, G) (fun r' h' => r' = (some (.int (nI (cn (fun j => decide (S (k + 1) j = x)) n)))) ∧ h' = ((σF τ), S, G)) := by
    refine xloop n (fun i hi ih => ?_) ?_
    · skip
      refine xA.iload_n (i := 3) rfl rfl rfl rfl ?_
      refine xA.aload_n (i := 0) rfl rfl rfl rfl ?_
      refine xA.getI rfl f3_79 hk.1 rfl rfl ?_
      refine xA.topi (hn) ?_
      refine xA.icmp_ge (tgt := 35) rfl rfl rfl (fun h9 => ?_) (fun h9 => ?_)
      · exact absurd h9 (nI_ge hi (by omega))
      · refine xA.iload_n (i := 2) rfl rfl rfl rfl ?_
        refine xA.aload_n (i := 0) rfl rfl rfl rfl ?_
        refine xA.iload_n (i := 3) rfl rfl rfl rfl ?_
        refine xA.callVi (As := [_]) rfl k3_82 okX3_spotAt hk.1 rfl rfl rfl (Nat.le_of_ble_eq_true rfl) (c_X3_spotAt d S G k hk n i hn hi h17) rfl rfl ?_
        refine xA.iload_n (i := 1) rfl rfl rfl rfl ?_
        refine xA.icmp_ne (tgt := 26) rfl rfl rfl (fun h19 => ?_) (fun h19 => ?_)
        · refine xA.iconst (v := 0) rfl (by decide) rfl ?_
          refine xA.iadd rfl rfl ?_
          refine xA.topi (show _ = nI (cn (fun j => decide (S (k + 1) j = x)) (i + 1)) from by first | exact cn_t (by simp [h19]) | exact cn_f (by simp [h19])) ?_
          refine xA.istore_n (i := 2) (L' := [_, _, _, _]) rfl rfl (Nat.le_of_ble_eq_true rfl) rfl rfl ?_
          refine xA.iinc (L' := [_, _, _, _]) rfl rfl (nI_1 i) rfl rfl ?_
          refine xA.goto (q := 4) rfl rfl ?_
          exact ih
        · refine xA.iconst (v := 1) rfl (by decide) rfl ?_
          refine xA.goto (q := 27) rfl rfl ?_
          refine xA.iadd rfl rfl ?_
          refine xA.topi (show _ = nI (cn (fun j => decide (S (k + 1) j = x)) (i + 1)) from by first | exact cn_t (by simp [h19]) | exact cn_f (by simp [h19])) ?_
          refine xA.istore_n (i := 2) (L' := [_, _, _, _]) rfl rfl (Nat.le_of_ble_eq_true rfl) rfl rfl ?_
          refine xA.iinc (L' := [_, _, _, _]) rfl rfl (nI_1 i) rfl rfl ?_
          refine xA.goto (q := 4) rfl rfl ?_
          exact ih
    · skip
      refine xA.iload_n (i := 3) rfl rfl rfl rfl ?_
      refine xA.aload_n (i := 0) rfl rfl rfl rfl ?_
      refine xA.getI rfl f3_79 hk.1 rfl rfl ?_
      refine xA.topi (hn) ?_
      refine xA.icmp_ge (tgt := 35) rfl rfl rfl (fun h9 => ?_) (fun h9 => ?_)
      · refine xA.iload_n (i := 2) rfl rfl rfl rfl ?_
        exact xA.iret rfl rfl rfl ⟨rfl, rfl⟩
      · exact absurd (nI_le (Nat.le_refl _) (by omega)) h9
  refine xA.iconst (v := 0) rfl (by decide) rfl ?_
  refine xA.istore_n (i := 2) (L' := [_, _, _, _]) rfl rfl (Nat.le_of_ble_eq_true rfl) rfl rfl ?_
  refine xA.iconst (v := 0) rfl (by decide) rfl ?_
  refine xA.istore_n (i := 3) (L' := [_, _, _, _]) rfl rfl (Nat.le_of_ble_eq_true rfl) rfl rfl ?_
  exact loop 0 (Nat.zero_le _)
set_option maxRecDepth 100000 in
set_option maxHeartbeats 400000 in
theorem c_X3_selvesIn (d : Nat) (S : Nat → Nat → Int32) (G : Nat → Nat → Int64) (k : Nat) (hk : isLife τ k) (n : Nat) (hn : S k 1 = nI n) (h17 : n ≤ 17) (x : Int32) : xR τ (d + 1) mX3_selvesIn [.ref k, .int x] S G (some (.int (nI (cn (fun j => decide (xmin (S (k + 1) j) = x)) n)))) S G := by
  refine xC.of okX3_selvesIn (Nat.le_of_ble_eq_true rfl) (L := [_, _, _, _]) rfl ?_
  have loop : ∀ i, i ≤ n → xA none (d + 1) mX3_selvesIn 0 0 0 0 4 [some (.ref k), some (.int x), some (.int (nI (cn (fun j => decide (xmin (S (k + 1) j) = x)) i))), some (.int (nI i))] [] ((σF τ), S, G) (fun r' h' => r' = (some (.int (nI (cn (fun j => decide (xmin (S (k + 1) j) = x)) n)))) ∧ h' = ((σF τ), S, G)) := by
    refine xloop n (fun i hi ih => ?_) ?_
    · skip
      refine xA.iload_n (i := 3) rfl rfl rfl rfl ?_
      refine xA.aload_n (i := 0) rfl rfl rfl rfl ?_
      refine xA.getI rfl f3_79 hk.1 rfl rfl ?_
      refine xA.topi (hn) ?_
      refine xA.icmp_ge (tgt := 38) rfl rfl rfl (fun h9 => ?_) (fun h9 => ?_)
      · exact absurd h9 (nI_ge hi (by omega))
      · refine xA.iload_n (i := 2) rfl rfl rfl rfl ?_
        refine xA.aload_n (i := 0) rfl rfl rfl rfl ?_
        refine xA.iload_n (i := 3) rfl rfl rfl rfl ?_
        refine xA.callVi (As := [_]) rfl k3_82 okX3_spotAt hk.1 rfl rfl rfl (Nat.le_of_ble_eq_true rfl) (c_X3_spotAt d S G k hk n i hn hi h17) rfl rfl ?_
        refine xA.callSNi (As := [_]) rfl k3_85 okX9_minuteOf rfl rfl (Nat.le_of_ble_eq_true rfl) (c_X9_minuteOf d S G _) rfl rfl ?_
        refine xA.iload_n (i := 1) rfl rfl rfl rfl ?_
        refine xA.icmp_ne (tgt := 29) rfl rfl rfl (fun h22 => ?_) (fun h22 => ?_)
        · refine xA.iconst (v := 0) rfl (by decide) rfl ?_
          refine xA.iadd rfl rfl ?_
          refine xA.topi (show _ = nI (cn (fun j => decide (xmin (S (k + 1) j) = x)) (i + 1)) from by first | exact cn_t (by simp [h22]) | exact cn_f (by simp [h22])) ?_
          refine xA.istore_n (i := 2) (L' := [_, _, _, _]) rfl rfl (Nat.le_of_ble_eq_true rfl) rfl rfl ?_
          refine xA.iinc (L' := [_, _, _, _]) rfl rfl (nI_1 i) rfl rfl ?_
          refine xA.goto (q := 4) rfl rfl ?_
          exact ih
        · refine xA.iconst (v := 1) rfl (by decide) rfl ?_
          refine xA.goto (q := 30) rfl rfl ?_
          refine xA.iadd rfl rfl ?_
          refine xA.topi (show _ = nI (cn (fun j => decide (xmin (S (k + 1) j) = x)) (i + 1)) from by first | exact cn_t (by simp [h22]) | exact cn_f (by simp [h22])) ?_
          refine xA.istore_n (i := 2) (L' := [_, _, _, _]) rfl rfl (Nat.le_of_ble_eq_true rfl) rfl rfl ?_
          refine xA.iinc (L' := [_, _, _, _]) rfl rfl (nI_1 i) rfl rfl ?_
          refine xA.goto (q := 4) rfl rfl ?_
          exact ih
    · skip
      refine xA.iload_n (i := 3) rfl rfl rfl rfl ?_
      refine xA.aload_n (i := 0) rfl rfl rfl rfl ?_
      refine xA.getI rfl f3_79 hk.1 rfl rfl ?_
      refine xA.topi (hn) ?_
      refine xA.icmp_ge (tgt := 38) rfl rfl rfl (fun h9 => ?_) (fun h9 => ?_)
      · refine xA.iload_n (i := 2) rfl rfl rfl rfl ?_
        exact xA.iret rfl rfl rfl ⟨rfl, rfl⟩
      · exact absurd (nI_le (Nat.le_refl _) (by omega)) h9
  refine xA.iconst (v := 0) rfl (by decide) rfl ?_
  refine xA.istore_n (i := 2) (L' := [_, _, _, _]) rfl rfl (Nat.le_of_ble_eq_true rfl) rfl rfl ?_
  refine xA.iconst (v := 0) rfl (by decide) rfl ?_
  refine xA.istore_n (i := 3) (L' := [_, _, _, _]) rfl rfl (Nat.le_of_ble_eq_true rfl) rfl rfl ?_
  exact loop 0 (Nat.zero_le _)
/-- the fullest minute, by its first ones -/
def fmS (mi : Nat → Int32) (c : Int32 → Nat) : Nat → Int32 × Nat
  | 0 => (-1, 0)
  | i + 1 => if (fmS mi c i).2 < c (mi i) ∨ (c (mi i) = (fmS mi c i).2 ∧ mi i < (fmS mi c i).1) then (mi i, c (mi i)) else fmS mi c i
/-- the least of the minutes that are so -/
def fwS (mi : Nat → Int32) (ok : Nat → Bool) : Nat → Int32
  | 0 => -1
  | i + 1 => if (fwS mi ok i = -1 ∨ mi i < fwS mi ok i) ∧ ok i = true then mi i else fwS mi ok i
theorem nI_posi {c : Nat} (h : ¬ nI c ≤ 0) : 0 < c := by
  rcases Nat.eq_zero_or_pos c with z | z
  · subst z; exact absurd (Int32.le_refl 0) h
  · exact z
theorem fmS_le {mi : Nat → Int32} {c : Int32 → Nat} {N : Nat} (h : ∀ x, c x ≤ N) (i : Nat) : (fmS mi c i).2 ≤ N := by
  induction i with
  | zero => exact Nat.zero_le _
  | succ i ih => unfold fmS; split <;> simp [h, ih]

set_option maxRecDepth 100000 in
set_option maxHeartbeats 400000 in
theorem c_X3_fullestMinute (d : Nat) (S : Nat → Nat → Int32) (G : Nat → Nat → Int64) (k : Nat) (hk : isLife τ k) (n : Nat) (hn : S k 1 = nI n) (h17 : n ≤ 17) : xR τ (d + 2) mX3_fullestMinute [.ref k] S G (some (.int (fmS (fun j => xmin (S (k + 1) j)) (fun x => cn (fun j => decide (xmin (S (k + 1) j) = x)) n) n).1)) S G := by
  refine xC.of okX3_fullestMinute (Nat.le_of_ble_eq_true rfl) (L := [_, _, _, _, _, _]) rfl ?_
  have loop : ∀ i, i ≤ n → ∀ x4 x5 : Option Value, xA none (d + 2) mX3_fullestMinute 0 0 0 0 6 [some (.ref k), some (.int (fmS (fun j => xmin (S (k + 1) j)) (fun x => cn (fun j => decide (xmin (S (k + 1) j) = x)) n) i).1), some (.int (nI (fmS (fun j => xmin (S (k + 1) j)) (fun x => cn (fun j => decide (xmin (S (k + 1) j) = x)) n) i).2)), some (.int (nI i)), x4, x5] [] ((σF τ), S, G) (fun r' h' => r' = (some (.int (fmS (fun j => xmin (S (k + 1) j)) (fun x => cn (fun j => decide (xmin (S (k + 1) j) = x)) n) n).1)) ∧ h' = ((σF τ), S, G)) := by
    refine xloop n (fun i hi ih => ?_) ?_
    · skip
      intro x4 x5
      refine xA.iload_n (i := 3) rfl rfl rfl rfl ?_
      refine xA.aload_n (i := 0) rfl rfl rfl rfl ?_
      refine xA.getI rfl f3_79 hk.1 rfl rfl ?_
      refine xA.topi (hn) ?_
      refine xA.icmp_ge (tgt := 62) rfl rfl rfl (fun h11 => ?_) (fun h11 => ?_)
      · exact absurd h11 (nI_ge hi (by omega))
      · refine xA.aload_n (i := 0) rfl rfl rfl rfl ?_
        refine xA.iload_n (i := 3) rfl rfl rfl rfl ?_
        refine xA.callVi (As := [_]) rfl k3_82 okX3_spotAt hk.1 rfl rfl rfl (Nat.le_of_ble_eq_true rfl) (c_X3_spotAt (d + 1) S G k hk n i hn hi h17) rfl rfl ?_
        refine xA.callSNi (As := [_]) rfl k3_85 okX9_minuteOf rfl rfl (Nat.le_of_ble_eq_true rfl) (c_X9_minuteOf (d + 1) S G _) rfl rfl ?_
        refine xA.istore (L' := [_, _, _, _, _, _]) rfl (Nat.le_of_ble_eq_true rfl) rfl rfl ?_
        refine xA.aload_n (i := 0) rfl rfl rfl rfl ?_
        refine xA.iload rfl rfl rfl ?_
        refine xA.callVi (As := [_]) rfl k3_88 okX3_selvesIn hk.1 rfl rfl rfl (Nat.le_of_ble_eq_true rfl) (c_X3_selvesIn d S G k hk n hn h17 _) rfl rfl ?_
        refine xA.istore (L' := [_, _, _, _, _, _]) rfl (Nat.le_of_ble_eq_true rfl) rfl rfl ?_
        refine xA.iload rfl rfl rfl ?_
        refine xA.iload_n (i := 2) rfl rfl rfl rfl ?_
        refine xA.icmp_gt (tgt := 50) rfl rfl rfl (fun h35 => ?_) (fun h35 => ?_)
        · refine xA.iload rfl rfl rfl ?_
          refine xA.istore_n (i := 1) (L' := [_, _, _, _, _, _]) rfl rfl (Nat.le_of_ble_eq_true rfl) rfl rfl ?_
          refine xA.iload rfl rfl rfl ?_
          refine xA.istore_n (i := 2) (L' := [_, _, _, _, _, _]) rfl rfl (Nat.le_of_ble_eq_true rfl) rfl rfl ?_
          have hb1 : (fmS (fun j => xmin (S (k + 1) j)) (fun x => cn (fun j => decide (xmin (S (k + 1) j) = x)) n) i).2 ≤ n := fmS_le (fun x => cn_le _ _) i
          have hb2 := cn_le (fun j => decide (xmin (S (k + 1) j) = xmin (S (k + 1) i))) n
          refine xA.iinc (L' := [_, _, _, _, _, _]) rfl rfl (nI_1 i) rfl rfl ?_
          refine xA.goto (q := 6) rfl rfl ?_
          have ih := ih (some (.int (xmin (S (k + 1) i)))) (some (.int (nI (cn (fun j => decide (xmin (S (k + 1) j) = xmin (S (k + 1) i))) n))))
          simp only [fmS] at ih
          first | (rw [if_pos (by first | (left; exact (nI_ltI (by omega) (by omega)).mp h35) | (right; exact ⟨(nI_eq (by omega) (by omega)).mp h41, Int32.not_le.mp h47⟩))] at ih; exact ih) | (rw [if_neg (by rintro (h | ⟨h, hh⟩) <;> first | exact h35 ((nI_ltI (by omega) (by omega)).mpr h) | exact h41 (by rw [h]) | exact absurd h47 (Int32.not_le.mpr hh))] at ih; exact ih)
        · refine xA.iload rfl rfl rfl ?_
          refine xA.iload_n (i := 2) rfl rfl rfl rfl ?_
          refine xA.icmp_ne (tgt := 56) rfl rfl rfl (fun h41 => ?_) (fun h41 => ?_)
          · have hb1 : (fmS (fun j => xmin (S (k + 1) j)) (fun x => cn (fun j => decide (xmin (S (k + 1) j) = x)) n) i).2 ≤ n := fmS_le (fun x => cn_le _ _) i
            have hb2 := cn_le (fun j => decide (xmin (S (k + 1) j) = xmin (S (k + 1) i))) n
            refine xA.iinc (L' := [_, _, _, _, _, _]) rfl rfl (nI_1 i) rfl rfl ?_
            refine xA.goto (q := 6) rfl rfl ?_
            have ih := ih (some (.int (xmin (S (k + 1) i)))) (some (.int (nI (cn (fun j => decide (xmin (S (k + 1) j) = xmin (S (k + 1) i))) n))))
            simp only [fmS] at ih
            first | (rw [if_pos (by first | (left; exact (nI_ltI (by omega) (by omega)).mp h35) | (right; exact ⟨(nI_eq (by omega) (by omega)).mp h41, Int32.not_le.mp h47⟩))] at ih; exact ih) | (rw [if_neg (by rintro (h | ⟨h, hh⟩) <;> first | exact h35 ((nI_ltI (by omega) (by omega)).mpr h) | exact h41 (by rw [h]) | exact absurd h47 (Int32.not_le.mpr hh))] at ih; exact ih)
          · refine xA.iload rfl rfl rfl ?_
            refine xA.iload_n (i := 1) rfl rfl rfl rfl ?_
            refine xA.icmp_ge (tgt := 56) rfl rfl rfl (fun h47 => ?_) (fun h47 => ?_)
            · have hb1 : (fmS (fun j => xmin (S (k + 1) j)) (fun x => cn (fun j => decide (xmin (S (k + 1) j) = x)) n) i).2 ≤ n := fmS_le (fun x => cn_le _ _) i
              have hb2 := cn_le (fun j => decide (xmin (S (k + 1) j) = xmin (S (k + 1) i))) n
              refine xA.iinc (L' := [_, _, _, _, _, _]) rfl rfl (nI_1 i) rfl rfl ?_
              refine xA.goto (q := 6) rfl rfl ?_
              have ih := ih (some (.int (xmin (S (k + 1) i)))) (some (.int (nI (cn (fun j => decide (xmin (S (k + 1) j) = xmin (S (k + 1) i))) n))))
              simp only [fmS] at ih
              first | (rw [if_pos (by first | (left; exact (nI_ltI (by omega) (by omega)).mp h35) | (right; exact ⟨(nI_eq (by omega) (by omega)).mp h41, Int32.not_le.mp h47⟩))] at ih; exact ih) | (rw [if_neg (by rintro (h | ⟨h, hh⟩) <;> first | exact h35 ((nI_ltI (by omega) (by omega)).mpr h) | exact h41 (by rw [h]) | exact absurd h47 (Int32.not_le.mpr hh))] at ih; exact ih)
            · refine xA.iload rfl rfl rfl ?_
              refine xA.istore_n (i := 1) (L' := [_, _, _, _, _, _]) rfl rfl (Nat.le_of_ble_eq_true rfl) rfl rfl ?_
              refine xA.iload rfl rfl rfl ?_
              refine xA.istore_n (i := 2) (L' := [_, _, _, _, _, _]) rfl rfl (Nat.le_of_ble_eq_true rfl) rfl rfl ?_
              have hb1 : (fmS (fun j => xmin (S (k + 1) j)) (fun x => cn (fun j => decide (xmin (S (k + 1) j) = x)) n) i).2 ≤ n := fmS_le (fun x => cn_le _ _) i
              have hb2 := cn_le (fun j => decide (xmin (S (k + 1) j) = xmin (S (k + 1) i))) n
              refine xA.iinc (L' := [_, _, _, _, _, _]) rfl rfl (nI_1 i) rfl rfl ?_
              refine xA.goto (q := 6) rfl rfl ?_
              have ih := ih (some (.int (xmin (S (k + 1) i)))) (some (.int (nI (cn (fun j => decide (xmin (S (k + 1) j) = xmin (S (k + 1) i))) n))))
              simp only [fmS] at ih
              first | (rw [if_pos (by first | (left; exact (nI_ltI (by omega) (by omega)).mp h35) | (right; exact ⟨(nI_eq (by omega) (by omega)).mp h41, Int32.not_le.mp h47⟩))] at ih; exact ih) | (rw [if_neg (by rintro (h | ⟨h, hh⟩) <;> first | exact h35 ((nI_ltI (by omega) (by omega)).mpr h) | exact h41 (by rw [h]) | exact absurd h47 (Int32.not_le.mpr hh))] at ih; exact ih)
    · skip
      intro x4 x5
      refine xA.iload_n (i := 3) rfl rfl rfl rfl ?_
      refine xA.aload_n (i := 0) rfl rfl rfl rfl ?_
      refine xA.getI rfl f3_79 hk.1 rfl rfl ?_
      refine xA.topi (hn) ?_
      refine xA.icmp_ge (tgt := 62) rfl rfl rfl (fun h11 => ?_) (fun h11 => ?_)
      · refine xA.iload_n (i := 1) rfl rfl rfl rfl ?_
        exact xA.iret rfl rfl rfl ⟨rfl, rfl⟩
      · exact absurd (nI_le (Nat.le_refl _) (by omega)) h11
  refine xA.iconst (v := (-1)) rfl (by decide) rfl ?_
  refine xA.istore_n (i := 1) (L' := [_, _, _, _, _, _]) rfl rfl (Nat.le_of_ble_eq_true rfl) rfl rfl ?_
  refine xA.iconst (v := 0) rfl (by decide) rfl ?_
  refine xA.istore_n (i := 2) (L' := [_, _, _, _, _, _]) rfl rfl (Nat.le_of_ble_eq_true rfl) rfl rfl ?_
  refine xA.iconst (v := 0) rfl (by decide) rfl ?_
  refine xA.istore_n (i := 3) (L' := [_, _, _, _, _, _]) rfl rfl (Nat.le_of_ble_eq_true rfl) rfl rfl ?_
  exact loop 0 (Nat.zero_le _) _ _
set_option maxRecDepth 100000 in
set_option maxHeartbeats 400000 in
theorem c_X3_firstMinuteWith (d : Nat) (S : Nat → Nat → Int32) (G : Nat → Nat → Int64) (k : Nat) (hk : isLife τ k) (n : Nat) (hn : S k 1 = nI n) (h17 : n ≤ 17) (k2 : Nat) (hk2 : isLife τ k2) (n2 : Nat) (hn2 : S k2 1 = nI n2) (h172 : n2 ≤ 17) : xR τ (d + 2) mX3_firstMinuteWith [.ref k, .ref k2] S G (some (.int (fwS (fun j => xmin (S (k + 1) j)) (fun j => decide (0 < cn (fun q => decide (S (k2 + 1) q = S (k + 1) j)) n2)) n))) S G := by
  refine xC.of okX3_firstMinuteWith (Nat.le_of_ble_eq_true rfl) (L := [_, _, _, _, _]) rfl ?_
  have loop : ∀ i, i ≤ n → ∀ x4 : Option Value, xA none (d + 2) mX3_firstMinuteWith 0 0 0 0 4 [some (.ref k), some (.ref k2), some (.int (fwS (fun j => xmin (S (k + 1) j)) (fun j => decide (0 < cn (fun q => decide (S (k2 + 1) q = S (k + 1) j)) n2)) i)), some (.int (nI i)), x4] [] ((σF τ), S, G) (fun r' h' => r' = (some (.int (fwS (fun j => xmin (S (k + 1) j)) (fun j => decide (0 < cn (fun q => decide (S (k2 + 1) q = S (k + 1) j)) n2)) n))) ∧ h' = ((σF τ), S, G)) := by
    refine xloop n (fun i hi ih => ?_) ?_
    · skip
      intro x4
      refine xA.iload_n (i := 3) rfl rfl rfl rfl ?_
      refine xA.aload_n (i := 0) rfl rfl rfl rfl ?_
      refine xA.getI rfl f3_79 hk.1 rfl rfl ?_
      refine xA.topi (hn) ?_
      refine xA.icmp_ge (tgt := 54) rfl rfl rfl (fun h9 => ?_) (fun h9 => ?_)
      · exact absurd h9 (nI_ge hi (by omega))
      · refine xA.aload_n (i := 0) rfl rfl rfl rfl ?_
        refine xA.iload_n (i := 3) rfl rfl rfl rfl ?_
        refine xA.callVi (As := [_]) rfl k3_82 okX3_spotAt hk.1 rfl rfl rfl (Nat.le_of_ble_eq_true rfl) (c_X3_spotAt (d + 1) S G k hk n i hn hi h17) rfl rfl ?_
        refine xA.callSNi (As := [_]) rfl k3_85 okX9_minuteOf rfl rfl (Nat.le_of_ble_eq_true rfl) (c_X9_minuteOf (d + 1) S G _) rfl rfl ?_
        refine xA.istore (L' := [_, _, _, _, _]) rfl (Nat.le_of_ble_eq_true rfl) rfl rfl ?_
        refine xA.iload_n (i := 2) rfl rfl rfl rfl ?_
        refine xA.iconst (v := (-1)) rfl (by decide) rfl ?_
        refine xA.icmp_eq (tgt := 33) rfl rfl rfl (fun h24 => ?_) (fun h24 => ?_)
        · refine xA.aload_n (i := 1) rfl rfl rfl rfl ?_
          refine xA.aload_n (i := 0) rfl rfl rfl rfl ?_
          refine xA.iload_n (i := 3) rfl rfl rfl rfl ?_
          refine xA.callVi (As := [_]) rfl k3_82 okX3_spotAt hk.1 rfl rfl rfl (Nat.le_of_ble_eq_true rfl) (c_X3_spotAt (d + 1) S G k hk n i hn hi h17) rfl rfl ?_
          refine xA.callVi (As := [_]) rfl k3_91 okX3_selvesAt hk2.1 rfl rfl rfl (Nat.le_of_ble_eq_true rfl) (c_X3_selvesAt d S G k2 hk2 n2 hn2 h172 _) rfl rfl ?_
          have hb2 := cn_le (fun q => decide (S (k2 + 1) q = S (k + 1) i)) n2
          refine xA.if_le (tgt := 48) rfl rfl rfl (fun h42 => ?_) (fun h42 => ?_)
          · refine xA.iinc (L' := [_, _, _, _, _]) rfl rfl (nI_1 i) rfl rfl ?_
            refine xA.goto (q := 4) rfl rfl ?_
            have ih := ih (some (.int (xmin (S (k + 1) i))))
            simp only [fwS, decide_eq_true_eq] at ih
            first | (rw [if_pos (by first | exact ⟨Or.inl h24, nI_posi h42⟩ | exact ⟨Or.inr (Int32.not_le.mp h30), nI_posi h42⟩)] at ih; exact ih) | (rw [if_neg (by rintro ⟨h, hh⟩; first | exact absurd h42 (nI_nle hh (by omega)) | (rcases h with h | h; exact h24 h; exact absurd h30 (Int32.not_le.mpr h)))] at ih; exact ih)
          · refine xA.iload rfl rfl rfl ?_
            refine xA.istore_n (i := 2) (L' := [_, _, _, _, _]) rfl rfl (Nat.le_of_ble_eq_true rfl) rfl rfl ?_
            refine xA.iinc (L' := [_, _, _, _, _]) rfl rfl (nI_1 i) rfl rfl ?_
            refine xA.goto (q := 4) rfl rfl ?_
            have ih := ih (some (.int (xmin (S (k + 1) i))))
            simp only [fwS, decide_eq_true_eq] at ih
            first | (rw [if_pos (by first | exact ⟨Or.inl h24, nI_posi h42⟩ | exact ⟨Or.inr (Int32.not_le.mp h30), nI_posi h42⟩)] at ih; exact ih) | (rw [if_neg (by rintro ⟨h, hh⟩; first | exact absurd h42 (nI_nle hh (by omega)) | (rcases h with h | h; exact h24 h; exact absurd h30 (Int32.not_le.mpr h)))] at ih; exact ih)
        · refine xA.iload rfl rfl rfl ?_
          refine xA.iload_n (i := 2) rfl rfl rfl rfl ?_
          refine xA.icmp_ge (tgt := 48) rfl rfl rfl (fun h30 => ?_) (fun h30 => ?_)
          · refine xA.iinc (L' := [_, _, _, _, _]) rfl rfl (nI_1 i) rfl rfl ?_
            refine xA.goto (q := 4) rfl rfl ?_
            have ih := ih (some (.int (xmin (S (k + 1) i))))
            simp only [fwS, decide_eq_true_eq] at ih
            first | (rw [if_pos (by first | exact ⟨Or.inl h24, nI_posi h42⟩ | exact ⟨Or.inr (Int32.not_le.mp h30), nI_posi h42⟩)] at ih; exact ih) | (rw [if_neg (by rintro ⟨h, hh⟩; first | exact absurd h42 (nI_nle hh (by omega)) | (rcases h with h | h; exact h24 h; exact absurd h30 (Int32.not_le.mpr h)))] at ih; exact ih)
          · refine xA.aload_n (i := 1) rfl rfl rfl rfl ?_
            refine xA.aload_n (i := 0) rfl rfl rfl rfl ?_
            refine xA.iload_n (i := 3) rfl rfl rfl rfl ?_
            refine xA.callVi (As := [_]) rfl k3_82 okX3_spotAt hk.1 rfl rfl rfl (Nat.le_of_ble_eq_true rfl) (c_X3_spotAt (d + 1) S G k hk n i hn hi h17) rfl rfl ?_
            refine xA.callVi (As := [_]) rfl k3_91 okX3_selvesAt hk2.1 rfl rfl rfl (Nat.le_of_ble_eq_true rfl) (c_X3_selvesAt d S G k2 hk2 n2 hn2 h172 _) rfl rfl ?_
            have hb2 := cn_le (fun q => decide (S (k2 + 1) q = S (k + 1) i)) n2
            refine xA.if_le (tgt := 48) rfl rfl rfl (fun h42 => ?_) (fun h42 => ?_)
            · refine xA.iinc (L' := [_, _, _, _, _]) rfl rfl (nI_1 i) rfl rfl ?_
              refine xA.goto (q := 4) rfl rfl ?_
              have ih := ih (some (.int (xmin (S (k + 1) i))))
              simp only [fwS, decide_eq_true_eq] at ih
              first | (rw [if_pos (by first | exact ⟨Or.inl h24, nI_posi h42⟩ | exact ⟨Or.inr (Int32.not_le.mp h30), nI_posi h42⟩)] at ih; exact ih) | (rw [if_neg (by rintro ⟨h, hh⟩; first | exact absurd h42 (nI_nle hh (by omega)) | (rcases h with h | h; exact h24 h; exact absurd h30 (Int32.not_le.mpr h)))] at ih; exact ih)
            · refine xA.iload rfl rfl rfl ?_
              refine xA.istore_n (i := 2) (L' := [_, _, _, _, _]) rfl rfl (Nat.le_of_ble_eq_true rfl) rfl rfl ?_
              refine xA.iinc (L' := [_, _, _, _, _]) rfl rfl (nI_1 i) rfl rfl ?_
              refine xA.goto (q := 4) rfl rfl ?_
              have ih := ih (some (.int (xmin (S (k + 1) i))))
              simp only [fwS, decide_eq_true_eq] at ih
              first | (rw [if_pos (by first | exact ⟨Or.inl h24, nI_posi h42⟩ | exact ⟨Or.inr (Int32.not_le.mp h30), nI_posi h42⟩)] at ih; exact ih) | (rw [if_neg (by rintro ⟨h, hh⟩; first | exact absurd h42 (nI_nle hh (by omega)) | (rcases h with h | h; exact h24 h; exact absurd h30 (Int32.not_le.mpr h)))] at ih; exact ih)
    · skip
      intro x4
      refine xA.iload_n (i := 3) rfl rfl rfl rfl ?_
      refine xA.aload_n (i := 0) rfl rfl rfl rfl ?_
      refine xA.getI rfl f3_79 hk.1 rfl rfl ?_
      refine xA.topi (hn) ?_
      refine xA.icmp_ge (tgt := 54) rfl rfl rfl (fun h9 => ?_) (fun h9 => ?_)
      · refine xA.iload_n (i := 2) rfl rfl rfl rfl ?_
        exact xA.iret rfl rfl rfl ⟨rfl, rfl⟩
      · exact absurd (nI_le (Nat.le_refl _) (by omega)) h9
  refine xA.iconst (v := (-1)) rfl (by decide) rfl ?_
  refine xA.istore_n (i := 2) (L' := [_, _, _, _, _]) rfl rfl (Nat.le_of_ble_eq_true rfl) rfl rfl ?_
  refine xA.iconst (v := 0) rfl (by decide) rfl ?_
  refine xA.istore_n (i := 3) (L' := [_, _, _, _, _]) rfl rfl (Nat.le_of_ble_eq_true rfl) rfl rfl ?_
  exact loop 0 (Nat.zero_le _) _
set_option maxRecDepth 100000 in
set_option maxHeartbeats 400000 in
theorem c_X3_add (d : Nat) (S : Nat → Nat → Int32) (G : Nat → Nat → Int64) (k : Nat) (hk : isLife τ k) (n : Nat) (hn : S k 1 = nI n) (h17 : n < 17) (x : Int32) : xR τ d mX3_add [.ref k, .int x] S G none (xu (xu S (k + 1) n x) k 1 (nI (n + 1))) G := by
  refine xC.of okX3_add (Nat.le_of_ble_eq_true rfl) (L := [_, _]) rfl ?_
  refine xA.aload_n (i := 0) rfl rfl rfl rfl ?_
  refine xA.getI rfl f3_79 hk.1 rfl rfl ?_
  refine xA.topi (hn) ?_
  refine xA.if_lt (tgt := 39) rfl rfl rfl (fun h4 => ?_) (fun h4 => ?_)
  · exact absurd h4 (nI_pos (by omega))
  · refine xA.aload_n (i := 0) rfl rfl rfl rfl ?_
    refine xA.getI rfl f3_79 hk.1 rfl rfl ?_
    refine xA.topi (hn) ?_
    refine xA.aload_n (i := 0) rfl rfl rfl rfl ?_
    refine xA.getR rfl f3_11 hk.1 rfl rfl rfl ?_
    refine xA.alen rfl hk.2 rfl ?_
    refine xA.icmp_ge (tgt := 39) rfl rfl rfl (fun h16 => ?_) (fun h16 => ?_)
    · exact absurd h16 (nI_ge h17 (by omega))
    · refine xA.aload_n (i := 0) rfl rfl rfl rfl ?_
      refine xA.getR rfl f3_11 hk.1 rfl rfl rfl ?_
      refine xA.aload_n (i := 0) rfl rfl rfl rfl ?_
      refine xA.getI rfl f3_79 hk.1 rfl rfl ?_
      refine xA.topi (hn) ?_
      refine xA.iload_n (i := 1) rfl rfl rfl rfl ?_
      refine xA.iast rfl hk.2 (vp_in_nI (by omega) (by omega)) rfl ?_
      rw [nI_clamp (by omega)]
      refine xA.aload_n (i := 0) rfl rfl rfl rfl ?_
      refine xA.dup rfl rfl rfl ?_
      refine xA.getI rfl f3_79 hk.1 rfl rfl ?_
      refine xA.topi ((xu_ne1 (by omega)).trans hn) ?_
      refine xA.iconst (v := 1) rfl (by decide) rfl ?_
      refine xA.iadd rfl rfl ?_
      refine xA.topi (nI_1 n) ?_
      refine xA.putI rfl p3_79 hk.1 rfl rfl ?_
      exact xA.vret rfl rfl ⟨rfl, rfl⟩
end
section
variable {τ : List xSh}
/-! ===== persons, the house asked, tasks, glimpses ===== -/
/-- bit b of x -/
abbrev bt (x : Int32) (b : Int32) : Prop := ¬ ((x >>> (b &&& 31)) &&& 1 = 0)
def orI (f : Nat → Int32) : Nat → Int32
  | 0 => 0
  | i + 1 => orI f i ||| f i
def prI (f : Nat → Int32) : Nat → Int32
  | 0 => 1
  | i + 1 => prI f i * f i
def oI : Option Nat → Int32
  | none => -1
  | some q => nI q
theorem i32_sub1 {x : Int32} : x - 1 = -1 ↔ x = 0 := by
  constructor
  · intro h
    have h1 := congrArg (· + (1 : Int32)) h
    simpa [Int32.sub_add_cancel] using h1
  · intro h; rw [h]; rfl
/-- where a step leads: the doors' numbers, the room of the low door -/
def nx (D : Nat → Int32) (low : Int32) (m r s lp : Nat) : Option Nat :=
  if s = 7 then (if nI r = low ∧ lp ≤ m then some ((m - lp) * 6 + r) else none)
  else if 60 ≤ m + 1 then none
  else if s = 6 then some ((m + 1) * 6 + r)
  else if D (r * 6 + s) = 0 then none else some ((m + 1) * 6 + s)
def mrm (kd : Int32) (r : Nat) (sr : Int32) : Int32 := if kd = 3 ∨ kd = 4 then 0 else if kd = 1 then 1 <<< (nI r &&& 31) else (1 <<< (nI r &&& 31)) ||| sr
theorem nI_spot (m r : Nat) : nI m * 6 + nI r = nI (m * 6 + r) := by rw [show (6 : Int32) = nI 6 from rfl, nI_mul, nI_add]

set_option maxRecDepth 100000 in
set_option maxHeartbeats 400000 in
theorem c_X1_doorBetween (d : Nat) (S : Nat → Nat → Int32) (G : Nat → Nat → Int64) (k : Nat) (hk : isHouse τ k) (a b : Nat) (ha : a < 6) (hb : b < 6) : xR τ (d + 1) mX1_doorBetween [.ref k, .int (nI a), .int (nI b)] S G (some (.int (S (k + 1) (a * 6 + b) - 1))) S G := by
  refine xC.of okX1_doorBetween (Nat.le_of_ble_eq_true rfl) (L := [_, _, _]) rfl ?_
  refine xA.iload_n (i := 1) rfl rfl rfl rfl ?_
  refine xA.callSNi (As := [_]) rfl k1_72 okX9_isRoom rfl rfl (Nat.le_of_ble_eq_true rfl) (c_X9_isRoom d S G _) rfl rfl ?_
  refine xA.if_eq (tgt := 30) rfl rfl rfl (fun h4 => ?_) (fun h4 => ?_)
  · exact absurd h4 (xb_ne0.mpr (rg_of ha (by omega)))
  · refine xA.iload_n (i := 2) rfl rfl rfl rfl ?_
    refine xA.callSNi (As := [_]) rfl k1_72 okX9_isRoom rfl rfl (Nat.le_of_ble_eq_true rfl) (c_X9_isRoom d S G _) rfl rfl ?_
    refine xA.if_eq (tgt := 30) rfl rfl rfl (fun h11 => ?_) (fun h11 => ?_)
    · exact absurd h11 (xb_ne0.mpr (rg_of hb (by omega)))
    · refine xA.aload_n (i := 0) rfl rfl rfl rfl ?_
      refine xA.getR rfl f1_9 hk.1 rfl rfl rfl ?_
      refine xA.iload_n (i := 1) rfl rfl rfl rfl ?_
      refine xA.bipush (v := 6) rfl (by decide) rfl ?_
      refine xA.imul rfl rfl ?_
      refine xA.iload_n (i := 2) rfl rfl rfl rfl ?_
      refine xA.iadd rfl rfl ?_
      refine xA.topi (nI_spot a b) ?_
      refine xA.iald rfl hk.2.1 (vp_in_nI (by omega) (by omega)) rfl ?_
      refine xA.topi (congrArg (S (k + 1)) (nI_clamp (by omega))) ?_
      refine xA.iconst (v := 1) rfl (by decide) rfl ?_
      refine xA.isub rfl rfl ?_
      refine xA.goto (q := 31) rfl rfl ?_
      exact xA.iret rfl rfl rfl ⟨rfl, rfl⟩
set_option maxRecDepth 100000 in
set_option maxHeartbeats 400000 in
theorem c_X1_isSeenFrom (d : Nat) (S : Nat → Nat → Int32) (G : Nat → Nat → Int64) (k : Nat) (hk : isHouse τ k) (a b : Nat) (ha : a < 6) (hb : b < 6) : xR τ (d + 1) mX1_isSeenFrom [.ref k, .int (nI a), .int (nI b)] S G (some (.int (xb (bt (S (k + 2) a) (nI b))))) S G := by
  refine xC.of okX1_isSeenFrom (Nat.le_of_ble_eq_true rfl) (L := [_, _, _]) rfl ?_
  refine xA.iload_n (i := 1) rfl rfl rfl rfl ?_
  refine xA.callSNi (As := [_]) rfl k1_72 okX9_isRoom rfl rfl (Nat.le_of_ble_eq_true rfl) (c_X9_isRoom d S G _) rfl rfl ?_
  refine xA.if_eq (tgt := 31) rfl rfl rfl (fun h4 => ?_) (fun h4 => ?_)
  · exact absurd h4 (xb_ne0.mpr (rg_of ha (by omega)))
  · refine xA.iload_n (i := 2) rfl rfl rfl rfl ?_
    refine xA.callSNi (As := [_]) rfl k1_72 okX9_isRoom rfl rfl (Nat.le_of_ble_eq_true rfl) (c_X9_isRoom d S G _) rfl rfl ?_
    refine xA.if_eq (tgt := 31) rfl rfl rfl (fun h11 => ?_) (fun h11 => ?_)
    · exact absurd h11 (xb_ne0.mpr (rg_of hb (by omega)))
    · refine xA.aload_n (i := 0) rfl rfl rfl rfl ?_
      refine xA.getR rfl f1_15 hk.1 rfl rfl rfl ?_
      refine xA.iload_n (i := 1) rfl rfl rfl rfl ?_
      refine xA.iald rfl hk.2.2 (vp_in_nI (by omega) (by omega)) rfl ?_
      refine xA.topi (congrArg (S (k + 2)) (nI_clamp (by omega))) ?_
      refine xA.iload_n (i := 2) rfl rfl rfl rfl ?_
      refine xA.ishr rfl rfl ?_
      refine xA.iconst (v := 1) rfl (by decide) rfl ?_
      refine xA.iand rfl rfl ?_
      refine xA.if_eq (tgt := 31) rfl rfl rfl (fun h24 => ?_) (fun h24 => ?_)
      · refine xA.iconst (v := 0) rfl (by decide) rfl ?_
        exact xA.iret rfl rfl rfl ⟨by simp [xb, *], rfl⟩
      · refine xA.iconst (v := 1) rfl (by decide) rfl ?_
        refine xA.goto (q := 32) rfl rfl ?_
        exact xA.iret rfl rfl rfl ⟨by simp [xb, *], rfl⟩
set_option maxRecDepth 100000 in
set_option maxHeartbeats 400000 in
theorem c_X1_meetingRooms (d : Nat) (S : Nat → Nat → Int32) (G : Nat → Nat → Int64) (k : Nat) (hk : isHouse τ k) (kd : Int32) (r : Nat) (hr : r < 6) : xR τ (d + 1) mX1_meetingRooms [.ref k, .int kd, .int (nI r)] S G (some (.int (mrm kd r (S (k + 2) r)))) S G := by
  refine xC.of okX1_meetingRooms (Nat.le_of_ble_eq_true rfl) (L := [_, _, _, _]) rfl ?_
  refine xA.iload_n (i := 2) rfl rfl rfl rfl ?_
  refine xA.callSNi (As := [_]) rfl k1_72 okX9_isRoom rfl rfl (Nat.le_of_ble_eq_true rfl) (c_X9_isRoom d S G _) rfl rfl ?_
  refine xA.if_eq (tgt := 15) rfl rfl rfl (fun h4 => ?_) (fun h4 => ?_)
  · exact absurd h4 (xb_ne0.mpr (rg_of hr (by omega)))
  · refine xA.iload_n (i := 1) rfl rfl rfl rfl ?_
    refine xA.iconst (v := 3) rfl (by decide) rfl ?_
    refine xA.callSNi (As := [_, _]) rfl k1_82 okX9_isOfKind rfl rfl (Nat.le_of_ble_eq_true rfl) (c_X9_isOfKind d S G _ _) rfl rfl ?_
    refine xA.if_eq (tgt := 17) rfl rfl rfl (fun h12 => ?_) (fun h12 => ?_)
    · rw [xb_eq0] at h12
      refine xA.iconst (v := 1) rfl (by decide) rfl ?_
      refine xA.iload_n (i := 2) rfl rfl rfl rfl ?_
      refine xA.ishl rfl rfl ?_
      refine xA.istore_n (i := 3) (L' := [_, _, _, _]) rfl rfl (Nat.le_of_ble_eq_true rfl) rfl rfl ?_
      refine xA.iload_n (i := 1) rfl rfl rfl rfl ?_
      refine xA.iconst (v := 1) rfl (by decide) rfl ?_
      refine xA.callSNi (As := [_, _]) rfl k1_82 okX9_isOfKind rfl rfl (Nat.le_of_ble_eq_true rfl) (c_X9_isOfKind d S G _ _) rfl rfl ?_
      refine xA.if_eq (tgt := 33) rfl rfl rfl (fun h26 => ?_) (fun h26 => ?_)
      · rw [xb_eq0] at h26
        refine xA.iload_n (i := 3) rfl rfl rfl rfl ?_
        refine xA.aload_n (i := 0) rfl rfl rfl rfl ?_
        refine xA.getR rfl f1_15 hk.1 rfl rfl rfl ?_
        refine xA.iload_n (i := 2) rfl rfl rfl rfl ?_
        refine xA.iald rfl hk.2.2 (vp_in_nI (by omega) (by omega)) rfl ?_
        refine xA.topi (congrArg (S (k + 2)) (nI_clamp (by omega))) ?_
        refine xA.ior rfl rfl ?_
        exact xA.iret rfl rfl rfl ⟨by unfold mrm; by_cases e3 : kd = 3 <;> by_cases e4 : kd = 4 <;> by_cases e1 : kd = 1 <;> simp_all [eq_comm], rfl⟩
      · rw [xb_ne0] at h26
        refine xA.iload_n (i := 3) rfl rfl rfl rfl ?_
        refine xA.goto (q := 41) rfl rfl ?_
        exact xA.iret rfl rfl rfl ⟨by unfold mrm; by_cases e3 : kd = 3 <;> by_cases e4 : kd = 4 <;> by_cases e1 : kd = 1 <;> simp_all [eq_comm], rfl⟩
    · rw [xb_ne0] at h12
      refine xA.iconst (v := 0) rfl (by decide) rfl ?_
      exact xA.iret rfl rfl rfl ⟨by unfold mrm; by_cases e3 : kd = 3 <;> by_cases e4 : kd = 4 <;> by_cases e1 : kd = 1 <;> simp_all [eq_comm], rfl⟩
set_option maxRecDepth 100000 in
set_option maxHeartbeats 400000 in
theorem c_X1_spotAfter (d : Nat) (S : Nat → Nat → Int32) (G : Nat → Nat → Int64) (k : Nat) (hk : isHouse τ k) (m r s lp : Nat) (hm : m < 60) (hr : r < 6) (hs : s < 8) (hlp : lp ≤ 10) : xR τ (d + 2) mX1_spotAfter [.ref k, .int (nI (m * 6 + r)), .int (nI s), .int (nI lp)] S G (some (.int (oI (nx (S (k + 1)) (S k 4) m r s lp)))) S G := by
  refine xC.of okX1_spotAfter (Nat.le_of_ble_eq_true rfl) (L := [_, _, _, _, _, _]) rfl ?_
  refine xA.iload_n (i := 1) rfl rfl rfl rfl ?_
  refine xA.callSNi (As := [_]) rfl k1_85 okX9_minuteOf rfl rfl (Nat.le_of_ble_eq_true rfl) (c_X9_minuteOf (d + 1) S G _) rfl rfl ?_
  refine xA.topi (xmin_nI hm hr) ?_
  refine xA.istore (L' := [_, _, _, _, _, _]) rfl (Nat.le_of_ble_eq_true rfl) rfl rfl ?_
  refine xA.iload_n (i := 1) rfl rfl rfl rfl ?_
  refine xA.callSNi (As := [_]) rfl k1_88 okX9_roomOf rfl rfl (Nat.le_of_ble_eq_true rfl) (c_X9_roomOf (d + 1) S G _) rfl rfl ?_
  refine xA.topi (xroom_nI hm hr) ?_
  refine xA.istore (L' := [_, _, _, _, _, _]) rfl (Nat.le_of_ble_eq_true rfl) rfl rfl ?_
  refine xA.iload_n (i := 2) rfl rfl rfl rfl ?_
  refine xA.bipush (v := 7) rfl (by decide) rfl ?_
  refine xA.icmp_ne (tgt := 47) rfl rfl rfl (fun h15 => ?_) (fun h15 => ?_)
  · have e7 : ¬ s = 7 := fun z => h15 (by rw [z]; rfl)
    refine xA.iload rfl rfl rfl ?_
    refine xA.callSNi (As := [_]) rfl k1_94 okX9_isMinute rfl rfl (Nat.le_of_ble_eq_true rfl) (c_X9_isMinute (d + 1) S G _) rfl rfl ?_
    refine xA.if_eq (tgt := 65) rfl rfl rfl (fun h52 => ?_) (fun h52 => ?_)
    · exact absurd h52 (xb_ne0.mpr (rg_of hm (by omega)))
    · refine xA.iload rfl rfl rfl ?_
      refine xA.iconst (v := 1) rfl (by decide) rfl ?_
      refine xA.iadd rfl rfl ?_
      refine xA.topi (nI_1 m) ?_
      refine xA.callSNi (As := [_]) rfl k1_94 okX9_isMinute rfl rfl (Nat.le_of_ble_eq_true rfl) (c_X9_isMinute (d + 1) S G _) rfl rfl ?_
      refine xA.if_ne (tgt := 67) rfl rfl rfl (fun h62 => ?_) (fun h62 => ?_)
      · rw [xb_ne0] at h62; have e62 : m + 1 < 60 := by have := h62.2; rw [nI_toInt (by omega)] at this; omega
        refine xA.iload_n (i := 2) rfl rfl rfl rfl ?_
        refine xA.bipush (v := 6) rfl (by decide) rfl ?_
        refine xA.icmp_ne (tgt := 83) rfl rfl rfl (fun h70 => ?_) (fun h70 => ?_)
        · have e6 : ¬ s = 6 := fun z => h70 (by rw [z]; rfl)
          have hs6 : s < 6 := by
            have e7 : ¬ s = 7 := fun z => h15 (by rw [z]; rfl)
            have e6 : ¬ s = 6 := fun z => h70 (by rw [z]; rfl)
            omega
          refine xA.aload_n (i := 0) rfl rfl rfl rfl ?_
          refine xA.iload rfl rfl rfl ?_
          refine xA.iload_n (i := 2) rfl rfl rfl rfl ?_
          refine xA.callVi (As := [_, _]) rfl k1_75 okX1_doorBetween hk.1 rfl rfl rfl (Nat.le_of_ble_eq_true rfl) (c_X1_doorBetween d S G k hk r s hr (by omega)) rfl rfl ?_
          refine xA.iconst (v := (-1)) rfl (by decide) rfl ?_
          refine xA.icmp_ne (tgt := 98) rfl rfl rfl (fun h91 => ?_) (fun h91 => ?_)
          · rw [i32_sub1] at h91
            refine xA.iload rfl rfl rfl ?_
            refine xA.iconst (v := 1) rfl (by decide) rfl ?_
            refine xA.iadd rfl rfl ?_
            refine xA.topi (nI_1 m) ?_
            refine xA.iload_n (i := 2) rfl rfl rfl rfl ?_
            refine xA.callSNi (As := [_, _]) rfl k1_91 okX9_spotOf rfl rfl (Nat.le_of_ble_eq_true rfl) (c_X9_spotOf (d + 1) S G _ _) rfl rfl ?_
            refine xA.topi (nI_spot _ _) ?_
            exact xA.iret rfl rfl rfl ⟨by unfold nx; first | (rw [if_pos e7, if_neg (by simp_all)]; rfl) | (rw [if_pos e7, if_neg (by omega)]; rfl) | (rw [if_pos e7, if_pos ⟨by simp_all, by omega⟩]; rfl) | (rw [if_neg e7, if_pos (by omega)]; rfl) | (rw [if_neg e7, if_neg (by omega), if_pos e6]; rfl) | (rw [if_neg e7, if_neg (by omega), if_neg e6, if_pos h91]; rfl) | (rw [if_neg e7, if_neg (by omega), if_neg e6, if_neg h91]; rfl), rfl⟩
          · rw [i32_sub1] at h91
            refine xA.iconst (v := (-1)) rfl (by decide) rfl ?_
            refine xA.goto (q := 106) rfl rfl ?_
            exact xA.iret rfl rfl rfl ⟨by unfold nx; first | (rw [if_pos e7, if_neg (by simp_all)]; rfl) | (rw [if_pos e7, if_neg (by omega)]; rfl) | (rw [if_pos e7, if_pos ⟨by simp_all, by omega⟩]; rfl) | (rw [if_neg e7, if_pos (by omega)]; rfl) | (rw [if_neg e7, if_neg (by omega), if_pos e6]; rfl) | (rw [if_neg e7, if_neg (by omega), if_neg e6, if_pos h91]; rfl) | (rw [if_neg e7, if_neg (by omega), if_neg e6, if_neg h91]; rfl), rfl⟩
        · have e6 : s = 6 := (nI_eq (b := 6) (by omega) (by omega)).mp h70
          refine xA.iload rfl rfl rfl ?_
          refine xA.iconst (v := 1) rfl (by decide) rfl ?_
          refine xA.iadd rfl rfl ?_
          refine xA.topi (nI_1 m) ?_
          refine xA.iload rfl rfl rfl ?_
          refine xA.callSNi (As := [_, _]) rfl k1_91 okX9_spotOf rfl rfl (Nat.le_of_ble_eq_true rfl) (c_X9_spotOf (d + 1) S G _ _) rfl rfl ?_
          refine xA.topi (nI_spot _ _) ?_
          exact xA.iret rfl rfl rfl ⟨by unfold nx; first | (rw [if_pos e7, if_neg (by simp_all)]; rfl) | (rw [if_pos e7, if_neg (by omega)]; rfl) | (rw [if_pos e7, if_pos ⟨by simp_all, by omega⟩]; rfl) | (rw [if_neg e7, if_pos (by omega)]; rfl) | (rw [if_neg e7, if_neg (by omega), if_pos e6]; rfl) | (rw [if_neg e7, if_neg (by omega), if_neg e6, if_pos h91]; rfl) | (rw [if_neg e7, if_neg (by omega), if_neg e6, if_neg h91]; rfl), rfl⟩
      · rw [xb_eq0] at h62; have e62 : ¬ m + 1 < 60 := fun z => h62 (rg_of z (by omega))
        refine xA.iconst (v := (-1)) rfl (by decide) rfl ?_
        exact xA.iret rfl rfl rfl ⟨by unfold nx; first | (rw [if_pos e7, if_neg (by simp_all)]; rfl) | (rw [if_pos e7, if_neg (by omega)]; rfl) | (rw [if_pos e7, if_pos ⟨by simp_all, by omega⟩]; rfl) | (rw [if_neg e7, if_pos (by omega)]; rfl) | (rw [if_neg e7, if_neg (by omega), if_pos e6]; rfl) | (rw [if_neg e7, if_neg (by omega), if_neg e6, if_pos h91]; rfl) | (rw [if_neg e7, if_neg (by omega), if_neg e6, if_neg h91]; rfl), rfl⟩
  · have e7 : s = 7 := (nI_eq (b := 7) (by omega) (by omega)).mp h15
    refine xA.iload rfl rfl rfl ?_
    refine xA.aload_n (i := 0) rfl rfl rfl rfl ?_
    refine xA.getI rfl f1_18 hk.1 rfl rfl ?_
    refine xA.icmp_ne (tgt := 45) rfl rfl rfl (fun h24 => ?_) (fun h24 => ?_)
    · refine xA.iconst (v := (-1)) rfl (by decide) rfl ?_
      exact xA.iret rfl rfl rfl ⟨by unfold nx; first | (rw [if_pos e7, if_neg (by simp_all)]; rfl) | (rw [if_pos e7, if_neg (by omega)]; rfl) | (rw [if_pos e7, if_pos ⟨by simp_all, by omega⟩]; rfl) | (rw [if_neg e7, if_pos (by omega)]; rfl) | (rw [if_neg e7, if_neg (by omega), if_pos e6]; rfl) | (rw [if_neg e7, if_neg (by omega), if_neg e6, if_pos h91]; rfl) | (rw [if_neg e7, if_neg (by omega), if_neg e6, if_neg h91]; rfl), rfl⟩
    · refine xA.iload rfl rfl rfl ?_
      refine xA.iload_n (i := 3) rfl rfl rfl rfl ?_
      refine xA.icmp_lt (tgt := 45) rfl rfl rfl (fun h30 => ?_) (fun h30 => ?_)
      · have e30 := (nI_ltI (a := m) (b := lp) (by omega) (by omega)).mp h30
        refine xA.iconst (v := (-1)) rfl (by decide) rfl ?_
        exact xA.iret rfl rfl rfl ⟨by unfold nx; first | (rw [if_pos e7, if_neg (by simp_all)]; rfl) | (rw [if_pos e7, if_neg (by omega)]; rfl) | (rw [if_pos e7, if_pos ⟨by simp_all, by omega⟩]; rfl) | (rw [if_neg e7, if_pos (by omega)]; rfl) | (rw [if_neg e7, if_neg (by omega), if_pos e6]; rfl) | (rw [if_neg e7, if_neg (by omega), if_neg e6, if_pos h91]; rfl) | (rw [if_neg e7, if_neg (by omega), if_neg e6, if_neg h91]; rfl), rfl⟩
      · have e30 : ¬ m < lp := mt (nI_ltI (a := m) (b := lp) (by omega) (by omega)).mpr h30
        refine xA.iload rfl rfl rfl ?_
        refine xA.iload_n (i := 3) rfl rfl rfl rfl ?_
        refine xA.isub rfl rfl ?_
        refine xA.topi (nI_sub (by have := mt (nI_ltI (a := m) (b := lp) (by omega) (by omega)).mpr h30; omega)) ?_
        refine xA.iload rfl rfl rfl ?_
        refine xA.callSNi (As := [_, _]) rfl k1_91 okX9_spotOf rfl rfl (Nat.le_of_ble_eq_true rfl) (c_X9_spotOf (d + 1) S G _ _) rfl rfl ?_
        refine xA.topi (nI_spot _ _) ?_
        refine xA.goto (q := 46) rfl rfl ?_
        exact xA.iret rfl rfl rfl ⟨by unfold nx; first | (rw [if_pos e7, if_neg (by simp_all)]; rfl) | (rw [if_pos e7, if_neg (by omega)]; rfl) | (rw [if_pos e7, if_pos ⟨by simp_all, by omega⟩]; rfl) | (rw [if_neg e7, if_pos (by omega)]; rfl) | (rw [if_neg e7, if_neg (by omega), if_pos e6]; rfl) | (rw [if_neg e7, if_neg (by omega), if_neg e6, if_pos h91]; rfl) | (rw [if_neg e7, if_neg (by omega), if_neg e6, if_neg h91]; rfl), rfl⟩
/-- whether a life's self is met there: the rooms as bits -/
def mtF (sp : Nat → Int32) (rooms : Int32) (q : Nat) (i : Nat) : Bool := decide (¬ i = q) && (decide (xmin (sp i) = xmin (sp q)) && decide (bt rooms (xroom (sp i))))
/-- all spots of a life lie in minutes and rooms -/
def okSp (sp : Nat → Int32) (n : Nat) : Prop := ∀ i, i < n → ∃ m r, m < 60 ∧ r < 6 ∧ sp i = nI (m * 6 + r)

set_option maxRecDepth 100000 in
set_option maxHeartbeats 400000 in
theorem c_X5_isMetBySelf (d : Nat) (S : Nat → Nat → Int32) (G : Nat → Nat → Int64) (k : Nat) (hk : isPers τ k) (hh : isHouse τ 3) (n : Nat) (hn : S (k + 1) 1 = nI n) (h17 : n ≤ 17) (hok : okSp (S (k + 1 + 1)) n) (m r q : Nat) (hm : m < 60) (hr : r < 6) (hq : q < n) (hsq : S (k + 1 + 1) q = nI (m * 6 + r)) : xR τ (d + 2) mX5_isMetBySelf [.ref k, .ref 3, .int (nI q)] S G (some (.int (xb (0 < cn (mtF (S (k + 1 + 1)) (mrm (S k 1) r (S 5 r)) q) n)))) S G := by
  refine xC.of okX5_isMetBySelf (Nat.le_of_ble_eq_true rfl) (L := [_, _, _, _, _, _, _]) rfl ?_
  have loop : ∀ i, i ≤ n → cn (mtF (S (k + 1 + 1)) (mrm (S k 1) r (S 5 r)) q) i = 0 → ∀ x6 : Option Value, xA none (d + 2) mX5_isMetBySelf 0 0 0 0 26 [some (.ref k), some (.ref 3), some (.int (nI q)), some (.int (nI (m * 6 + r))), some (.int (mrm (S k 1) r (S 5 r))), some (.int (nI i)), x6] [] ((σF τ), S, G) (fun r' h' => r' = (some (.int (xb (0 < cn (mtF (S (k + 1 + 1)) (mrm (S k 1) r (S 5 r)) q) n)))) ∧ h' = ((σF τ), S, G)) := by
    refine xloop n (fun i hi ih => ?_) ?_
    · skip
      intro hc x6
      refine xA.iload rfl rfl rfl ?_
      refine xA.aload_n (i := 0) rfl rfl rfl rfl ?_
      refine xA.getR rfl f5_12 hk.1 rfl rfl rfl ?_
      refine xA.callVi (As := []) rfl k5_25 okX3_selves hk.2.1 rfl rfl rfl (Nat.le_of_ble_eq_true rfl) (c_X3_selves (d + 1) S G (k + 1) hk.2) rfl rfl ?_
      refine xA.topi hn ?_
      refine xA.icmp_ge (tgt := 88) rfl rfl rfl (fun h35 => ?_) (fun h35 => ?_)
      · exact absurd h35 (nI_ge hi (by omega))
      · refine xA.aload_n (i := 0) rfl rfl rfl rfl ?_
        refine xA.getR rfl f5_12 hk.1 rfl rfl rfl ?_
        refine xA.iload rfl rfl rfl ?_
        refine xA.callVi (As := [_]) rfl k5_29 okX3_spotAt hk.2.1 rfl rfl rfl (Nat.le_of_ble_eq_true rfl) (c_X3_spotAt (d + 1) S G (k + 1) hk.2 n i hn hi h17) rfl rfl ?_
        refine xA.istore (L' := [_, _, _, _, _, _, _]) rfl (Nat.le_of_ble_eq_true rfl) rfl rfl ?_
        refine xA.iload rfl rfl rfl ?_
        refine xA.iload_n (i := 2) rfl rfl rfl rfl ?_
        refine xA.icmp_eq (tgt := 82) rfl rfl rfl (fun h52 => ?_) (fun h52 => ?_)
        · refine xA.iinc (L' := [_, _, _, _, _, _, _]) rfl rfl (nI_1 i) rfl rfl ?_
          refine xA.goto (q := 26) rfl rfl ?_
          have hf : mtF (S (k + 1 + 1)) (mrm (S k 1) r (S 5 r)) q i = false := by
            first
            | (have e52 : i = q := (nI_eq (by omega) (by omega)).mp h52; simp [mtF, e52]; done)
            | (simp [mtF, hsq, h64]; done)
            | (simp [mtF, bt, h77]; done)
          exact ih (by rw [cn, hc, hf]; rfl) _
        · refine xA.iload rfl rfl rfl ?_
          refine xA.callSNi (As := [_]) rfl k5_33 okX9_minuteOf rfl rfl (Nat.le_of_ble_eq_true rfl) (c_X9_minuteOf (d + 1) S G _) rfl rfl ?_
          refine xA.iload_n (i := 3) rfl rfl rfl rfl ?_
          refine xA.callSNi (As := [_]) rfl k5_33 okX9_minuteOf rfl rfl (Nat.le_of_ble_eq_true rfl) (c_X9_minuteOf (d + 1) S G _) rfl rfl ?_
          refine xA.icmp_ne (tgt := 82) rfl rfl rfl (fun h64 => ?_) (fun h64 => ?_)
          · refine xA.iinc (L' := [_, _, _, _, _, _, _]) rfl rfl (nI_1 i) rfl rfl ?_
            refine xA.goto (q := 26) rfl rfl ?_
            have hf : mtF (S (k + 1 + 1)) (mrm (S k 1) r (S 5 r)) q i = false := by
              first
              | (have e52 : i = q := (nI_eq (by omega) (by omega)).mp h52; simp [mtF, e52]; done)
              | (simp [mtF, hsq, h64]; done)
              | (simp [mtF, bt, h77]; done)
            exact ih (by rw [cn, hc, hf]; rfl) _
          · refine xA.iload rfl rfl rfl ?_
            refine xA.iload rfl rfl rfl ?_
            refine xA.callSNi (As := [_]) rfl k5_40 okX9_roomOf rfl rfl (Nat.le_of_ble_eq_true rfl) (c_X9_roomOf (d + 1) S G _) rfl rfl ?_
            refine xA.ishr rfl rfl ?_
            refine xA.iconst (v := 1) rfl (by decide) rfl ?_
            refine xA.iand rfl rfl ?_
            refine xA.if_eq (tgt := 82) rfl rfl rfl (fun h77 => ?_) (fun h77 => ?_)
            · refine xA.iinc (L' := [_, _, _, _, _, _, _]) rfl rfl (nI_1 i) rfl rfl ?_
              refine xA.goto (q := 26) rfl rfl ?_
              have hf : mtF (S (k + 1 + 1)) (mrm (S k 1) r (S 5 r)) q i = false := by
                first
                | (have e52 : i = q := (nI_eq (by omega) (by omega)).mp h52; simp [mtF, e52]; done)
                | (simp [mtF, hsq, h64]; done)
                | (simp [mtF, bt, h77]; done)
              exact ih (by rw [cn, hc, hf]; rfl) _
            · refine xA.iconst (v := 1) rfl (by decide) rfl ?_
              have hf : mtF (S (k + 1 + 1)) (mrm (S k 1) r (S 5 r)) q i = true := by
                have e52 : ¬ i = q := fun z => h52 (by rw [z])
                simp only [mtF, hsq, e52, h64, h77, bt, not_false_eq_true, decide_true, Bool.and_true]
              exact xA.iret rfl rfl rfl ⟨by rw [xb_t (cn_pos.mpr ⟨i, hi, hf⟩)], rfl⟩
    · skip
      intro hc x6
      refine xA.iload rfl rfl rfl ?_
      refine xA.aload_n (i := 0) rfl rfl rfl rfl ?_
      refine xA.getR rfl f5_12 hk.1 rfl rfl rfl ?_
      refine xA.callVi (As := []) rfl k5_25 okX3_selves hk.2.1 rfl rfl rfl (Nat.le_of_ble_eq_true rfl) (c_X3_selves (d + 1) S G (k + 1) hk.2) rfl rfl ?_
      refine xA.topi hn ?_
      refine xA.icmp_ge (tgt := 88) rfl rfl rfl (fun h35 => ?_) (fun h35 => ?_)
      · refine xA.iconst (v := 0) rfl (by decide) rfl ?_
        exact xA.iret rfl rfl rfl ⟨by rw [xb_f (by omega)], rfl⟩
      · exact absurd (nI_le (Nat.le_refl _) (by omega)) h35
  refine xA.aload_n (i := 0) rfl rfl rfl rfl ?_
  refine xA.getR rfl f5_12 hk.1 rfl rfl rfl ?_
  refine xA.iload_n (i := 2) rfl rfl rfl rfl ?_
  refine xA.callVi (As := [_]) rfl k5_29 okX3_spotAt hk.2.1 rfl rfl rfl (Nat.le_of_ble_eq_true rfl) (c_X3_spotAt (d + 1) S G (k + 1) hk.2 n q hn hq h17) rfl rfl ?_
  refine xA.topi hsq ?_
  refine xA.istore_n (i := 3) (L' := [_, _, _, _, _, _, _]) rfl rfl (Nat.le_of_ble_eq_true rfl) rfl rfl ?_
  refine xA.aload_n (i := 1) rfl rfl rfl rfl ?_
  refine xA.aload_n (i := 0) rfl rfl rfl rfl ?_
  refine xA.getI rfl f5_18 hk.1 rfl rfl ?_
  refine xA.iload_n (i := 3) rfl rfl rfl rfl ?_
  refine xA.callSNi (As := [_]) rfl k5_40 okX9_roomOf rfl rfl (Nat.le_of_ble_eq_true rfl) (c_X9_roomOf (d + 1) S G _) rfl rfl ?_
  refine xA.topi (xroom_nI hm hr) ?_
  refine xA.callVi (As := [_, _]) rfl k5_43 okX1_meetingRooms rfl rfl rfl rfl (Nat.le_of_ble_eq_true rfl) (c_X1_meetingRooms d S G 3 hh _ r hr) rfl rfl ?_
  refine xA.istore (L' := [_, _, _, _, _, _, _]) rfl (Nat.le_of_ble_eq_true rfl) rfl rfl ?_
  refine xA.iconst (v := 0) rfl (by decide) rfl ?_
  refine xA.istore (L' := [_, _, _, _, _, _, _]) rfl (Nat.le_of_ble_eq_true rfl) rfl rfl ?_
  exact loop 0 (Nat.zero_le _) rfl _
set_option maxRecDepth 100000 in
set_option maxHeartbeats 400000 in
theorem c_X5_firstMeeting (d : Nat) (S : Nat → Nat → Int32) (G : Nat → Nat → Int64) (k : Nat) (hk : isPers τ k) (hh : isHouse τ 3) (n : Nat) (hn : S (k + 1) 1 = nI n) (h17 : n ≤ 17) (hok : okSp (S (k + 1 + 1)) n) : xR τ (d + 3) mX5_firstMeeting [.ref k, .ref 3] S G (some (.int (fwS (fun j => xmin ((S (k + 1 + 1)) j)) (fun j => decide (0 < cn (mtF (S (k + 1 + 1)) (mrm (S k 1) (xroom ((S (k + 1 + 1)) j)).toNatClampNeg (S 5 (xroom ((S (k + 1 + 1)) j)).toNatClampNeg)) j) n)) n))) S G := by
  refine xC.of okX5_firstMeeting (Nat.le_of_ble_eq_true rfl) (L := [_, _, _, _, _]) rfl ?_
  have loop : ∀ i, i ≤ n → ∀ x4 : Option Value, xA none (d + 3) mX5_firstMeeting 0 0 0 0 4 [some (.ref k), some (.ref 3), some (.int (fwS (fun j => xmin ((S (k + 1 + 1)) j)) (fun j => decide (0 < cn (mtF (S (k + 1 + 1)) (mrm (S k 1) (xroom ((S (k + 1 + 1)) j)).toNatClampNeg (S 5 (xroom ((S (k + 1 + 1)) j)).toNatClampNeg)) j) n)) i)), some (.int (nI i)), x4] [] ((σF τ), S, G) (fun r' h' => r' = (some (.int (fwS (fun j => xmin ((S (k + 1 + 1)) j)) (fun j => decide (0 < cn (mtF (S (k + 1 + 1)) (mrm (S k 1) (xroom ((S (k + 1 + 1)) j)).toNatClampNeg (S 5 (xroom ((S (k + 1 + 1)) j)).toNatClampNeg)) j) n)) n))) ∧ h' = ((σF τ), S, G)) := by
    refine xloop n (fun i hi ih => ?_) ?_
    · skip
      intro x4
      refine xA.iload_n (i := 3) rfl rfl rfl rfl ?_
      refine xA.aload_n (i := 0) rfl rfl rfl rfl ?_
      refine xA.getR rfl f5_12 hk.1 rfl rfl rfl ?_
      refine xA.callVi (As := []) rfl k5_25 okX3_selves hk.2.1 rfl rfl rfl (Nat.le_of_ble_eq_true rfl) (c_X3_selves (d + 2) S G (k + 1) hk.2) rfl rfl ?_
      refine xA.topi hn ?_
      refine xA.icmp_ge (tgt := 57) rfl rfl rfl (fun h12 => ?_) (fun h12 => ?_)
      · exact absurd h12 (nI_ge hi (by omega))
      · obtain ⟨m, r, hm, hr, hsq⟩ := hok i hi
        have hxr : (xroom (S (k + 1 + 1) i)).toNatClampNeg = r := by rw [hsq, xroom_nI hm hr, nI_clamp (by omega)]
        refine xA.aload_n (i := 0) rfl rfl rfl rfl ?_
        refine xA.getR rfl f5_12 hk.1 rfl rfl rfl ?_
        refine xA.iload_n (i := 3) rfl rfl rfl rfl ?_
        refine xA.callVi (As := [_]) rfl k5_29 okX3_spotAt hk.2.1 rfl rfl rfl (Nat.le_of_ble_eq_true rfl) (c_X3_spotAt (d + 2) S G (k + 1) hk.2 n i hn hi h17) rfl rfl ?_
        refine xA.callSNi (As := [_]) rfl k5_33 okX9_minuteOf rfl rfl (Nat.le_of_ble_eq_true rfl) (c_X9_minuteOf (d + 2) S G _) rfl rfl ?_
        refine xA.istore (L' := [_, _, _, _, _]) rfl (Nat.le_of_ble_eq_true rfl) rfl rfl ?_
        refine xA.iload_n (i := 2) rfl rfl rfl rfl ?_
        refine xA.iconst (v := (-1)) rfl (by decide) rfl ?_
        refine xA.icmp_eq (tgt := 39) rfl rfl rfl (fun h30 => ?_) (fun h30 => ?_)
        · refine xA.aload_n (i := 0) rfl rfl rfl rfl ?_
          refine xA.aload_n (i := 1) rfl rfl rfl rfl ?_
          refine xA.iload_n (i := 3) rfl rfl rfl rfl ?_
          refine xA.callVi (As := [_, _]) rfl k5_36 okX5_isMetBySelf hk.1 rfl rfl rfl (Nat.le_of_ble_eq_true rfl) (c_X5_isMetBySelf d S G k hk hh n hn h17 hok m r i hm hr hi hsq) rfl rfl ?_
          refine xA.if_eq (tgt := 51) rfl rfl rfl (fun h45 => ?_) (fun h45 => ?_)
          · rw [xb_eq0] at h45
            refine xA.iinc (L' := [_, _, _, _, _]) rfl rfl (nI_1 i) rfl rfl ?_
            refine xA.goto (q := 4) rfl rfl ?_
            have ih := ih (some (.int (xmin (S (k + 1 + 1) i))))
            simp only [fwS, decide_eq_true_eq, hxr] at ih
            first | (rw [if_pos (by first | exact ⟨Or.inl h30, h45⟩ | exact ⟨Or.inr (Int32.not_le.mp h36), h45⟩)] at ih; exact ih) | (rw [if_neg (by rintro ⟨h, hh⟩; first | exact h45 hh | (rcases h with h | h; exact h30 h; exact absurd h36 (Int32.not_le.mpr h)))] at ih; exact ih)
          · rw [xb_ne0] at h45
            refine xA.iload rfl rfl rfl ?_
            refine xA.istore_n (i := 2) (L' := [_, _, _, _, _]) rfl rfl (Nat.le_of_ble_eq_true rfl) rfl rfl ?_
            refine xA.iinc (L' := [_, _, _, _, _]) rfl rfl (nI_1 i) rfl rfl ?_
            refine xA.goto (q := 4) rfl rfl ?_
            have ih := ih (some (.int (xmin (S (k + 1 + 1) i))))
            simp only [fwS, decide_eq_true_eq, hxr] at ih
            first | (rw [if_pos (by first | exact ⟨Or.inl h30, h45⟩ | exact ⟨Or.inr (Int32.not_le.mp h36), h45⟩)] at ih; exact ih) | (rw [if_neg (by rintro ⟨h, hh⟩; first | exact h45 hh | (rcases h with h | h; exact h30 h; exact absurd h36 (Int32.not_le.mpr h)))] at ih; exact ih)
        · refine xA.iload rfl rfl rfl ?_
          refine xA.iload_n (i := 2) rfl rfl rfl rfl ?_
          refine xA.icmp_ge (tgt := 51) rfl rfl rfl (fun h36 => ?_) (fun h36 => ?_)
          · refine xA.iinc (L' := [_, _, _, _, _]) rfl rfl (nI_1 i) rfl rfl ?_
            refine xA.goto (q := 4) rfl rfl ?_
            have ih := ih (some (.int (xmin (S (k + 1 + 1) i))))
            simp only [fwS, decide_eq_true_eq, hxr] at ih
            first | (rw [if_pos (by first | exact ⟨Or.inl h30, h45⟩ | exact ⟨Or.inr (Int32.not_le.mp h36), h45⟩)] at ih; exact ih) | (rw [if_neg (by rintro ⟨h, hh⟩; first | exact h45 hh | (rcases h with h | h; exact h30 h; exact absurd h36 (Int32.not_le.mpr h)))] at ih; exact ih)
          · refine xA.aload_n (i := 0) rfl rfl rfl rfl ?_
            refine xA.aload_n (i := 1) rfl rfl rfl rfl ?_
            refine xA.iload_n (i := 3) rfl rfl rfl rfl ?_
            refine xA.callVi (As := [_, _]) rfl k5_36 okX5_isMetBySelf hk.1 rfl rfl rfl (Nat.le_of_ble_eq_true rfl) (c_X5_isMetBySelf d S G k hk hh n hn h17 hok m r i hm hr hi hsq) rfl rfl ?_
            refine xA.if_eq (tgt := 51) rfl rfl rfl (fun h45 => ?_) (fun h45 => ?_)
            · rw [xb_eq0] at h45
              refine xA.iinc (L' := [_, _, _, _, _]) rfl rfl (nI_1 i) rfl rfl ?_
              refine xA.goto (q := 4) rfl rfl ?_
              have ih := ih (some (.int (xmin (S (k + 1 + 1) i))))
              simp only [fwS, decide_eq_true_eq, hxr] at ih
              first | (rw [if_pos (by first | exact ⟨Or.inl h30, h45⟩ | exact ⟨Or.inr (Int32.not_le.mp h36), h45⟩)] at ih; exact ih) | (rw [if_neg (by rintro ⟨h, hh⟩; first | exact h45 hh | (rcases h with h | h; exact h30 h; exact absurd h36 (Int32.not_le.mpr h)))] at ih; exact ih)
            · rw [xb_ne0] at h45
              refine xA.iload rfl rfl rfl ?_
              refine xA.istore_n (i := 2) (L' := [_, _, _, _, _]) rfl rfl (Nat.le_of_ble_eq_true rfl) rfl rfl ?_
              refine xA.iinc (L' := [_, _, _, _, _]) rfl rfl (nI_1 i) rfl rfl ?_
              refine xA.goto (q := 4) rfl rfl ?_
              have ih := ih (some (.int (xmin (S (k + 1 + 1) i))))
              simp only [fwS, decide_eq_true_eq, hxr] at ih
              first | (rw [if_pos (by first | exact ⟨Or.inl h30, h45⟩ | exact ⟨Or.inr (Int32.not_le.mp h36), h45⟩)] at ih; exact ih) | (rw [if_neg (by rintro ⟨h, hh⟩; first | exact h45 hh | (rcases h with h | h; exact h30 h; exact absurd h36 (Int32.not_le.mpr h)))] at ih; exact ih)
    · skip
      intro x4
      refine xA.iload_n (i := 3) rfl rfl rfl rfl ?_
      refine xA.aload_n (i := 0) rfl rfl rfl rfl ?_
      refine xA.getR rfl f5_12 hk.1 rfl rfl rfl ?_
      refine xA.callVi (As := []) rfl k5_25 okX3_selves hk.2.1 rfl rfl rfl (Nat.le_of_ble_eq_true rfl) (c_X3_selves (d + 2) S G (k + 1) hk.2) rfl rfl ?_
      refine xA.topi hn ?_
      refine xA.icmp_ge (tgt := 57) rfl rfl rfl (fun h12 => ?_) (fun h12 => ?_)
      · refine xA.iload_n (i := 2) rfl rfl rfl rfl ?_
        exact xA.iret rfl rfl rfl ⟨rfl, rfl⟩
      · exact absurd (nI_le (Nat.le_refl _) (by omega)) h12
  refine xA.iconst (v := (-1)) rfl (by decide) rfl ?_
  refine xA.istore_n (i := 2) (L' := [_, _, _, _, _]) rfl rfl (Nat.le_of_ble_eq_true rfl) rfl rfl ?_
  refine xA.iconst (v := 0) rfl (by decide) rfl ?_
  refine xA.istore_n (i := 3) (L' := [_, _, _, _, _]) rfl rfl (Nat.le_of_ble_eq_true rfl) rfl rfl ?_
  exact loop 0 (Nat.zero_le _) _
end
section
variable {τ : List xSh}
/-! ===== tasks, glimpses, copies ===== -/
/-- stores behind copies: of a life, tasks, glimpses (k from k2, n places) -/
def lcS (S : Nat → Nat → Int32) (k k2 n : Nat) : Nat → Nat → Int32 := fun j i =>
  if j = k then (if i = 1 then nI n else if i = 2 then 0 else if i = 3 then 0 else S k i)
  else if j = k + 1 then (if i < n then S (k2 + 1) i else S (k + 1) i) else S j i
def lcE (S : Nat → Nat → Int32) (k k2 n : Nat) : Nat → Nat → Int32 := fun j i =>
  if j = k then (if i = 1 then nI n else if i = 2 then S k2 2 else if i = 3 then S k2 3 else S k i)
  else if j = k + 1 then (if i < n then S (k2 + 1) i else S (k + 1) i) else S j i
def tcS (S : Nat → Nat → Int32) (k k2 n : Nat) : Nat → Nat → Int32 := fun j i =>
  if j = k then (if i = 3 then nI n else S k i)
  else if j = k + 1 then (if i < n then S (k2 + 1) i else S (k + 1) i)
  else if j = k + 2 then (if i < n then S (k2 + 2) i else S (k + 2) i)
  else if j = k + 3 then (if i < n then S (k2 + 3) i else S (k + 3) i) else S j i
def gcS (S : Nat → Nat → Int32) (k k2 n : Nat) : Nat → Nat → Int32 := fun j i =>
  if j = k then (if i = 1 then nI n else S k i)
  else if j = k + 1 then (if i < n then S (k2 + 1) i else S (k + 1) i) else S j i
/-- whether a task is done in this minute, this room -/
abbrev tkD (S : Nat → Nat → Int32) (k : Nat) (m r : Int32) (i : Nat) : Prop := S (k + 1) i = r ∧ S (k + 2) i ≤ m ∧ m ≤ S (k + 3) i
def tkB (S : Nat → Nat → Int32) (k : Nat) (x : Int32) (i : Nat) : Int32 := if tkD S k (xmin x) (xroom x) i then 1 <<< (nI i &&& 31) else 0

set_option maxRecDepth 100000 in
set_option maxHeartbeats 400000 in
theorem c_X7_add (d : Nat) (S : Nat → Nat → Int32) (G : Nat → Nat → Int64) (k : Nat) (hk : isTasks τ k) (n : Nat) (hn : S k 3 = nI n) (h5 : n < 5) (x y z : Int32) : xR τ d mX7_add [.ref k, .int x, .int y, .int z] S G (some (.int (nI n))) (xu (xu (xu (xu S (k + 1) n x) (k + 2) n y) (k + 3) n z) k 3 (nI (n + 1))) G := by
  refine xC.of okX7_add (Nat.le_of_ble_eq_true rfl) (L := [_, _, _, _, _]) rfl ?_
  refine xA.aload_n (i := 0) rfl rfl rfl rfl ?_
  refine xA.getI rfl f7_21 hk.1 rfl rfl ?_
  refine xA.topi (hn) ?_
  refine xA.istore (L' := [_, _, _, _, _]) rfl (Nat.le_of_ble_eq_true rfl) rfl rfl ?_
  refine xA.iload rfl rfl rfl ?_
  refine xA.if_lt (tgt := 17) rfl rfl rfl (fun h8 => ?_) (fun h8 => ?_)
  · exact absurd h8 (nI_pos (by omega))
  · refine xA.iload rfl rfl rfl ?_
    refine xA.iconst (v := 5) rfl (by decide) rfl ?_
    refine xA.icmp_lt (tgt := 20) rfl rfl rfl (fun h14 => ?_) (fun h14 => ?_)
    · refine xA.aload_n (i := 0) rfl rfl rfl rfl ?_
      refine xA.getR rfl f7_9 hk.1 rfl rfl rfl ?_
      refine xA.iload rfl rfl rfl ?_
      refine xA.iload_n (i := 1) rfl rfl rfl rfl ?_
      refine xA.iast rfl hk.2.1 (vp_in_nI (by omega) (by omega)) rfl ?_
      rw [nI_clamp (by omega)]
      refine xA.aload_n (i := 0) rfl rfl rfl rfl ?_
      refine xA.getR rfl f7_15 hk.1 rfl rfl rfl ?_
      refine xA.iload rfl rfl rfl ?_
      refine xA.iload_n (i := 2) rfl rfl rfl rfl ?_
      refine xA.iast rfl hk.2.2.1 (vp_in_nI (by omega) (by omega)) rfl ?_
      rw [nI_clamp (by omega)]
      refine xA.aload_n (i := 0) rfl rfl rfl rfl ?_
      refine xA.getR rfl f7_18 hk.1 rfl rfl rfl ?_
      refine xA.iload rfl rfl rfl ?_
      refine xA.iload_n (i := 3) rfl rfl rfl rfl ?_
      refine xA.iast rfl hk.2.2.2 (vp_in_nI (by omega) (by omega)) rfl ?_
      rw [nI_clamp (by omega)]
      refine xA.aload_n (i := 0) rfl rfl rfl rfl ?_
      refine xA.dup rfl rfl rfl ?_
      refine xA.getI rfl f7_21 hk.1 rfl rfl ?_
      refine xA.topi ((by simp [xu]; exact hn : _ = nI n)) ?_
      refine xA.iconst (v := 1) rfl (by decide) rfl ?_
      refine xA.iadd rfl rfl ?_
      refine xA.topi (nI_1 n) ?_
      refine xA.putI rfl p7_21 hk.1 rfl rfl ?_
      refine xA.iload rfl rfl rfl ?_
      exact xA.iret rfl rfl rfl ⟨rfl, rfl⟩
    · exact absurd (nI_lt h5 (by omega)) h14
set_option maxRecDepth 100000 in
set_option maxHeartbeats 400000 in
theorem c_X7_addF (d : Nat) (S : Nat → Nat → Int32) (G : Nat → Nat → Int64) (k : Nat) (hk : isTasks τ k) (hn : S k 3 = nI 5) (x y z : Int32) : xR τ d mX7_add [.ref k, .int x, .int y, .int z] S G (some (.int (-104))) S G := by
  refine xC.of okX7_add (Nat.le_of_ble_eq_true rfl) (L := [_, _, _, _, _]) rfl ?_
  refine xA.aload_n (i := 0) rfl rfl rfl rfl ?_
  refine xA.getI rfl f7_21 hk.1 rfl rfl ?_
  refine xA.topi (hn) ?_
  refine xA.istore (L' := [_, _, _, _, _]) rfl (Nat.le_of_ble_eq_true rfl) rfl rfl ?_
  refine xA.iload rfl rfl rfl ?_
  refine xA.if_lt (tgt := 17) rfl rfl rfl (fun h8 => ?_) (fun h8 => ?_)
  · exact absurd h8 (by decide)
  · refine xA.iload rfl rfl rfl ?_
    refine xA.iconst (v := 5) rfl (by decide) rfl ?_
    refine xA.icmp_lt (tgt := 20) rfl rfl rfl (fun h14 => ?_) (fun h14 => ?_)
    · exact absurd h14 (by decide)
    · refine xA.bipush (v := (-104)) rfl (by decide) rfl ?_
      exact xA.iret rfl rfl rfl ⟨rfl, rfl⟩
set_option maxRecDepth 100000 in
set_option maxHeartbeats 400000 in
theorem c_X0_add (d : Nat) (S : Nat → Nat → Int32) (G : Nat → Nat → Int64) (k : Nat) (hk : isGlim τ k) (n : Nat) (hn : S k 1 = nI n) (h8 : n < 8) (x : Int32) : xR τ d mX0_add [.ref k, .int x] S G (some (.int (nI (n + 1)))) (xu (xu S (k + 1) n x) k 1 (nI (n + 1))) G := by
  refine xC.of okX0_add (Nat.le_of_ble_eq_true rfl) (L := [_, _]) rfl ?_
  refine xA.aload_n (i := 0) rfl rfl rfl rfl ?_
  refine xA.getI rfl f0_15 hk.1 rfl rfl ?_
  refine xA.topi (hn) ?_
  refine xA.if_lt (tgt := 19) rfl rfl rfl (fun h4 => ?_) (fun h4 => ?_)
  · exact absurd h4 (nI_pos (by omega))
  · refine xA.aload_n (i := 0) rfl rfl rfl rfl ?_
    refine xA.getI rfl f0_15 hk.1 rfl rfl ?_
    refine xA.topi (hn) ?_
    refine xA.aload_n (i := 0) rfl rfl rfl rfl ?_
    refine xA.getR rfl f0_9 hk.1 rfl rfl rfl ?_
    refine xA.alen rfl hk.2 rfl ?_
    refine xA.icmp_lt (tgt := 22) rfl rfl rfl (fun h16 => ?_) (fun h16 => ?_)
    · refine xA.aload_n (i := 0) rfl rfl rfl rfl ?_
      refine xA.getR rfl f0_9 hk.1 rfl rfl rfl ?_
      refine xA.aload_n (i := 0) rfl rfl rfl rfl ?_
      refine xA.getI rfl f0_15 hk.1 rfl rfl ?_
      refine xA.topi (hn) ?_
      refine xA.iload_n (i := 1) rfl rfl rfl rfl ?_
      refine xA.iast rfl hk.2 (vp_in_nI (by omega) (by omega)) rfl ?_
      rw [nI_clamp (by omega)]
      refine xA.aload_n (i := 0) rfl rfl rfl rfl ?_
      refine xA.dup rfl rfl rfl ?_
      refine xA.getI rfl f0_15 hk.1 rfl rfl ?_
      refine xA.topi ((xu_ne1 (by omega)).trans hn) ?_
      refine xA.iconst (v := 1) rfl (by decide) rfl ?_
      refine xA.iadd rfl rfl ?_
      refine xA.topi (nI_1 n) ?_
      refine xA.putI rfl p0_15 hk.1 rfl rfl ?_
      refine xA.aload_n (i := 0) rfl rfl rfl rfl ?_
      refine xA.getI rfl f0_15 hk.1 rfl rfl ?_
      refine xA.topi (xu_same) ?_
      exact xA.iret rfl rfl rfl ⟨rfl, rfl⟩
    · exact absurd (nI_lt h8 (by omega)) h16
set_option maxRecDepth 100000 in
set_option maxHeartbeats 400000 in
theorem c_X0_addF (d : Nat) (S : Nat → Nat → Int32) (G : Nat → Nat → Int64) (k : Nat) (hk : isGlim τ k) (hn : S k 1 = nI 8) (x : Int32) : xR τ d mX0_add [.ref k, .int x] S G (some (.int (-104))) S G := by
  refine xC.of okX0_add (Nat.le_of_ble_eq_true rfl) (L := [_, _]) rfl ?_
  refine xA.aload_n (i := 0) rfl rfl rfl rfl ?_
  refine xA.getI rfl f0_15 hk.1 rfl rfl ?_
  refine xA.topi (hn) ?_
  refine xA.if_lt (tgt := 19) rfl rfl rfl (fun h4 => ?_) (fun h4 => ?_)
  · exact absurd h4 (by decide)
  · refine xA.aload_n (i := 0) rfl rfl rfl rfl ?_
    refine xA.getI rfl f0_15 hk.1 rfl rfl ?_
    refine xA.topi (hn) ?_
    refine xA.aload_n (i := 0) rfl rfl rfl rfl ?_
    refine xA.getR rfl f0_9 hk.1 rfl rfl rfl ?_
    refine xA.alen rfl hk.2 rfl ?_
    refine xA.icmp_lt (tgt := 22) rfl rfl rfl (fun h16 => ?_) (fun h16 => ?_)
    · exact absurd h16 (by decide)
    · refine xA.bipush (v := (-104)) rfl (by decide) rfl ?_
      exact xA.iret rfl rfl rfl ⟨rfl, rfl⟩
set_option maxRecDepth 100000 in
set_option maxHeartbeats 400000 in
theorem c_X3_copyFrom (d : Nat) (S : Nat → Nat → Int32) (G : Nat → Nat → Int64) (k : Nat) (hk : isLife τ k) (k2 : Nat) (hk2 : isLife τ k2) (hx : k + 2 ≤ k2 ∨ k2 + 2 ≤ k) (n : Nat) (hn : S k2 1 = nI n) (h17 : n ≤ 17) : xR τ (d + 1) mX3_copyFrom [.ref k, .ref k2] S G none (lcE S k k2 n) G := by
  refine xC.of okX3_copyFrom (Nat.le_of_ble_eq_true rfl) (L := [_, _, _]) rfl ?_
  have loop : ∀ i, i ≤ n → xA none (d + 1) mX3_copyFrom 0 0 0 0 6 [some (.ref k), some (.ref k2), some (.int (nI i))] [] ((σF τ), (lcS S k k2 i), G) (fun r' h' => r' = none ∧ h' = ((σF τ), (lcE S k k2 n), G)) := by
    refine xloop n (fun i hi ih => ?_) ?_
    · skip
      refine xA.iload_n (i := 2) rfl rfl rfl rfl ?_
      refine xA.aload_n (i := 1) rfl rfl rfl rfl ?_
      refine xA.getI rfl f3_79 hk2.1 rfl rfl ?_
      refine xA.topi ((by simp only [lcS]; rw [if_neg (by omega), if_neg (by omega)]; exact hn : _ = nI n)) ?_
      refine xA.icmp_ge (tgt := 29) rfl rfl rfl (fun h11 => ?_) (fun h11 => ?_)
      · exact absurd h11 (nI_ge hi (by omega))
      · refine xA.aload_n (i := 0) rfl rfl rfl rfl ?_
        refine xA.aload_n (i := 1) rfl rfl rfl rfl ?_
        refine xA.iload_n (i := 2) rfl rfl rfl rfl ?_
        refine xA.callVi (As := [_]) rfl k3_82 okX3_spotAt hk2.1 rfl rfl rfl (Nat.le_of_ble_eq_true rfl) (c_X3_spotAt d (lcS S k k2 i) G k2 hk2 n i (by simp only [lcS]; rw [if_neg (by omega), if_neg (by omega)]; exact hn) hi h17) rfl rfl ?_
        refine xA.topi (show _ = S (k2 + 1) i from by simp only [lcS]; rw [if_neg (by omega), if_neg (by omega)]) ?_
        refine xA.callVv (As := [_]) rfl k3_50 okX3_add hk.1 rfl rfl rfl (Nat.le_of_ble_eq_true rfl) (c_X3_add d (lcS S k k2 i) G k hk i (by simp [lcS]) (by omega) (S (k2 + 1) i)) rfl rfl ?_
        refine xA.store (S' := lcS S k k2 (i + 1)) (by funext j i; simp only [lcS, xu]; repeat (first | split | (exfalso; omega) | omega | rfl | simp_all)) ?_
        refine xA.iinc (L' := [_, _, _]) rfl rfl (nI_1 i) rfl rfl ?_
        refine xA.goto (q := 6) rfl rfl ?_
        exact ih
    · skip
      refine xA.iload_n (i := 2) rfl rfl rfl rfl ?_
      refine xA.aload_n (i := 1) rfl rfl rfl rfl ?_
      refine xA.getI rfl f3_79 hk2.1 rfl rfl ?_
      refine xA.topi ((by simp only [lcS]; rw [if_neg (by omega), if_neg (by omega)]; exact hn : _ = nI n)) ?_
      refine xA.icmp_ge (tgt := 29) rfl rfl rfl (fun h11 => ?_) (fun h11 => ?_)
      · refine xA.aload_n (i := 0) rfl rfl rfl rfl ?_
        refine xA.aload_n (i := 1) rfl rfl rfl rfl ?_
        refine xA.getI rfl f3_66 hk2.1 rfl rfl ?_
        refine xA.topi ((show _ = S k2 2 from by simp only [lcS]; rw [if_neg (by omega), if_neg (by omega)])) ?_
        refine xA.putI rfl p3_66 hk.1 rfl rfl ?_
        refine xA.aload_n (i := 0) rfl rfl rfl rfl ?_
        refine xA.aload_n (i := 1) rfl rfl rfl rfl ?_
        refine xA.getI rfl f3_70 hk2.1 rfl rfl ?_
        refine xA.topi ((show _ = S k2 3 from by simp only [lcS, xu]; rw [if_neg (by omega), if_neg (by omega), if_neg (by omega)])) ?_
        refine xA.putI rfl p3_70 hk.1 rfl rfl ?_
        refine xA.store (S' := lcE S k k2 n) (by funext j i; simp only [lcS, lcE, xu]; repeat (first | split | (exfalso; omega) | omega | rfl | simp_all)) ?_
        exact xA.vret rfl rfl ⟨rfl, rfl⟩
      · exact absurd (nI_le (Nat.le_refl _) (by omega)) h11
  refine xA.aload_n (i := 0) rfl rfl rfl rfl ?_
  refine xA.callVv (As := []) rfl k3_39 okX3_clear hk.1 rfl rfl rfl (Nat.le_of_ble_eq_true rfl) (c_X3_clear d _ G k hk) rfl rfl ?_
  refine xA.store (S' := lcS S k k2 0) (by funext j i; simp only [lcS, xu]; repeat (first | split | (exfalso; omega) | omega | rfl | simp_all)) ?_
  refine xA.iconst (v := 0) rfl (by decide) rfl ?_
  refine xA.istore_n (i := 2) (L' := [_, _, _]) rfl rfl (Nat.le_of_ble_eq_true rfl) rfl rfl ?_
  exact loop 0 (Nat.zero_le _)
set_option maxRecDepth 100000 in
set_option maxHeartbeats 400000 in
theorem c_X7_doneAt (d : Nat) (S : Nat → Nat → Int32) (G : Nat → Nat → Int64) (k : Nat) (hk : isTasks τ k) (n : Nat) (hn : S k 3 = nI n) (h5 : n ≤ 5) (x : Int32) : xR τ (d + 1) mX7_doneAt [.ref k, .int x] S G (some (.int (orI (tkB S k x) n))) S G := by
  refine xC.of okX7_doneAt (Nat.le_of_ble_eq_true rfl) (L := [_, _, _, _, _, _]) rfl ?_
  have loop : ∀ i, i ≤ n → xA none (d + 1) mX7_doneAt 0 0 0 0 16 [some (.ref k), some (.int x), some (.int (xmin x)), some (.int (xroom x)), some (.int (orI (tkB S k x) i)), some (.int (nI i))] [] ((σF τ), S, G) (fun r' h' => r' = (some (.int (orI (tkB S k x) n))) ∧ h' = ((σF τ), S, G)) := by
    refine xloop n (fun i hi ih => ?_) ?_
    · skip
      refine xA.iload rfl rfl rfl ?_
      refine xA.aload_n (i := 0) rfl rfl rfl rfl ?_
      refine xA.getI rfl f7_21 hk.1 rfl rfl ?_
      refine xA.topi (hn) ?_
      refine xA.icmp_ge (tgt := 79) rfl rfl rfl (fun h22 => ?_) (fun h22 => ?_)
      · exact absurd h22 (nI_ge hi (by omega))
      · refine xA.iload rfl rfl rfl ?_
        refine xA.iconst (v := 5) rfl (by decide) rfl ?_
        refine xA.icmp_ge (tgt := 79) rfl rfl rfl (fun h28 => ?_) (fun h28 => ?_)
        · exact absurd h28 (nI_ge (b := 5) (by omega) (by omega))
        · refine xA.aload_n (i := 0) rfl rfl rfl rfl ?_
          refine xA.getR rfl f7_9 hk.1 rfl rfl rfl ?_
          refine xA.iload rfl rfl rfl ?_
          refine xA.iald rfl hk.2.1 (vp_in_nI (by omega) (by omega)) rfl ?_
          refine xA.topi (congrArg (S (k + 1)) (nI_clamp (by omega))) ?_
          refine xA.iload_n (i := 3) rfl rfl rfl rfl ?_
          refine xA.icmp_ne (tgt := 73) rfl rfl rfl (fun h39 => ?_) (fun h39 => ?_)
          · refine xA.iinc (L' := [_, _, _, _, _, _]) rfl rfl (nI_1 i) rfl rfl ?_
            refine xA.goto (q := 16) rfl rfl ?_
            simp only [orI] at ih
            first | (rw [tkB, if_neg (by rintro ⟨a1, a2, a3⟩; first | exact h39 a1 | exact absurd h50 (Int32.not_lt.mpr a2) | exact absurd h61 (Int32.not_lt.mpr a3)), Int32.or_zero] at ih; exact ih) | (rw [tkB, if_pos ⟨h39, Int32.not_lt.mp h50, Int32.not_lt.mp h61⟩] at ih; exact ih)
          · refine xA.aload_n (i := 0) rfl rfl rfl rfl ?_
            refine xA.getR rfl f7_15 hk.1 rfl rfl rfl ?_
            refine xA.iload rfl rfl rfl ?_
            refine xA.iald rfl hk.2.2.1 (vp_in_nI (by omega) (by omega)) rfl ?_
            refine xA.topi (congrArg (S (k + 2)) (nI_clamp (by omega))) ?_
            refine xA.iload_n (i := 2) rfl rfl rfl rfl ?_
            refine xA.icmp_gt (tgt := 73) rfl rfl rfl (fun h50 => ?_) (fun h50 => ?_)
            · refine xA.iinc (L' := [_, _, _, _, _, _]) rfl rfl (nI_1 i) rfl rfl ?_
              refine xA.goto (q := 16) rfl rfl ?_
              simp only [orI] at ih
              first | (rw [tkB, if_neg (by rintro ⟨a1, a2, a3⟩; first | exact h39 a1 | exact absurd h50 (Int32.not_lt.mpr a2) | exact absurd h61 (Int32.not_lt.mpr a3)), Int32.or_zero] at ih; exact ih) | (rw [tkB, if_pos ⟨h39, Int32.not_lt.mp h50, Int32.not_lt.mp h61⟩] at ih; exact ih)
            · refine xA.iload_n (i := 2) rfl rfl rfl rfl ?_
              refine xA.aload_n (i := 0) rfl rfl rfl rfl ?_
              refine xA.getR rfl f7_18 hk.1 rfl rfl rfl ?_
              refine xA.iload rfl rfl rfl ?_
              refine xA.iald rfl hk.2.2.2 (vp_in_nI (by omega) (by omega)) rfl ?_
              refine xA.topi (congrArg (S (k + 3)) (nI_clamp (by omega))) ?_
              refine xA.icmp_gt (tgt := 73) rfl rfl rfl (fun h61 => ?_) (fun h61 => ?_)
              · refine xA.iinc (L' := [_, _, _, _, _, _]) rfl rfl (nI_1 i) rfl rfl ?_
                refine xA.goto (q := 16) rfl rfl ?_
                simp only [orI] at ih
                first | (rw [tkB, if_neg (by rintro ⟨a1, a2, a3⟩; first | exact h39 a1 | exact absurd h50 (Int32.not_lt.mpr a2) | exact absurd h61 (Int32.not_lt.mpr a3)), Int32.or_zero] at ih; exact ih) | (rw [tkB, if_pos ⟨h39, Int32.not_lt.mp h50, Int32.not_lt.mp h61⟩] at ih; exact ih)
              · refine xA.iload rfl rfl rfl ?_
                refine xA.iconst (v := 1) rfl (by decide) rfl ?_
                refine xA.iload rfl rfl rfl ?_
                refine xA.ishl rfl rfl ?_
                refine xA.ior rfl rfl ?_
                refine xA.istore (L' := [_, _, _, _, _, _]) rfl (Nat.le_of_ble_eq_true rfl) rfl rfl ?_
                refine xA.iinc (L' := [_, _, _, _, _, _]) rfl rfl (nI_1 i) rfl rfl ?_
                refine xA.goto (q := 16) rfl rfl ?_
                simp only [orI] at ih
                first | (rw [tkB, if_neg (by rintro ⟨a1, a2, a3⟩; first | exact h39 a1 | exact absurd h50 (Int32.not_lt.mpr a2) | exact absurd h61 (Int32.not_lt.mpr a3)), Int32.or_zero] at ih; exact ih) | (rw [tkB, if_pos ⟨h39, Int32.not_lt.mp h50, Int32.not_lt.mp h61⟩] at ih; exact ih)
    · skip
      refine xA.iload rfl rfl rfl ?_
      refine xA.aload_n (i := 0) rfl rfl rfl rfl ?_
      refine xA.getI rfl f7_21 hk.1 rfl rfl ?_
      refine xA.topi (hn) ?_
      refine xA.icmp_ge (tgt := 79) rfl rfl rfl (fun h22 => ?_) (fun h22 => ?_)
      · refine xA.iload rfl rfl rfl ?_
        exact xA.iret rfl rfl rfl ⟨rfl, rfl⟩
      · exact absurd (nI_le (Nat.le_refl _) (by omega)) h22
  refine xA.iload_n (i := 1) rfl rfl rfl rfl ?_
  refine xA.callSNi (As := [_]) rfl k7_32 okX9_minuteOf rfl rfl (Nat.le_of_ble_eq_true rfl) (c_X9_minuteOf d S G _) rfl rfl ?_
  refine xA.istore_n (i := 2) (L' := [_, _, _, _, _, _]) rfl rfl (Nat.le_of_ble_eq_true rfl) rfl rfl ?_
  refine xA.iload_n (i := 1) rfl rfl rfl rfl ?_
  refine xA.callSNi (As := [_]) rfl k7_36 okX9_roomOf rfl rfl (Nat.le_of_ble_eq_true rfl) (c_X9_roomOf d S G _) rfl rfl ?_
  refine xA.istore_n (i := 3) (L' := [_, _, _, _, _, _]) rfl rfl (Nat.le_of_ble_eq_true rfl) rfl rfl ?_
  refine xA.iconst (v := 0) rfl (by decide) rfl ?_
  refine xA.istore (L' := [_, _, _, _, _, _]) rfl (Nat.le_of_ble_eq_true rfl) rfl rfl ?_
  refine xA.iconst (v := 0) rfl (by decide) rfl ?_
  refine xA.istore (L' := [_, _, _, _, _, _]) rfl (Nat.le_of_ble_eq_true rfl) rfl rfl ?_
  exact loop 0 (Nat.zero_le _)
set_option maxRecDepth 100000 in
set_option maxHeartbeats 400000 in
theorem c_X7_doneBy (d : Nat) (S : Nat → Nat → Int32) (G : Nat → Nat → Int64) (k : Nat) (hk : isTasks τ k) (nt : Nat) (hnt : S k 3 = nI nt) (h5 : nt ≤ 5) (l : Nat) (hl : isLife τ l) (n : Nat) (hn : S l 1 = nI n) (h17 : n ≤ 17) : xR τ (d + 2) mX7_doneBy [.ref k, .ref l] S G (some (.int (orI (fun j => orI (tkB S k (S (l + 1) j)) nt) n))) S G := by
  refine xC.of okX7_doneBy (Nat.le_of_ble_eq_true rfl) (L := [_, _, _, _]) rfl ?_
  have loop : ∀ i, i ≤ n → xA none (d + 2) mX7_doneBy 0 0 0 0 4 [some (.ref k), some (.ref l), some (.int (orI (fun j => orI (tkB S k (S (l + 1) j)) nt) i)), some (.int (nI i))] [] ((σF τ), S, G) (fun r' h' => r' = (some (.int (orI (fun j => orI (tkB S k (S (l + 1) j)) nt) n))) ∧ h' = ((σF τ), S, G)) := by
    refine xloop n (fun i hi ih => ?_) ?_
    · skip
      refine xA.iload_n (i := 3) rfl rfl rfl rfl ?_
      refine xA.aload_n (i := 1) rfl rfl rfl rfl ?_
      refine xA.callVi (As := []) rfl k7_39 okX3_selves hl.1 rfl rfl rfl (Nat.le_of_ble_eq_true rfl) (c_X3_selves (d + 1) S G l hl) rfl rfl ?_
      refine xA.topi hn ?_
      refine xA.icmp_ge (tgt := 30) rfl rfl rfl (fun h9 => ?_) (fun h9 => ?_)
      · exact absurd h9 (nI_ge hi (by omega))
      · refine xA.iload_n (i := 2) rfl rfl rfl rfl ?_
        refine xA.aload_n (i := 0) rfl rfl rfl rfl ?_
        refine xA.aload_n (i := 1) rfl rfl rfl rfl ?_
        refine xA.iload_n (i := 3) rfl rfl rfl rfl ?_
        refine xA.callVi (As := [_]) rfl k7_45 okX3_spotAt hl.1 rfl rfl rfl (Nat.le_of_ble_eq_true rfl) (c_X3_spotAt (d + 1) S G l hl n i hn hi h17) rfl rfl ?_
        refine xA.callVi (As := [_]) rfl k7_48 okX7_doneAt hk.1 rfl rfl rfl (Nat.le_of_ble_eq_true rfl) (c_X7_doneAt d S G k hk nt hnt h5 _) rfl rfl ?_
        refine xA.ior rfl rfl ?_
        refine xA.istore_n (i := 2) (L' := [_, _, _, _]) rfl rfl (Nat.le_of_ble_eq_true rfl) rfl rfl ?_
        refine xA.iinc (L' := [_, _, _, _]) rfl rfl (nI_1 i) rfl rfl ?_
        refine xA.goto (q := 4) rfl rfl ?_
        exact ih
    · skip
      refine xA.iload_n (i := 3) rfl rfl rfl rfl ?_
      refine xA.aload_n (i := 1) rfl rfl rfl rfl ?_
      refine xA.callVi (As := []) rfl k7_39 okX3_selves hl.1 rfl rfl rfl (Nat.le_of_ble_eq_true rfl) (c_X3_selves (d + 1) S G l hl) rfl rfl ?_
      refine xA.topi hn ?_
      refine xA.icmp_ge (tgt := 30) rfl rfl rfl (fun h9 => ?_) (fun h9 => ?_)
      · refine xA.iload_n (i := 2) rfl rfl rfl rfl ?_
        exact xA.iret rfl rfl rfl ⟨rfl, rfl⟩
      · exact absurd (nI_le (Nat.le_refl _) (by omega)) h9
  refine xA.iconst (v := 0) rfl (by decide) rfl ?_
  refine xA.istore_n (i := 2) (L' := [_, _, _, _]) rfl rfl (Nat.le_of_ble_eq_true rfl) rfl rfl ?_
  refine xA.iconst (v := 0) rfl (by decide) rfl ?_
  refine xA.istore_n (i := 3) (L' := [_, _, _, _]) rfl rfl (Nat.le_of_ble_eq_true rfl) rfl rfl ?_
  exact loop 0 (Nat.zero_le _)
theorem cn0_f {f : Nat → Bool} {i : Nat} (h : cn f i = 0) (hf : f i = false) : cn f (i + 1) = 0 := by simp [cn, h, hf]
theorem cn_ne0 {f : Nat → Bool} {i n : Nat} (hi : i < n) (hf : f i = true) : ¬ cn f n = 0 := by
  have := cn_pos.mpr ⟨i, hi, hf⟩
  omega
/-- how many selves of a life are at a spot -/
def cnS (S : Nat → Nat → Int32) (l n : Nat) (x : Int32) : Nat := cn (fun j => decide (S (l + 1) j = x)) n
theorem cnS_le (S : Nat → Nat → Int32) (l n : Nat) (x : Int32) : cnS S l n x ≤ n := cn_le _ _

set_option maxRecDepth 100000 in
set_option maxHeartbeats 400000 in
theorem c_X0_areAllOf (d : Nat) (S : Nat → Nat → Int32) (G : Nat → Nat → Int64) (k : Nat) (hk : isGlim τ k) (g : Nat) (hg : S k 1 = nI g) (h8 : g ≤ 8) (l : Nat) (hl : isLife τ l) (n : Nat) (hn : S l 1 = nI n) (h17 : n ≤ 17) : xR τ (d + 2) mX0_areAllOf [.ref k, .ref l] S G (some (.int (xb (cn (fun q => decide (cnS S l n (S (k + 1) q) = 0)) g = 0)))) S G := by
  refine xC.of okX0_areAllOf (Nat.le_of_ble_eq_true rfl) (L := [_, _, _]) rfl ?_
  have loop : ∀ i, i ≤ g → cn (fun q => decide (cnS S l n (S (k + 1) q) = 0)) i = 0 → xA none (d + 2) mX0_areAllOf 0 0 0 0 2 [some (.ref k), some (.ref l), some (.int (nI i))] [] ((σF τ), S, G) (fun r' h' => r' = (some (.int (xb (cn (fun q => decide (cnS S l n (S (k + 1) q) = 0)) g = 0)))) ∧ h' = ((σF τ), S, G)) := by
    refine xloop g (fun i hi ih => ?_) ?_
    · skip
      intro hc
      refine xA.iload_n (i := 2) rfl rfl rfl rfl ?_
      refine xA.aload_n (i := 0) rfl rfl rfl rfl ?_
      refine xA.getI rfl f0_15 hk.1 rfl rfl ?_
      refine xA.topi (hg) ?_
      refine xA.icmp_ge (tgt := 40) rfl rfl rfl (fun h7 => ?_) (fun h7 => ?_)
      · exact absurd h7 (nI_ge hi (by omega))
      · refine xA.iload_n (i := 2) rfl rfl rfl rfl ?_
        refine xA.aload_n (i := 0) rfl rfl rfl rfl ?_
        refine xA.getR rfl f0_9 hk.1 rfl rfl rfl ?_
        refine xA.alen rfl hk.2 rfl ?_
        refine xA.icmp_ge (tgt := 40) rfl rfl rfl (fun h16 => ?_) (fun h16 => ?_)
        · exact absurd h16 (nI_ge (b := 8) (by omega) (by omega))
        · refine xA.aload_n (i := 1) rfl rfl rfl rfl ?_
          refine xA.aload_n (i := 0) rfl rfl rfl rfl ?_
          refine xA.getR rfl f0_9 hk.1 rfl rfl rfl ?_
          refine xA.iload_n (i := 2) rfl rfl rfl rfl ?_
          refine xA.iald rfl hk.2 (vp_in_nI (by omega) (by omega)) rfl ?_
          refine xA.topi (congrArg (S (k + 1)) (nI_clamp (by omega))) ?_
          refine xA.callVi (As := [_]) rfl k0_26 okX3_selvesAt hl.1 rfl rfl rfl (Nat.le_of_ble_eq_true rfl) (c_X3_selvesAt d S G l hl n hn h17 _) rfl rfl ?_
          have hb := cnS_le S l n (S (k + 1) i)
          change xA none _ _ _ _ _ _ _ _ [.int (nI (cnS S l n (S (k + 1) i)))] _ _
          refine xA.if_ne (tgt := 34) rfl rfl rfl (fun h29 => ?_) (fun h29 => ?_)
          · refine xA.iinc (L' := [_, _, _]) rfl rfl (nI_1 i) rfl rfl ?_
            refine xA.goto (q := 2) rfl rfl ?_
            have hf : (fun q => decide (cnS S l n (S (k + 1) q) = 0)) i = false := by
              have : ¬ cnS S l n (S (k + 1) i) = 0 := fun z => h29 (by rw [z]; rfl)
              simpa using this
            exact ih (cn0_f hc hf)
          · refine xA.iconst (v := 0) rfl (by decide) rfl ?_
            have hf : (fun q => decide (cnS S l n (S (k + 1) q) = 0)) i = true := by
              have := (nI_eq (b := 0) (by omega) (by omega)).mp h29
              simpa using this
            exact xA.iret rfl rfl rfl ⟨by rw [xb_f (cn_ne0 hi hf)], rfl⟩
    · skip
      intro hc
      refine xA.iload_n (i := 2) rfl rfl rfl rfl ?_
      refine xA.aload_n (i := 0) rfl rfl rfl rfl ?_
      refine xA.getI rfl f0_15 hk.1 rfl rfl ?_
      refine xA.topi (hg) ?_
      refine xA.icmp_ge (tgt := 40) rfl rfl rfl (fun h7 => ?_) (fun h7 => ?_)
      · refine xA.iconst (v := 1) rfl (by decide) rfl ?_
        exact xA.iret rfl rfl rfl ⟨by rw [xb_t (by omega)], rfl⟩
      · exact absurd (nI_le (Nat.le_refl _) (by omega)) h7
  refine xA.iconst (v := 0) rfl (by decide) rfl ?_
  refine xA.istore_n (i := 2) (L' := [_, _, _]) rfl rfl (Nat.le_of_ble_eq_true rfl) rfl rfl ?_
  exact loop 0 (Nat.zero_le _) rfl
set_option maxRecDepth 100000 in
set_option maxHeartbeats 400000 in
theorem c_X0_waysBetween (d : Nat) (S : Nat → Nat → Int32) (G : Nat → Nat → Int64) (k : Nat) (hk : isGlim τ k) (g : Nat) (hg : S k 1 = nI g) (h8 : g ≤ 8) (l : Nat) (hl : isLife τ l) (n : Nat) (hn : S l 1 = nI n) (h17 : n ≤ 17) (v : Nat) (hv : isLife τ v) (n2 : Nat) (hn2 : S v 1 = nI n2) (h172 : n2 ≤ 17) : xR τ (d + 2) mX0_waysBetween [.ref k, .ref l, .ref v] S G (some (.int (prI (fun q => (if 0 < cnS S l n (S (k + 1) q) then (1 : Int32) else 0) + (if 0 < cnS S v n2 (S (k + 1) q) then 1 else 0)) g))) S G := by
  refine xC.of okX0_waysBetween (Nat.le_of_ble_eq_true rfl) (L := [_, _, _, _, _, _]) rfl ?_
  have loop : ∀ i, i ≤ g → ∀ x5 : Option Value, xA none (d + 2) mX0_waysBetween 0 0 0 0 5 [some (.ref k), some (.ref l), some (.ref v), some (.int (prI (fun q => (if 0 < cnS S l n (S (k + 1) q) then (1 : Int32) else 0) + (if 0 < cnS S v n2 (S (k + 1) q) then 1 else 0)) i)), some (.int (nI i)), x5] [] ((σF τ), S, G) (fun r' h' => r' = (some (.int (prI (fun q => (if 0 < cnS S l n (S (k + 1) q) then (1 : Int32) else 0) + (if 0 < cnS S v n2 (S (k + 1) q) then 1 else 0)) g))) ∧ h' = ((σF τ), S, G)) := by
    refine xloop g (fun i hi ih => ?_) ?_
    · skip
      intro x5
      refine xA.iload rfl rfl rfl ?_
      refine xA.aload_n (i := 0) rfl rfl rfl rfl ?_
      refine xA.getI rfl f0_15 hk.1 rfl rfl ?_
      refine xA.topi (hg) ?_
      refine xA.icmp_ge (tgt := 80) rfl rfl rfl (fun h11 => ?_) (fun h11 => ?_)
      · exact absurd h11 (nI_ge hi (by omega))
      · refine xA.iload rfl rfl rfl ?_
        refine xA.aload_n (i := 0) rfl rfl rfl rfl ?_
        refine xA.getR rfl f0_9 hk.1 rfl rfl rfl ?_
        refine xA.alen rfl hk.2 rfl ?_
        refine xA.icmp_ge (tgt := 80) rfl rfl rfl (fun h21 => ?_) (fun h21 => ?_)
        · exact absurd h21 (nI_ge (b := 8) (by omega) (by omega))
        · refine xA.aload_n (i := 1) rfl rfl rfl rfl ?_
          refine xA.aload_n (i := 0) rfl rfl rfl rfl ?_
          refine xA.getR rfl f0_9 hk.1 rfl rfl rfl ?_
          refine xA.iload rfl rfl rfl ?_
          refine xA.iald rfl hk.2 (vp_in_nI (by omega) (by omega)) rfl ?_
          refine xA.topi (congrArg (S (k + 1)) (nI_clamp (by omega))) ?_
          refine xA.callVi (As := [_]) rfl k0_26 okX3_selvesAt hl.1 rfl rfl rfl (Nat.le_of_ble_eq_true rfl) (c_X3_selvesAt d S G l hl n hn h17 _) rfl rfl ?_
          have hb35 := cnS_le S l n (S (k + 1) i)
          change xA none _ _ _ _ _ _ _ _ (.int (nI (cnS S l n (S (k + 1) i))) :: _) _ _
          refine xA.if_le (tgt := 42) rfl rfl rfl (fun h35 => ?_) (fun h35 => ?_)
          · have e35 : ¬ 0 < cnS S l n (S (k + 1) i) := fun z => absurd h35 (nI_nle z (by omega))
            refine xA.iconst (v := 0) rfl (by decide) rfl ?_
            refine xA.istore (L' := [_, _, _, _, _, _]) rfl (Nat.le_of_ble_eq_true rfl) rfl rfl ?_
            refine xA.iload rfl rfl rfl ?_
            refine xA.aload_n (i := 2) rfl rfl rfl rfl ?_
            refine xA.aload_n (i := 0) rfl rfl rfl rfl ?_
            refine xA.getR rfl f0_9 hk.1 rfl rfl rfl ?_
            refine xA.iload rfl rfl rfl ?_
            refine xA.iald rfl hk.2 (vp_in_nI (by omega) (by omega)) rfl ?_
            refine xA.topi (congrArg (S (k + 1)) (nI_clamp (by omega))) ?_
            refine xA.callVi (As := [_]) rfl k0_26 okX3_selvesAt hv.1 rfl rfl rfl (Nat.le_of_ble_eq_true rfl) (c_X3_selvesAt d S G v hv n2 hn2 h172 _) rfl rfl ?_
            have hb58 := cnS_le S v n2 (S (k + 1) i)
            change xA none _ _ _ _ _ _ _ _ (.int (nI (cnS S v n2 (S (k + 1) i))) :: _) _ _
            refine xA.if_le (tgt := 65) rfl rfl rfl (fun h58 => ?_) (fun h58 => ?_)
            · have e58 : ¬ 0 < cnS S v n2 (S (k + 1) i) := fun z => absurd h58 (nI_nle z (by omega))
              refine xA.iconst (v := 0) rfl (by decide) rfl ?_
              refine xA.iadd rfl rfl ?_
              refine xA.istore (L' := [_, _, _, _, _, _]) rfl (Nat.le_of_ble_eq_true rfl) rfl rfl ?_
              refine xA.iload_n (i := 3) rfl rfl rfl rfl ?_
              refine xA.iload rfl rfl rfl ?_
              refine xA.imul rfl rfl ?_
              refine xA.istore_n (i := 3) (L' := [_, _, _, _, _, _]) rfl rfl (Nat.le_of_ble_eq_true rfl) rfl rfl ?_
              refine xA.iinc (L' := [_, _, _, _, _, _]) rfl rfl (nI_1 i) rfl rfl ?_
              refine xA.goto (q := 5) rfl rfl ?_
              have ih := ih (some (.int ((if 0 < cnS S l n (S (k + 1) i) then (1 : Int32) else 0) + (if 0 < cnS S v n2 (S (k + 1) i) then 1 else 0))))
              simp only [prI, e35, e58, if_true, if_false] at ih
              exact ih
            · have e58 : 0 < cnS S v n2 (S (k + 1) i) := nI_posi h58
              refine xA.iconst (v := 1) rfl (by decide) rfl ?_
              refine xA.goto (q := 66) rfl rfl ?_
              refine xA.iadd rfl rfl ?_
              refine xA.istore (L' := [_, _, _, _, _, _]) rfl (Nat.le_of_ble_eq_true rfl) rfl rfl ?_
              refine xA.iload_n (i := 3) rfl rfl rfl rfl ?_
              refine xA.iload rfl rfl rfl ?_
              refine xA.imul rfl rfl ?_
              refine xA.istore_n (i := 3) (L' := [_, _, _, _, _, _]) rfl rfl (Nat.le_of_ble_eq_true rfl) rfl rfl ?_
              refine xA.iinc (L' := [_, _, _, _, _, _]) rfl rfl (nI_1 i) rfl rfl ?_
              refine xA.goto (q := 5) rfl rfl ?_
              have ih := ih (some (.int ((if 0 < cnS S l n (S (k + 1) i) then (1 : Int32) else 0) + (if 0 < cnS S v n2 (S (k + 1) i) then 1 else 0))))
              simp only [prI, e35, e58, if_true, if_false] at ih
              exact ih
          · have e35 : 0 < cnS S l n (S (k + 1) i) := nI_posi h35
            refine xA.iconst (v := 1) rfl (by decide) rfl ?_
            refine xA.goto (q := 43) rfl rfl ?_
            refine xA.istore (L' := [_, _, _, _, _, _]) rfl (Nat.le_of_ble_eq_true rfl) rfl rfl ?_
            refine xA.iload rfl rfl rfl ?_
            refine xA.aload_n (i := 2) rfl rfl rfl rfl ?_
            refine xA.aload_n (i := 0) rfl rfl rfl rfl ?_
            refine xA.getR rfl f0_9 hk.1 rfl rfl rfl ?_
            refine xA.iload rfl rfl rfl ?_
            refine xA.iald rfl hk.2 (vp_in_nI (by omega) (by omega)) rfl ?_
            refine xA.topi (congrArg (S (k + 1)) (nI_clamp (by omega))) ?_
            refine xA.callVi (As := [_]) rfl k0_26 okX3_selvesAt hv.1 rfl rfl rfl (Nat.le_of_ble_eq_true rfl) (c_X3_selvesAt d S G v hv n2 hn2 h172 _) rfl rfl ?_
            have hb58 := cnS_le S v n2 (S (k + 1) i)
            change xA none _ _ _ _ _ _ _ _ (.int (nI (cnS S v n2 (S (k + 1) i))) :: _) _ _
            refine xA.if_le (tgt := 65) rfl rfl rfl (fun h58 => ?_) (fun h58 => ?_)
            · have e58 : ¬ 0 < cnS S v n2 (S (k + 1) i) := fun z => absurd h58 (nI_nle z (by omega))
              refine xA.iconst (v := 0) rfl (by decide) rfl ?_
              refine xA.iadd rfl rfl ?_
              refine xA.istore (L' := [_, _, _, _, _, _]) rfl (Nat.le_of_ble_eq_true rfl) rfl rfl ?_
              refine xA.iload_n (i := 3) rfl rfl rfl rfl ?_
              refine xA.iload rfl rfl rfl ?_
              refine xA.imul rfl rfl ?_
              refine xA.istore_n (i := 3) (L' := [_, _, _, _, _, _]) rfl rfl (Nat.le_of_ble_eq_true rfl) rfl rfl ?_
              refine xA.iinc (L' := [_, _, _, _, _, _]) rfl rfl (nI_1 i) rfl rfl ?_
              refine xA.goto (q := 5) rfl rfl ?_
              have ih := ih (some (.int ((if 0 < cnS S l n (S (k + 1) i) then (1 : Int32) else 0) + (if 0 < cnS S v n2 (S (k + 1) i) then 1 else 0))))
              simp only [prI, e35, e58, if_true, if_false] at ih
              exact ih
            · have e58 : 0 < cnS S v n2 (S (k + 1) i) := nI_posi h58
              refine xA.iconst (v := 1) rfl (by decide) rfl ?_
              refine xA.goto (q := 66) rfl rfl ?_
              refine xA.iadd rfl rfl ?_
              refine xA.istore (L' := [_, _, _, _, _, _]) rfl (Nat.le_of_ble_eq_true rfl) rfl rfl ?_
              refine xA.iload_n (i := 3) rfl rfl rfl rfl ?_
              refine xA.iload rfl rfl rfl ?_
              refine xA.imul rfl rfl ?_
              refine xA.istore_n (i := 3) (L' := [_, _, _, _, _, _]) rfl rfl (Nat.le_of_ble_eq_true rfl) rfl rfl ?_
              refine xA.iinc (L' := [_, _, _, _, _, _]) rfl rfl (nI_1 i) rfl rfl ?_
              refine xA.goto (q := 5) rfl rfl ?_
              have ih := ih (some (.int ((if 0 < cnS S l n (S (k + 1) i) then (1 : Int32) else 0) + (if 0 < cnS S v n2 (S (k + 1) i) then 1 else 0))))
              simp only [prI, e35, e58, if_true, if_false] at ih
              exact ih
    · skip
      intro x5
      refine xA.iload rfl rfl rfl ?_
      refine xA.aload_n (i := 0) rfl rfl rfl rfl ?_
      refine xA.getI rfl f0_15 hk.1 rfl rfl ?_
      refine xA.topi (hg) ?_
      refine xA.icmp_ge (tgt := 80) rfl rfl rfl (fun h11 => ?_) (fun h11 => ?_)
      · refine xA.iload_n (i := 3) rfl rfl rfl rfl ?_
        exact xA.iret rfl rfl rfl ⟨rfl, rfl⟩
      · exact absurd (nI_le (Nat.le_refl _) (by omega)) h11
  refine xA.iconst (v := 1) rfl (by decide) rfl ?_
  refine xA.istore_n (i := 3) (L' := [_, _, _, _, _, _]) rfl rfl (Nat.le_of_ble_eq_true rfl) rfl rfl ?_
  refine xA.iconst (v := 0) rfl (by decide) rfl ?_
  refine xA.istore (L' := [_, _, _, _, _, _]) rfl (Nat.le_of_ble_eq_true rfl) rfl rfl ?_
  exact loop 0 (Nat.zero_le _) _
end
section
variable {τ : List xSh}
/-! ===== the house read ===== -/
/-- a house as far as it is read: stage, doors, sights, low door's room, back, first digit; the doors' numbers, what is seen, the doors' rooms -/
abbrev hS : Type := Nat × Nat × Nat × Nat × Nat × Nat × (Nat → Nat) × (Nat → Nat) × (Nat → Nat) × (Nat → Nat)
abbrev hSt (h : hS) : Nat := h.1
abbrev hNd (h : hS) : Nat := h.2.1
abbrev hNs (h : hS) : Nat := h.2.2.1
abbrev hLo (h : hS) : Nat := h.2.2.2.1
abbrev hBa (h : hS) : Nat := h.2.2.2.2.1
abbrev hFi (h : hS) : Nat := h.2.2.2.2.2.1
abbrev hD (h : hS) : Nat → Nat := h.2.2.2.2.2.2.1
abbrev hSr (h : hS) : Nat → Nat := h.2.2.2.2.2.2.2.1
abbrev hOn (h : hS) : Nat → Nat := h.2.2.2.2.2.2.2.2.1
abbrev hTw (h : hS) : Nat → Nat := h.2.2.2.2.2.2.2.2.2
def nu (f : Nat → Nat) (k v : Nat) : Nat → Nat := fun j => if j = k then v else f j
/-- a digit -/
def hdg (c lo hi : Nat) : Option Nat := if 48 + lo ≤ c ∧ c ≤ 48 + hi then some (c - 48) else none
theorem hdg_some {c lo hi v : Nat} (h : hdg c lo hi = some v) : lo ≤ v ∧ v ≤ hi ∧ c = 48 + v := by
  unfold hdg at h
  split at h
  · cases h; omega
  · cases h
theorem i32_sub48 {c : Nat} (hc : c ≤ 126) : (nI c - 48).toInt = (c : Int) - 48 := by
  rw [Int32.toInt_sub, nI_toInt (by omega), show (48 : Int32).toInt = 48 from rfl, Int.bmod_def]
  split <;> omega
theorem i32_sub48n {c : Nat} (h : 48 ≤ c) : nI c - 48 = nI (c - 48) := nI_sub (b := 48) h
theorem xdig_nI {c : Nat} (lo hi : Nat) (hc : c ≤ 126) (hl : lo ≤ 9) (hh : hi ≤ 9) : xdig (nI c) (nI lo) (nI hi) = oI (hdg c lo hi) := by
  unfold xdig hdg
  by_cases h : 48 + lo ≤ c ∧ c ≤ 48 + hi
  · rw [if_pos h, if_pos, i32_sub48n (by omega)]
    · rfl
    · rw [Int32.le_iff_toInt_le, Int32.le_iff_toInt_le, i32_sub48 hc, nI_toInt (by omega), nI_toInt (by omega)]
      omega
  · rw [if_neg h, if_neg]
    · rfl
    · rw [Int32.le_iff_toInt_le, Int32.le_iff_toInt_le, i32_sub48 hc, nI_toInt (by omega), nI_toInt (by omega)]
      omega
theorem oI_m1 {o : Option Nat} (h : ∀ v, o = some v → v < 2 ^ 31) : oI o = -1 ↔ o = none := by
  cases o with
  | none => simp [oI]
  | some v => simp only [oI, reduceCtorEq, iff_false]; exact nI_m1 (h v rfl)

/-- one letter more -/
def hstep (h : hS) (c : Nat) : Option hS :=
  if hSt h = 0 ∨ hSt h = 6 then (hdg c 0 5).map (fun v => (hSt h + 1, hNd h, hNs h, hLo h, hBa h, v, hD h, hSr h, hOn h, hTw h))
  else if hSt h = 1 then (hdg c 0 5).bind (fun v => if v ≠ hFi h ∧ hD h (hFi h * 6 + v) = 0 then some (2, hNd h + 1, hNs h, hLo h, hBa h, hFi h, nu (nu (hD h) (hFi h * 6 + v) (hNd h + 1)) (v * 6 + hFi h) (hNd h + 1), hSr h, nu (hOn h) (hNd h) (hFi h), nu (hTw h) (hNd h) v) else none)
  else if hSt h = 2 then (if c = 59 then some (3, h.2) else if c = 44 ∧ hNd h < 10 then some (0, h.2) else none)
  else if hSt h = 3 then (hdg c 0 5).map (fun v => (4, hNd h, hNs h, v, hBa h, hFi h, hD h, hSr h, hOn h, hTw h))
  else if hSt h = 4 then (hdg c 1 9).map (fun v => (5, hNd h, hNs h, hLo h, v, hFi h, hD h, hSr h, hOn h, hTw h))
  else if hSt h = 5 then (if c = 59 then some (6, h.2) else none)
  else if hSt h = 7 then (hdg c 0 5).bind (fun v => if v ≠ hFi h ∧ (hSr h (hFi h)).testBit v = false then some (8, hNd h, hNs h + 1, hLo h, hBa h, hFi h, hD h, nu (nu (hSr h) (hFi h) (hSr h (hFi h) ||| 2 ^ v)) v (hSr h v ||| 2 ^ hFi h), hOn h, hTw h) else none)
  else if c = 44 ∧ hNs h < 4 then some (6, h.2) else none
def h0 : hS := (0, 0, 0, 0, 0, 0, fun _ => 0, fun _ => 0, fun _ => 0, fun _ => 0)
/-- what holds of every house so far -/
def hOk (h : hS) : Prop := hSt h ≤ 8 ∧ hNd h ≤ 10 ∧ (hSt h ≤ 1 → hNd h < 10) ∧ hNs h ≤ 4 ∧ (hSt h ≤ 7 → hNs h < 4) ∧ (4 ≤ hSt h → hLo h < 6) ∧ (5 ≤ hSt h → 1 ≤ hBa h ∧ hBa h ≤ 9) ∧ ((hSt h = 1 ∨ hSt h = 7) → hFi h < 6) ∧
  (∀ a, hSr h a < 64) ∧ (∀ a b, a < 6 → b < 6 → (hSr h a).testBit b = (hSr h b).testBit a) ∧
  (∀ a b, a < 6 → b < 6 → hD h (a * 6 + b) = hD h (b * 6 + a) ∧ hD h (a * 6 + b) ≤ hNd h) ∧ (∀ a, a < 6 → hD h (a * 6 + a) = 0) ∧
  (∀ j, j < hNd h → hOn h j < 6 ∧ hTw h j < 6 ∧ hD h (hOn h j * 6 + hTw h j) = j + 1) ∧
  (∀ a b j, a < 6 → b < 6 → hD h (a * 6 + b) = j + 1 → (a = hOn h j ∧ b = hTw h j) ∨ (a = hTw h j ∧ b = hOn h j)) ∧ (2 ≤ hSt h → 1 ≤ hNd h)
/-- the class's house k holds it -/
def hC (S : Nat → Nat → Int32) (k : Nat) (h : hS) : Prop := S k 6 = nI (hSt h) ∧ S k 2 = nI (hNd h) ∧ S k 3 = nI (hNs h) ∧ (4 ≤ hSt h → S k 4 = nI (hLo h)) ∧ (5 ≤ hSt h → S k 5 = nI (hBa h)) ∧ ((hSt h = 1 ∨ hSt h = 7) → S k 7 = nI (hFi h)) ∧ (∀ a, a < 36 → S (k + 1) a = nI (hD h a)) ∧ (∀ a, a < 6 → S (k + 2) a = nI (hSr h a))
/-- nothing changed but cells k .. k + w - 1 -/
def frW (k w : Nat) (S S' : Nat → Nat → Int32) : Prop := ∀ j, (j < k ∨ k + w ≤ j) → S' j = S j
theorem nI_or (a b : Nat) : nI a ||| nI b = nI (a ||| b) := by
  unfold nI
  apply Int32.toBitVec_inj.mp
  simp
theorem nI_and (a b : Nat) : nI a &&& nI b = nI (a &&& b) := by
  unfold nI
  apply Int32.toBitVec_inj.mp
  simp
theorem nI_shl : ∀ b, b < 16 → (1 : Int32) <<< (nI b &&& 31) = nI (2 ^ b) := by decide +kernel
theorem bt_nI : ∀ x, x < 64 → ∀ b, b < 6 → (bt (nI x) (nI b) ↔ x.testBit b = true) := by decide +kernel
theorem or_lt64 {a b : Nat} (ha : a < 64) (hb : b < 6) : a ||| 2 ^ b < 64 := Nat.or_lt_two_pow (n := 6) ha (by have := Nat.pow_lt_pow_right (a := 2) (by decide) hb; simpa using this)

def hcS (S : Nat → Nat → Int32) (k n m : Nat) : Nat → Nat → Int32 := fun j i => if j = k + 1 then (if i < n then 0 else S j i) else if j = k + 2 then (if i < m then 0 else S j i) else S j i
def hcE (S : Nat → Nat → Int32) (k : Nat) : Nat → Nat → Int32 := xu (xu (xu (xu (xu (hcS S k 36 6) k 2 0) k 3 0) k 4 (-1)) k 5 0) k 6 0

set_option maxRecDepth 100000 in
set_option maxHeartbeats 400000 in
theorem c_X1_clear (d : Nat) (S : Nat → Nat → Int32) (G : Nat → Nat → Int64) (k : Nat) (hk : isHouse τ k) : xR τ d mX1_clear [.ref k] S G none (hcE S k) G := by
  refine xC.of okX1_clear (Nat.le_of_ble_eq_true rfl) (L := [_, _]) rfl ?_
  have loop2 : ∀ i, i ≤ 6 → xA none d mX1_clear 0 0 0 0 26 [some (.ref k), some (.int (nI i))] [] ((σF τ), hcS S k 36 i, G) (fun r' h' => r' = none ∧ h' = ((σF τ), hcE S k, G)) := by
    refine xloop 6 (fun i hi ih => ?_) ?_
    · skip
      refine xA.iload_n (i := 1) rfl rfl rfl rfl ?_
      refine xA.aload_n (i := 0) rfl rfl rfl rfl ?_
      refine xA.getR rfl f1_15 hk.1 rfl rfl rfl ?_
      refine xA.alen rfl hk.2.2 rfl ?_
      refine xA.icmp_ge (tgt := 48) rfl rfl rfl (fun h32 => ?_) (fun h32 => ?_)
      · exact absurd h32 (nI_ge hi (by omega))
      · refine xA.aload_n (i := 0) rfl rfl rfl rfl ?_
        refine xA.getR rfl f1_15 hk.1 rfl rfl rfl ?_
        refine xA.iload_n (i := 1) rfl rfl rfl rfl ?_
        refine xA.iconst (v := 0) rfl (by decide) rfl ?_
        refine xA.iast rfl hk.2.2 (vp_in_nI (by omega) (by omega)) rfl ?_
        rw [nI_clamp (by omega)]
        refine xA.iinc (L' := [_, _]) rfl rfl (nI_1 i) rfl rfl ?_
        refine xA.goto (q := 26) rfl rfl ?_
        refine xA.store (S' := hcS S k 36 (i + 1)) (by funext j i; simp only [hcS, xu]; repeat (first | split | (exfalso; omega) | rfl | simp_all)) ih
    · skip
      refine xA.iload_n (i := 1) rfl rfl rfl rfl ?_
      refine xA.aload_n (i := 0) rfl rfl rfl rfl ?_
      refine xA.getR rfl f1_15 hk.1 rfl rfl rfl ?_
      refine xA.alen rfl hk.2.2 rfl ?_
      refine xA.icmp_ge (tgt := 48) rfl rfl rfl (fun h32 => ?_) (fun h32 => ?_)
      · refine xA.aload_n (i := 0) rfl rfl rfl rfl ?_
        refine xA.iconst (v := 0) rfl (by decide) rfl ?_
        refine xA.putI rfl p1_42 hk.1 rfl rfl ?_
        refine xA.aload_n (i := 0) rfl rfl rfl rfl ?_
        refine xA.iconst (v := 0) rfl (by decide) rfl ?_
        refine xA.putI rfl p1_45 hk.1 rfl rfl ?_
        refine xA.aload_n (i := 0) rfl rfl rfl rfl ?_
        refine xA.iconst (v := (-1)) rfl (by decide) rfl ?_
        refine xA.putI rfl p1_18 hk.1 rfl rfl ?_
        refine xA.aload_n (i := 0) rfl rfl rfl rfl ?_
        refine xA.iconst (v := 0) rfl (by decide) rfl ?_
        refine xA.putI rfl p1_48 hk.1 rfl rfl ?_
        refine xA.aload_n (i := 0) rfl rfl rfl rfl ?_
        refine xA.iconst (v := 0) rfl (by decide) rfl ?_
        refine xA.putI rfl p1_39 hk.1 rfl rfl ?_
        exact xA.vret rfl rfl ⟨rfl, rfl⟩
      · exact absurd (nI_le (Nat.le_refl _) (by omega)) h32
  have loop1 : ∀ i, i ≤ 36 → xA none d mX1_clear 0 0 0 0 2 [some (.ref k), some (.int (nI i))] [] ((σF τ), hcS S k i 0, G) (fun r' h' => r' = none ∧ h' = ((σF τ), hcE S k, G)) := by
    refine xloop 36 (fun i hi ih => ?_) ?_
    · skip
      refine xA.iload_n (i := 1) rfl rfl rfl rfl ?_
      refine xA.aload_n (i := 0) rfl rfl rfl rfl ?_
      refine xA.getR rfl f1_9 hk.1 rfl rfl rfl ?_
      refine xA.alen rfl hk.2.1 rfl ?_
      refine xA.icmp_ge (tgt := 24) rfl rfl rfl (fun h8 => ?_) (fun h8 => ?_)
      · exact absurd h8 (nI_ge hi (by omega))
      · refine xA.aload_n (i := 0) rfl rfl rfl rfl ?_
        refine xA.getR rfl f1_9 hk.1 rfl rfl rfl ?_
        refine xA.iload_n (i := 1) rfl rfl rfl rfl ?_
        refine xA.iconst (v := 0) rfl (by decide) rfl ?_
        refine xA.iast rfl hk.2.1 (vp_in_nI (by omega) (by omega)) rfl ?_
        rw [nI_clamp (by omega)]
        refine xA.iinc (L' := [_, _]) rfl rfl (nI_1 i) rfl rfl ?_
        refine xA.goto (q := 2) rfl rfl ?_
        refine xA.store (S' := hcS S k (i + 1) 0) (by funext j i; simp only [hcS, xu]; repeat (first | split | (exfalso; omega) | rfl | simp_all)) ih
    · skip
      refine xA.iload_n (i := 1) rfl rfl rfl rfl ?_
      refine xA.aload_n (i := 0) rfl rfl rfl rfl ?_
      refine xA.getR rfl f1_9 hk.1 rfl rfl rfl ?_
      refine xA.alen rfl hk.2.1 rfl ?_
      refine xA.icmp_ge (tgt := 24) rfl rfl rfl (fun h8 => ?_) (fun h8 => ?_)
      · refine xA.iconst (v := 0) rfl (by decide) rfl ?_
        refine xA.istore_n (i := 1) (L' := [_, _]) rfl rfl (Nat.le_of_ble_eq_true rfl) rfl rfl ?_
        exact loop2 0 (Nat.zero_le _)
      · exact absurd (nI_le (Nat.le_refl _) (by omega)) h8
  refine xA.iconst (v := 0) rfl (by decide) rfl ?_
  refine xA.istore_n (i := 1) (L' := [_, _]) rfl rfl (Nat.le_of_ble_eq_true rfl) rfl rfl ?_
  refine xA.store (S' := hcS S k 0 0) (by funext j i; simp only [hcS, xu]; repeat (first | split | (exfalso; omega) | rfl | simp_all)) (loop1 0 (Nat.zero_le _))
set_option maxRecDepth 100000 in
set_option maxHeartbeats 400000 in
theorem c_X1_goesOn1 (d : Nat) (S : Nat → Nat → Int32) (G : Nat → Nat → Int64) (k : Nat) (hk : isHouse τ k) (x : Int32) : xR τ d mX1_goesOn [.ref k, .int 1, .int x] S G (some (.int 1)) (xu S k 6 x) G := by
  refine xC.of okX1_goesOn (Nat.le_of_ble_eq_true rfl) (L := [_, _, _]) rfl ?_
  refine xA.iload_n (i := 1) rfl rfl rfl rfl ?_
  refine xA.if_eq (tgt := 9) rfl rfl rfl (fun h1 => ?_) (fun h1 => ?_)
  · exact absurd h1 (by decide)
  · refine xA.aload_n (i := 0) rfl rfl rfl rfl ?_
    refine xA.iload_n (i := 2) rfl rfl rfl rfl ?_
    refine xA.putI rfl p1_39 hk.1 rfl rfl ?_
    refine xA.iload_n (i := 1) rfl rfl rfl rfl ?_
    exact xA.iret rfl rfl rfl ⟨rfl, rfl⟩
set_option maxRecDepth 100000 in
set_option maxHeartbeats 400000 in
theorem c_X1_goesOn0 (d : Nat) (S : Nat → Nat → Int32) (G : Nat → Nat → Int64) (k : Nat) (hk : isHouse τ k) (x : Int32) : xR τ d mX1_goesOn [.ref k, .int 0, .int x] S G (some (.int 0)) S G := by
  refine xC.of okX1_goesOn (Nat.le_of_ble_eq_true rfl) (L := [_, _, _]) rfl ?_
  refine xA.iload_n (i := 1) rfl rfl rfl rfl ?_
  refine xA.if_eq (tgt := 9) rfl rfl rfl (fun h1 => ?_) (fun h1 => ?_)
  · refine xA.iload_n (i := 1) rfl rfl rfl rfl ?_
    exact xA.iret rfl rfl rfl ⟨rfl, rfl⟩
  · exact absurd rfl h1
set_option maxRecDepth 100000 in
set_option maxHeartbeats 400000 in
theorem c_X1_addsDoorN (d : Nat) (S : Nat → Nat → Int32) (G : Nat → Nat → Int64) (k : Nat) (hk : isHouse τ k) (a b : Nat) (ha : a < 6) : xR τ (d + 2) mX1_addsDoor [.ref k, .int (nI a), .int (-1)] S G (some (.int 0)) S G := by
  refine xC.of okX1_addsDoor (Nat.le_of_ble_eq_true rfl) (L := [_, _, _]) rfl ?_
  refine xA.iload_n (i := 1) rfl rfl rfl rfl ?_
  refine xA.callSNi (As := [_]) rfl k1_72 okX9_isRoom rfl rfl (Nat.le_of_ble_eq_true rfl) (c_X9_isRoom (d + 1) S G _) rfl rfl ?_
  refine xA.if_eq (tgt := 29) rfl rfl rfl (fun h4 => ?_) (fun h4 => ?_)
  · exact absurd h4 (xb_ne0.mpr (rg_of ha (by omega)))
  · refine xA.iload_n (i := 2) rfl rfl rfl rfl ?_
    refine xA.callSNi (As := [_]) rfl k1_72 okX9_isRoom rfl rfl (Nat.le_of_ble_eq_true rfl) (c_X9_isRoom (d + 1) S G _) rfl rfl ?_
    refine xA.if_eq (tgt := 29) rfl rfl rfl (fun h11 => ?_) (fun h11 => ?_)
    · refine xA.iconst (v := 0) rfl (by decide) rfl ?_
      exact xA.iret rfl rfl rfl ⟨rfl, rfl⟩
    · exact absurd (xb_f (by decide)) h11
set_option maxRecDepth 100000 in
set_option maxHeartbeats 400000 in
theorem c_X1_addsDoorF (d : Nat) (S : Nat → Nat → Int32) (G : Nat → Nat → Int64) (k : Nat) (hk : isHouse τ k) (a b : Nat) (ha : a < 6) (hb : b < 6) (hn : b = a ∨ ¬ S (k + 1) (a * 6 + b) = 0) : xR τ (d + 2) mX1_addsDoor [.ref k, .int (nI a), .int (nI b)] S G (some (.int 0)) S G := by
  refine xC.of okX1_addsDoor (Nat.le_of_ble_eq_true rfl) (L := [_, _, _]) rfl ?_
  refine xA.iload_n (i := 1) rfl rfl rfl rfl ?_
  refine xA.callSNi (As := [_]) rfl k1_72 okX9_isRoom rfl rfl (Nat.le_of_ble_eq_true rfl) (c_X9_isRoom (d + 1) S G _) rfl rfl ?_
  refine xA.if_eq (tgt := 29) rfl rfl rfl (fun h4 => ?_) (fun h4 => ?_)
  · exact absurd h4 (xb_ne0.mpr (rg_of ha (by omega)))
  · refine xA.iload_n (i := 2) rfl rfl rfl rfl ?_
    refine xA.callSNi (As := [_]) rfl k1_72 okX9_isRoom rfl rfl (Nat.le_of_ble_eq_true rfl) (c_X9_isRoom (d + 1) S G _) rfl rfl ?_
    refine xA.if_eq (tgt := 29) rfl rfl rfl (fun h11 => ?_) (fun h11 => ?_)
    · exact absurd h11 (xb_ne0.mpr (rg_of hb (by omega)))
    · refine xA.iload_n (i := 1) rfl rfl rfl rfl ?_
      refine xA.iload_n (i := 2) rfl rfl rfl rfl ?_
      refine xA.icmp_eq (tgt := 29) rfl rfl rfl (fun h16 => ?_) (fun h16 => ?_)
      · refine xA.iconst (v := 0) rfl (by decide) rfl ?_
        exact xA.iret rfl rfl rfl ⟨rfl, rfl⟩
      · refine xA.aload_n (i := 0) rfl rfl rfl rfl ?_
        refine xA.iload_n (i := 1) rfl rfl rfl rfl ?_
        refine xA.iload_n (i := 2) rfl rfl rfl rfl ?_
        refine xA.callVi (As := [_, _]) rfl k1_75 okX1_doorBetween hk.1 rfl rfl rfl (Nat.le_of_ble_eq_true rfl) (c_X1_doorBetween d S G k hk a b ha hb) rfl rfl ?_
        refine xA.iconst (v := (-1)) rfl (by decide) rfl ?_
        refine xA.icmp_eq (tgt := 31) rfl rfl rfl (fun h26 => ?_) (fun h26 => ?_)
        · rcases hn with hn | hn
          · exact absurd (by rw [hn]) h16
          · exact absurd (i32_sub1.mp h26) hn
        · refine xA.iconst (v := 0) rfl (by decide) rfl ?_
          exact xA.iret rfl rfl rfl ⟨rfl, rfl⟩
set_option maxRecDepth 100000 in
set_option maxHeartbeats 400000 in
theorem c_X1_addsDoorT (d : Nat) (S : Nat → Nat → Int32) (G : Nat → Nat → Int64) (k : Nat) (hk : isHouse τ k) (a b : Nat) (ha : a < 6) (hb : b < 6) (hn1 : ¬ b = a) (hn2 : S (k + 1) (a * 6 + b) = 0) (nd : Nat) (hnd : S k 2 = nI nd) : xR τ (d + 2) mX1_addsDoor [.ref k, .int (nI a), .int (nI b)] S G (some (.int 1)) (xu (xu (xu S k 2 (nI (nd + 1))) (k + 1) (a * 6 + b) (nI (nd + 1))) (k + 1) (b * 6 + a) (nI (nd + 1))) G := by
  refine xC.of okX1_addsDoor (Nat.le_of_ble_eq_true rfl) (L := [_, _, _]) rfl ?_
  refine xA.iload_n (i := 1) rfl rfl rfl rfl ?_
  refine xA.callSNi (As := [_]) rfl k1_72 okX9_isRoom rfl rfl (Nat.le_of_ble_eq_true rfl) (c_X9_isRoom (d + 1) S G _) rfl rfl ?_
  refine xA.if_eq (tgt := 29) rfl rfl rfl (fun h4 => ?_) (fun h4 => ?_)
  · exact absurd h4 (xb_ne0.mpr (rg_of ha (by omega)))
  · refine xA.iload_n (i := 2) rfl rfl rfl rfl ?_
    refine xA.callSNi (As := [_]) rfl k1_72 okX9_isRoom rfl rfl (Nat.le_of_ble_eq_true rfl) (c_X9_isRoom (d + 1) S G _) rfl rfl ?_
    refine xA.if_eq (tgt := 29) rfl rfl rfl (fun h11 => ?_) (fun h11 => ?_)
    · exact absurd h11 (xb_ne0.mpr (rg_of hb (by omega)))
    · refine xA.iload_n (i := 1) rfl rfl rfl rfl ?_
      refine xA.iload_n (i := 2) rfl rfl rfl rfl ?_
      refine xA.icmp_eq (tgt := 29) rfl rfl rfl (fun h16 => ?_) (fun h16 => ?_)
      · exact absurd ((nI_eq (by omega) (by omega)).mp h16).symm hn1
      · refine xA.aload_n (i := 0) rfl rfl rfl rfl ?_
        refine xA.iload_n (i := 1) rfl rfl rfl rfl ?_
        refine xA.iload_n (i := 2) rfl rfl rfl rfl ?_
        refine xA.callVi (As := [_, _]) rfl k1_75 okX1_doorBetween hk.1 rfl rfl rfl (Nat.le_of_ble_eq_true rfl) (c_X1_doorBetween d S G k hk a b ha hb) rfl rfl ?_
        refine xA.iconst (v := (-1)) rfl (by decide) rfl ?_
        refine xA.icmp_eq (tgt := 31) rfl rfl rfl (fun h26 => ?_) (fun h26 => ?_)
        · refine xA.aload_n (i := 0) rfl rfl rfl rfl ?_
          refine xA.dup rfl rfl rfl ?_
          refine xA.getI rfl f1_42 hk.1 rfl rfl ?_
          refine xA.topi (hnd) ?_
          refine xA.iconst (v := 1) rfl (by decide) rfl ?_
          refine xA.iadd rfl rfl ?_
          refine xA.topi (nI_1 nd) ?_
          refine xA.putI rfl p1_42 hk.1 rfl rfl ?_
          refine xA.aload_n (i := 0) rfl rfl rfl rfl ?_
          refine xA.getR rfl f1_9 hk.1 rfl rfl rfl ?_
          refine xA.iload_n (i := 1) rfl rfl rfl rfl ?_
          refine xA.bipush (v := 6) rfl (by decide) rfl ?_
          refine xA.imul rfl rfl ?_
          refine xA.iload_n (i := 2) rfl rfl rfl rfl ?_
          refine xA.iadd rfl rfl ?_
          refine xA.topi (nI_spot a b) ?_
          refine xA.aload_n (i := 0) rfl rfl rfl rfl ?_
          refine xA.getI rfl f1_42 hk.1 rfl rfl ?_
          refine xA.topi (xu_same) ?_
          refine xA.iast rfl hk.2.1 (vp_in_nI (by omega) (by omega)) rfl ?_
          rw [nI_clamp (by omega)]
          refine xA.aload_n (i := 0) rfl rfl rfl rfl ?_
          refine xA.getR rfl f1_9 hk.1 rfl rfl rfl ?_
          refine xA.iload_n (i := 2) rfl rfl rfl rfl ?_
          refine xA.bipush (v := 6) rfl (by decide) rfl ?_
          refine xA.imul rfl rfl ?_
          refine xA.iload_n (i := 1) rfl rfl rfl rfl ?_
          refine xA.iadd rfl rfl ?_
          refine xA.topi (nI_spot b a) ?_
          refine xA.aload_n (i := 0) rfl rfl rfl rfl ?_
          refine xA.getI rfl f1_42 hk.1 rfl rfl ?_
          refine xA.topi (((xu_ne1 (by omega)).trans xu_same : _ = nI (nd + 1))) ?_
          refine xA.iast rfl hk.2.1 (vp_in_nI (by omega) (by omega)) rfl ?_
          rw [nI_clamp (by omega)]
          refine xA.iconst (v := 1) rfl (by decide) rfl ?_
          exact xA.iret rfl rfl rfl ⟨rfl, rfl⟩
        · exact absurd (i32_sub1.mpr hn2) h26
set_option maxRecDepth 100000 in
set_option maxHeartbeats 400000 in
theorem c_X1_addsSightN (d : Nat) (S : Nat → Nat → Int32) (G : Nat → Nat → Int64) (k : Nat) (hk : isHouse τ k) (a b : Nat) (ha : a < 6) : xR τ (d + 2) mX1_addsSight [.ref k, .int (nI a), .int (-1)] S G (some (.int 0)) S G := by
  refine xC.of okX1_addsSight (Nat.le_of_ble_eq_true rfl) (L := [_, _, _]) rfl ?_
  refine xA.iload_n (i := 1) rfl rfl rfl rfl ?_
  refine xA.callSNi (As := [_]) rfl k1_72 okX9_isRoom rfl rfl (Nat.le_of_ble_eq_true rfl) (c_X9_isRoom (d + 1) S G _) rfl rfl ?_
  refine xA.if_eq (tgt := 28) rfl rfl rfl (fun h4 => ?_) (fun h4 => ?_)
  · exact absurd h4 (xb_ne0.mpr (rg_of ha (by omega)))
  · refine xA.iload_n (i := 2) rfl rfl rfl rfl ?_
    refine xA.callSNi (As := [_]) rfl k1_72 okX9_isRoom rfl rfl (Nat.le_of_ble_eq_true rfl) (c_X9_isRoom (d + 1) S G _) rfl rfl ?_
    refine xA.if_eq (tgt := 28) rfl rfl rfl (fun h11 => ?_) (fun h11 => ?_)
    · refine xA.iconst (v := 0) rfl (by decide) rfl ?_
      exact xA.iret rfl rfl rfl ⟨rfl, rfl⟩
    · exact absurd (xb_f (by decide)) h11
set_option maxRecDepth 100000 in
set_option maxHeartbeats 400000 in
theorem c_X1_addsSightF (d : Nat) (S : Nat → Nat → Int32) (G : Nat → Nat → Int64) (k : Nat) (hk : isHouse τ k) (a b : Nat) (ha : a < 6) (hb : b < 6) (hn : b = a ∨ bt (S (k + 2) a) (nI b)) : xR τ (d + 2) mX1_addsSight [.ref k, .int (nI a), .int (nI b)] S G (some (.int 0)) S G := by
  refine xC.of okX1_addsSight (Nat.le_of_ble_eq_true rfl) (L := [_, _, _]) rfl ?_
  refine xA.iload_n (i := 1) rfl rfl rfl rfl ?_
  refine xA.callSNi (As := [_]) rfl k1_72 okX9_isRoom rfl rfl (Nat.le_of_ble_eq_true rfl) (c_X9_isRoom (d + 1) S G _) rfl rfl ?_
  refine xA.if_eq (tgt := 28) rfl rfl rfl (fun h4 => ?_) (fun h4 => ?_)
  · exact absurd h4 (xb_ne0.mpr (rg_of ha (by omega)))
  · refine xA.iload_n (i := 2) rfl rfl rfl rfl ?_
    refine xA.callSNi (As := [_]) rfl k1_72 okX9_isRoom rfl rfl (Nat.le_of_ble_eq_true rfl) (c_X9_isRoom (d + 1) S G _) rfl rfl ?_
    refine xA.if_eq (tgt := 28) rfl rfl rfl (fun h11 => ?_) (fun h11 => ?_)
    · exact absurd h11 (xb_ne0.mpr (rg_of hb (by omega)))
    · refine xA.iload_n (i := 1) rfl rfl rfl rfl ?_
      refine xA.iload_n (i := 2) rfl rfl rfl rfl ?_
      refine xA.icmp_eq (tgt := 28) rfl rfl rfl (fun h16 => ?_) (fun h16 => ?_)
      · refine xA.iconst (v := 0) rfl (by decide) rfl ?_
        exact xA.iret rfl rfl rfl ⟨rfl, rfl⟩
      · refine xA.aload_n (i := 0) rfl rfl rfl rfl ?_
        refine xA.iload_n (i := 1) rfl rfl rfl rfl ?_
        refine xA.iload_n (i := 2) rfl rfl rfl rfl ?_
        refine xA.callVi (As := [_, _]) rfl k1_79 okX1_isSeenFrom hk.1 rfl rfl rfl (Nat.le_of_ble_eq_true rfl) (c_X1_isSeenFrom d S G k hk a b ha hb) rfl rfl ?_
        refine xA.if_eq (tgt := 30) rfl rfl rfl (fun h25 => ?_) (fun h25 => ?_)
        · rcases hn with hn | hn
          · exact absurd (by rw [hn]) h16
          · exact absurd hn (xb_eq0.mp h25)
        · refine xA.iconst (v := 0) rfl (by decide) rfl ?_
          exact xA.iret rfl rfl rfl ⟨rfl, rfl⟩
set_option maxRecDepth 100000 in
set_option maxHeartbeats 400000 in
theorem c_X1_addsSightT (d : Nat) (S : Nat → Nat → Int32) (G : Nat → Nat → Int64) (k : Nat) (hk : isHouse τ k) (a b : Nat) (ha : a < 6) (hb : b < 6) (hn1 : ¬ b = a) (hn2 : ¬ bt (S (k + 2) a) (nI b)) (ns : Nat) (hns : S k 3 = nI ns) : xR τ (d + 2) mX1_addsSight [.ref k, .int (nI a), .int (nI b)] S G (some (.int 1)) (xu (xu (xu S k 3 (nI (ns + 1))) (k + 2) a (S (k + 2) a ||| nI (2 ^ b))) (k + 2) b (S (k + 2) b ||| nI (2 ^ a))) G := by
  refine xC.of okX1_addsSight (Nat.le_of_ble_eq_true rfl) (L := [_, _, _]) rfl ?_
  refine xA.iload_n (i := 1) rfl rfl rfl rfl ?_
  refine xA.callSNi (As := [_]) rfl k1_72 okX9_isRoom rfl rfl (Nat.le_of_ble_eq_true rfl) (c_X9_isRoom (d + 1) S G _) rfl rfl ?_
  refine xA.if_eq (tgt := 28) rfl rfl rfl (fun h4 => ?_) (fun h4 => ?_)
  · exact absurd h4 (xb_ne0.mpr (rg_of ha (by omega)))
  · refine xA.iload_n (i := 2) rfl rfl rfl rfl ?_
    refine xA.callSNi (As := [_]) rfl k1_72 okX9_isRoom rfl rfl (Nat.le_of_ble_eq_true rfl) (c_X9_isRoom (d + 1) S G _) rfl rfl ?_
    refine xA.if_eq (tgt := 28) rfl rfl rfl (fun h11 => ?_) (fun h11 => ?_)
    · exact absurd h11 (xb_ne0.mpr (rg_of hb (by omega)))
    · refine xA.iload_n (i := 1) rfl rfl rfl rfl ?_
      refine xA.iload_n (i := 2) rfl rfl rfl rfl ?_
      refine xA.icmp_eq (tgt := 28) rfl rfl rfl (fun h16 => ?_) (fun h16 => ?_)
      · exact absurd ((nI_eq (by omega) (by omega)).mp h16).symm hn1
      · refine xA.aload_n (i := 0) rfl rfl rfl rfl ?_
        refine xA.iload_n (i := 1) rfl rfl rfl rfl ?_
        refine xA.iload_n (i := 2) rfl rfl rfl rfl ?_
        refine xA.callVi (As := [_, _]) rfl k1_79 okX1_isSeenFrom hk.1 rfl rfl rfl (Nat.le_of_ble_eq_true rfl) (c_X1_isSeenFrom d S G k hk a b ha hb) rfl rfl ?_
        refine xA.if_eq (tgt := 30) rfl rfl rfl (fun h25 => ?_) (fun h25 => ?_)
        · refine xA.aload_n (i := 0) rfl rfl rfl rfl ?_
          refine xA.dup rfl rfl rfl ?_
          refine xA.getI rfl f1_45 hk.1 rfl rfl ?_
          refine xA.topi (hns) ?_
          refine xA.iconst (v := 1) rfl (by decide) rfl ?_
          refine xA.iadd rfl rfl ?_
          refine xA.topi (nI_1 ns) ?_
          refine xA.putI rfl p1_45 hk.1 rfl rfl ?_
          refine xA.aload_n (i := 0) rfl rfl rfl rfl ?_
          refine xA.getR rfl f1_15 hk.1 rfl rfl rfl ?_
          refine xA.iload_n (i := 1) rfl rfl rfl rfl ?_
          refine xA.dup2 rfl rfl rfl rfl ?_
          refine xA.iald rfl hk.2.2 (vp_in_nI (by omega) (by omega)) rfl ?_
          refine xA.topi ((show _ = S (k + 2) a from by rw [nI_clamp (by omega)]; exact xu_ne1 (by omega))) ?_
          refine xA.iconst (v := 1) rfl (by decide) rfl ?_
          refine xA.iload_n (i := 2) rfl rfl rfl rfl ?_
          refine xA.ishl rfl rfl ?_
          refine xA.topi (nI_shl b (by omega)) ?_
          refine xA.ior rfl rfl ?_
          refine xA.iast rfl hk.2.2 (vp_in_nI (by omega) (by omega)) rfl ?_
          rw [nI_clamp (by omega)]
          refine xA.aload_n (i := 0) rfl rfl rfl rfl ?_
          refine xA.getR rfl f1_15 hk.1 rfl rfl rfl ?_
          refine xA.iload_n (i := 2) rfl rfl rfl rfl ?_
          refine xA.dup2 rfl rfl rfl rfl ?_
          refine xA.iald rfl hk.2.2 (vp_in_nI (by omega) (by omega)) rfl ?_
          refine xA.topi ((show _ = S (k + 2) b from by rw [nI_clamp (by omega), xu_ne2 (by omega)]; exact xu_ne1 (by omega))) ?_
          refine xA.iconst (v := 1) rfl (by decide) rfl ?_
          refine xA.iload_n (i := 1) rfl rfl rfl rfl ?_
          refine xA.ishl rfl rfl ?_
          refine xA.topi (nI_shl a (by omega)) ?_
          refine xA.ior rfl rfl ?_
          refine xA.iast rfl hk.2.2 (vp_in_nI (by omega) (by omega)) rfl ?_
          rw [nI_clamp (by omega)]
          refine xA.iconst (v := 1) rfl (by decide) rfl ?_
          exact xA.iret rfl rfl rfl ⟨rfl, rfl⟩
        · exact absurd (xb_ne0.mp h25) hn2
end
section
variable {τ : List xSh}
/-! ===== the house read: a letter, the text ===== -/
theorem hC_stage {S : Nat → Nat → Int32} {k : Nat} {h : hS} (hc : hC S k h) (s : Nat) (h4 : 4 ≤ s → 4 ≤ hSt h) (h5 : 5 ≤ s → 5 ≤ hSt h) (h1 : ¬ (s = 1 ∨ s = 7)) : hC (xu S k 6 (nI s)) k (s, h.2) := by
  obtain ⟨c1, c2, c3, c4, c5, c6, c7, c8⟩ := hc
  refine ⟨xu_same, (xu_ne2 (by omega)).trans c2, (xu_ne2 (by omega)).trans c3, fun z => (xu_ne2 (by omega)).trans (c4 (h4 z)), fun z => (xu_ne2 (by omega)).trans (c5 (h5 z)), fun z => absurd z h1, fun a ha => (xu_ne1 (by omega)).trans (c7 a ha), fun a ha => (xu_ne1 (by omega)).trans (c8 a ha)⟩
theorem hC_first {S : Nat → Nat → Int32} {k : Nat} {h : hS} (hc : hC S k h) (v : Nat) (hs : hSt h = 0 ∨ hSt h = 6) : hC (xu (xu S k 7 (nI v)) k 6 (nI (hSt h + 1))) k (hSt h + 1, hNd h, hNs h, hLo h, hBa h, v, hD h, hSr h, hOn h, hTw h) := by
  obtain ⟨c1, c2, c3, c4, c5, c6, c7, c8⟩ := hc
  refine ⟨xu_same, (xu_ne2 (by omega)).trans ((xu_ne2 (by omega)).trans c2), (xu_ne2 (by omega)).trans ((xu_ne2 (by omega)).trans c3), fun z => (xu_ne2 (by omega)).trans ((xu_ne2 (by omega)).trans (c4 (by have z : 4 ≤ hSt h + 1 := z; omega))), fun z => (xu_ne2 (by omega)).trans ((xu_ne2 (by omega)).trans (c5 (by have z : 5 ≤ hSt h + 1 := z; omega))), fun z => (xu_ne2 (by omega)).trans xu_same, fun a ha => (xu_ne1 (by omega)).trans ((xu_ne1 (by omega)).trans (c7 a ha)), fun a ha => (xu_ne1 (by omega)).trans ((xu_ne1 (by omega)).trans (c8 a ha))⟩
theorem hC_low {S : Nat → Nat → Int32} {k : Nat} {h : hS} (hc : hC S k h) (v : Nat) : hC (xu (xu S k 4 (nI v)) k 6 (nI 4)) k (4, hNd h, hNs h, v, hBa h, hFi h, hD h, hSr h, hOn h, hTw h) := by
  obtain ⟨c1, c2, c3, c4, c5, c6, c7, c8⟩ := hc
  refine ⟨xu_same, (xu_ne2 (by omega)).trans ((xu_ne2 (by omega)).trans c2), (xu_ne2 (by omega)).trans ((xu_ne2 (by omega)).trans c3), fun z => (xu_ne2 (by omega)).trans xu_same, fun z => absurd z (by show ¬ 5 ≤ 4; omega), fun z => absurd z (by show ¬ (4 = 1 ∨ 4 = 7); omega), fun a ha => (xu_ne1 (by omega)).trans ((xu_ne1 (by omega)).trans (c7 a ha)), fun a ha => (xu_ne1 (by omega)).trans ((xu_ne1 (by omega)).trans (c8 a ha))⟩
theorem hC_back {S : Nat → Nat → Int32} {k : Nat} {h : hS} (hc : hC S k h) (v : Nat) (hs : hSt h = 4) : hC (xu (xu S k 5 (nI v)) k 6 (nI 5)) k (5, hNd h, hNs h, hLo h, v, hFi h, hD h, hSr h, hOn h, hTw h) := by
  obtain ⟨c1, c2, c3, c4, c5, c6, c7, c8⟩ := hc
  refine ⟨xu_same, (xu_ne2 (by omega)).trans ((xu_ne2 (by omega)).trans c2), (xu_ne2 (by omega)).trans ((xu_ne2 (by omega)).trans c3), fun z => (xu_ne2 (by omega)).trans ((xu_ne2 (by omega)).trans (c4 (by omega))), fun z => (xu_ne2 (by omega)).trans xu_same, fun z => absurd z (by show ¬ (5 = 1 ∨ 5 = 7); omega), fun a ha => (xu_ne1 (by omega)).trans ((xu_ne1 (by omega)).trans (c7 a ha)), fun a ha => (xu_ne1 (by omega)).trans ((xu_ne1 (by omega)).trans (c8 a ha))⟩
theorem hC_door {S : Nat → Nat → Int32} {k : Nat} {h : hS} (hc : hC S k h) (a b : Nat) (ha : a < 6) (hb : b < 6) (on tw : Nat → Nat) : hC (xu (xu (xu (xu S k 2 (nI (hNd h + 1))) (k + 1) (a * 6 + b) (nI (hNd h + 1))) (k + 1) (b * 6 + a) (nI (hNd h + 1))) k 6 (nI 2)) k (2, hNd h + 1, hNs h, hLo h, hBa h, hFi h, nu (nu (hD h) (a * 6 + b) (hNd h + 1)) (b * 6 + a) (hNd h + 1), hSr h, on, tw) := by
  obtain ⟨c1, c2, c3, c4, c5, c6, c7, c8⟩ := hc
  refine ⟨xu_same, by simp [xu], ?_, fun z => absurd z (by show ¬ 4 ≤ 2; omega), fun z => absurd z (by show ¬ 5 ≤ 2; omega), fun z => absurd z (by show ¬ (2 = 1 ∨ 2 = 7); omega), fun i hi => ?_, fun i hi => ?_⟩
  · simp [xu]; exact c3
  · have e := c7 i hi
    have k1 : ¬ k + 1 = k := by omega
    show _ = nI (nu (nu (hD h) (a * 6 + b) (hNd h + 1)) (b * 6 + a) (hNd h + 1) i)
    simp only [xu, nu, k1, if_true, if_false]
    split
    · rfl
    · split
      · rfl
      · exact e
  · have e := c8 i hi
    have k1 : ¬ k + 2 = k := by omega
    have k2 : ¬ k + 2 = k + 1 := by omega
    simp only [xu, k1, k2, if_false]
    exact e
theorem hC_sight {S : Nat → Nat → Int32} {k : Nat} {h : hS} (hc : hC S k h) (h7 : hSt h = 7) (a b : Nat) (ha : a < 6) (hb : b < 6) : hC (xu (xu (xu (xu S k 3 (nI (hNs h + 1))) (k + 2) a (S (k + 2) a ||| nI (2 ^ b))) (k + 2) b (S (k + 2) b ||| nI (2 ^ a))) k 6 (nI 8)) k (8, hNd h, hNs h + 1, hLo h, hBa h, hFi h, hD h, nu (nu (hSr h) a (hSr h a ||| 2 ^ b)) b (hSr h b ||| 2 ^ a), hOn h, hTw h) := by
  obtain ⟨c1, c2, c3, c4, c5, c6, c7, c8⟩ := hc
  refine ⟨xu_same, ?_, by simp [xu], fun z => ?_, fun z => ?_, fun z => absurd z (by show ¬ (8 = 1 ∨ 8 = 7); omega), fun i hi => ?_, fun i hi => ?_⟩
  · simp [xu]; exact c2
  · simp [xu]; exact c4 (by omega)
  · simp [xu]; exact c5 (by omega)
  · have e := c7 i hi
    have k1 : ¬ k + 1 = k := by omega
    have k2 : ¬ k + 1 = k + 2 := by omega
    simp only [xu, k1, k2, if_false]
    exact e
  · have e := c8 i hi
    have k1 : ¬ k + 2 = k := by omega
    show _ = nI (nu (nu (hSr h) a (hSr h a ||| 2 ^ b)) b (hSr h b ||| 2 ^ a) i)
    simp only [xu, nu, k1, if_true, if_false]
    split
    · rw [c8 b hb, nI_or]
    · split
      · rw [c8 a ha, nI_or]
      · exact e
theorem xu_fr {S0 S : Nat → Nat → Int32} {k w a i : Nat} {v : Int32} (h : frW k w S0 S) (ha : k ≤ a ∧ a < k + w) : frW k w S0 (xu S a i v) := fun j hj => by
  rw [← h j hj]; funext q; exact xu_ne1 (by omega)
theorem fr_rf {S : Nat → Nat → Int32} {k w : Nat} : frW k w S S := fun _ _ => rfl


set_option maxRecDepth 100000 in
set_option maxHeartbeats 1000000 in
theorem c_X1_takes (d : Nat) (S : Nat → Nat → Int32) (G : Nat → Nat → Int64) (k : Nat) (hk : isHouse τ k) (h : hS) (ho : hOk h) (hc : hC S k h) (c : Nat) (h126 : c ≤ 126) : xC (d + 3) mX1_takes [.ref k, .int (nI c)] ((σF τ), S, G) 0 0 (fun r h' => ∃ S', h' = ((σF τ), S', G) ∧ frW k 3 S S' ∧ ((hstep h c = none ∧ r = some (.int 0)) ∨ ∃ h2, hstep h c = some h2 ∧ r = some (.int 1) ∧ hC S' k h2)) := by
  refine xC.of okX1_takes (Nat.le_of_ble_eq_true rfl) (L := [_, _]) rfl ?_
  refine xA.aload_n (i := 0) rfl rfl rfl rfl ?_
  refine xA.getI rfl f1_39 hk.1 rfl rfl ?_
  refine xA.topi (hc.1) ?_
  by_cases h4_0 : hSt h = 0
  · have hs := h4_0; refine xA.topi (congrArg nI hs : _ = nI 0) ?_
    refine xA.tsIn (q := 56) rfl (by decide) (by decide) rfl rfl ?_
    rcases hd : hdg c 0 5 with _ | v
    · skip
      refine xA.aload_n (i := 0) rfl rfl rfl rfl ?_
      refine xA.iload_n (i := 1) rfl rfl rfl rfl ?_
      refine xA.callSNi (As := [_]) rfl k1_51 okX9_roomDigitOf rfl rfl (Nat.le_of_ble_eq_true rfl) (c_X9_roomDigitOf (d + 1) _ G _) rfl rfl ?_
      refine xA.topi ((xdig_nI 0 5 h126 (by omega) (by omega)).trans (show oI (hdg c 0 5) = -1 from by simp only [hd, oI])) ?_
      refine xA.putI rfl p1_54 hk.1 rfl rfl ?_
      refine xA.aload_n (i := 0) rfl rfl rfl rfl ?_
      refine xA.aload_n (i := 0) rfl rfl rfl rfl ?_
      refine xA.getI rfl f1_54 hk.1 rfl rfl ?_
      refine xA.topi (xu_same) ?_
      refine xA.iconst (v := (-1)) rfl (by decide) rfl ?_
      refine xA.icmp_eq (tgt := 77) rfl rfl rfl (fun h70 => ?_) (fun h70 => ?_)
      · refine xA.iconst (v := 0) rfl (by decide) rfl ?_
        refine xA.aload_n (i := 0) rfl rfl rfl rfl ?_
        refine xA.getI rfl f1_39 hk.1 rfl rfl ?_
        refine xA.topi (((xu_ne2 (by omega)).trans hc.1 : _ = nI (hSt h))) ?_
        refine xA.iconst (v := 1) rfl (by decide) rfl ?_
        refine xA.iadd rfl rfl ?_
        refine xA.topi (nI_1 _) ?_
        refine xA.callVi (As := [_, _]) rfl k1_57 okX1_goesOn hk.1 rfl rfl rfl (Nat.le_of_ble_eq_true rfl) (c_X1_goesOn0 (d + 2) _ G k hk _) rfl rfl ?_
        exact xA.iret rfl rfl rfl ⟨_, rfl, (xu_fr fr_rf (by omega)), Or.inl ⟨by simp [hstep, hs, hd], rfl⟩⟩
      · exact absurd rfl h70
    · have hv := hdg_some hd
      refine xA.aload_n (i := 0) rfl rfl rfl rfl ?_
      refine xA.iload_n (i := 1) rfl rfl rfl rfl ?_
      refine xA.callSNi (As := [_]) rfl k1_51 okX9_roomDigitOf rfl rfl (Nat.le_of_ble_eq_true rfl) (c_X9_roomDigitOf (d + 1) _ G _) rfl rfl ?_
      refine xA.topi ((xdig_nI 0 5 h126 (by omega) (by omega)).trans (show oI (hdg c 0 5) = nI v from by simp only [hd, oI])) ?_
      refine xA.putI rfl p1_54 hk.1 rfl rfl ?_
      refine xA.aload_n (i := 0) rfl rfl rfl rfl ?_
      refine xA.aload_n (i := 0) rfl rfl rfl rfl ?_
      refine xA.getI rfl f1_54 hk.1 rfl rfl ?_
      refine xA.topi (xu_same) ?_
      refine xA.iconst (v := (-1)) rfl (by decide) rfl ?_
      refine xA.icmp_eq (tgt := 77) rfl rfl rfl (fun h70 => ?_) (fun h70 => ?_)
      · exact absurd h70 (nI_m1 (by omega))
      · refine xA.iconst (v := 1) rfl (by decide) rfl ?_
        refine xA.goto (q := 78) rfl rfl ?_
        refine xA.aload_n (i := 0) rfl rfl rfl rfl ?_
        refine xA.getI rfl f1_39 hk.1 rfl rfl ?_
        refine xA.topi (((xu_ne2 (by omega)).trans hc.1 : _ = nI (hSt h))) ?_
        refine xA.iconst (v := 1) rfl (by decide) rfl ?_
        refine xA.iadd rfl rfl ?_
        refine xA.topi (nI_1 _) ?_
        refine xA.callVi (As := [_, _]) rfl k1_57 okX1_goesOn hk.1 rfl rfl rfl (Nat.le_of_ble_eq_true rfl) (c_X1_goesOn1 (d + 2) _ G k hk _) rfl rfl ?_
        exact xA.iret rfl rfl rfl ⟨_, rfl, (xu_fr (xu_fr fr_rf (by omega)) (by omega)), Or.inr ⟨_, by simp [hstep, hs, hd], rfl, hC_first hc v (by omega)⟩⟩
  by_cases h4_1 : hSt h = 1
  · have hs := h4_1; refine xA.topi (congrArg nI hs : _ = nI 1) ?_
    refine xA.tsIn (q := 88) rfl (by decide) (by decide) rfl rfl ?_
    rcases hd : hdg c 0 5 with _ | v
    · have hfi := ho.2.2.2.2.2.2.2.1 (Or.inl hs)
      refine xA.aload_n (i := 0) rfl rfl rfl rfl ?_
      refine xA.aload_n (i := 0) rfl rfl rfl rfl ?_
      refine xA.aload_n (i := 0) rfl rfl rfl rfl ?_
      refine xA.getI rfl f1_54 hk.1 rfl rfl ?_
      refine xA.topi (hc.2.2.2.2.2.1 (Or.inl hs)) ?_
      refine xA.iload_n (i := 1) rfl rfl rfl rfl ?_
      refine xA.callSNi (As := [_]) rfl k1_51 okX9_roomDigitOf rfl rfl (Nat.le_of_ble_eq_true rfl) (c_X9_roomDigitOf (d + 1) _ G _) rfl rfl ?_
      refine xA.topi ((xdig_nI 0 5 h126 (by omega) (by omega)).trans (show oI (hdg c 0 5) = -1 from by simp only [hd, oI])) ?_
      refine xA.callVi (As := [_, _]) rfl k1_61 okX1_addsDoor hk.1 rfl rfl rfl (Nat.le_of_ble_eq_true rfl) (c_X1_addsDoorN d _ G k hk (hFi h) 0 hfi) rfl rfl ?_
      refine xA.iconst (v := 2) rfl (by decide) rfl ?_
      refine xA.callVi (As := [_, _]) rfl k1_57 okX1_goesOn hk.1 rfl rfl rfl (Nat.le_of_ble_eq_true rfl) (c_X1_goesOn0 (d + 2) _ G k hk _) rfl rfl ?_
      exact xA.iret rfl rfl rfl ⟨_, rfl, fr_rf, Or.inl ⟨by simp [hstep, hs, hd], rfl⟩⟩
    · have hv := hdg_some hd
      have hfi := ho.2.2.2.2.2.2.2.1 (Or.inl hs)
      refine xA.aload_n (i := 0) rfl rfl rfl rfl ?_
      by_cases hcd : v ≠ hFi h ∧ hD h (hFi h * 6 + v) = 0
      · skip
        refine xA.aload_n (i := 0) rfl rfl rfl rfl ?_
        refine xA.aload_n (i := 0) rfl rfl rfl rfl ?_
        refine xA.getI rfl f1_54 hk.1 rfl rfl ?_
        refine xA.topi (hc.2.2.2.2.2.1 (Or.inl hs)) ?_
        refine xA.iload_n (i := 1) rfl rfl rfl rfl ?_
        refine xA.callSNi (As := [_]) rfl k1_51 okX9_roomDigitOf rfl rfl (Nat.le_of_ble_eq_true rfl) (c_X9_roomDigitOf (d + 1) _ G _) rfl rfl ?_
        refine xA.topi ((xdig_nI 0 5 h126 (by omega) (by omega)).trans (show oI (hdg c 0 5) = nI v from by simp only [hd, oI])) ?_
        refine xA.callVi (As := [_, _]) rfl k1_61 okX1_addsDoor hk.1 rfl rfl rfl (Nat.le_of_ble_eq_true rfl) (c_X1_addsDoorT d _ G k hk (hFi h) v hfi (by omega) hcd.1 (by rw [hc.2.2.2.2.2.2.1 _ (by omega), hcd.2]; rfl) (hNd h) hc.2.1) rfl rfl ?_
        refine xA.iconst (v := 2) rfl (by decide) rfl ?_
        refine xA.callVi (As := [_, _]) rfl k1_57 okX1_goesOn hk.1 rfl rfl rfl (Nat.le_of_ble_eq_true rfl) (c_X1_goesOn1 (d + 2) _ G k hk _) rfl rfl ?_
        exact xA.iret rfl rfl rfl ⟨_, rfl, (xu_fr (xu_fr (xu_fr (xu_fr fr_rf (by omega)) (by omega)) (by omega)) (by omega)), Or.inr ⟨_, by simp only [hstep, hs, hd]; simp [hcd], rfl, hC_door hc (hFi h) v hfi (by omega) (nu (hOn h) (hNd h) (hFi h)) (nu (hTw h) (hNd h) v)⟩⟩
      · skip
        refine xA.aload_n (i := 0) rfl rfl rfl rfl ?_
        refine xA.aload_n (i := 0) rfl rfl rfl rfl ?_
        refine xA.getI rfl f1_54 hk.1 rfl rfl ?_
        refine xA.topi (hc.2.2.2.2.2.1 (Or.inl hs)) ?_
        refine xA.iload_n (i := 1) rfl rfl rfl rfl ?_
        refine xA.callSNi (As := [_]) rfl k1_51 okX9_roomDigitOf rfl rfl (Nat.le_of_ble_eq_true rfl) (c_X9_roomDigitOf (d + 1) _ G _) rfl rfl ?_
        refine xA.topi ((xdig_nI 0 5 h126 (by omega) (by omega)).trans (show oI (hdg c 0 5) = nI v from by simp only [hd, oI])) ?_
        refine xA.callVi (As := [_, _]) rfl k1_61 okX1_addsDoor hk.1 rfl rfl rfl (Nat.le_of_ble_eq_true rfl) (c_X1_addsDoorF d _ G k hk (hFi h) v hfi (by omega) (by rw [hc.2.2.2.2.2.2.1 _ (by omega)]; by_cases e : v = hFi h; exact Or.inl e; exact Or.inr (fun z => hcd ⟨e, by have e9 : ∀ x, x < 2 ^ 31 → nI x = 0 → x = 0 := fun x hx z => (nI_eq (b := 0) hx (by omega)).mp z; exact e9 _ (by have := (ho.2.2.2.2.2.2.2.2.2.2.1 (hFi h) v hfi (by omega)).2; have := ho.2.1; omega) z⟩))) rfl rfl ?_
        refine xA.iconst (v := 2) rfl (by decide) rfl ?_
        refine xA.callVi (As := [_, _]) rfl k1_57 okX1_goesOn hk.1 rfl rfl rfl (Nat.le_of_ble_eq_true rfl) (c_X1_goesOn0 (d + 2) _ G k hk _) rfl rfl ?_
        exact xA.iret rfl rfl rfl ⟨_, rfl, fr_rf, Or.inl ⟨by simp only [hstep, hs, hd]; simp [-not_and, -ne_eq, hcd], rfl⟩⟩
  by_cases h4_2 : hSt h = 2
  · have hs := h4_2; refine xA.topi (congrArg nI hs : _ = nI 2) ?_
    refine xA.tsIn (q := 106) rfl (by decide) (by decide) rfl rfl ?_
    by_cases hd : c = 59
    · skip
      refine xA.iload_n (i := 1) rfl rfl rfl rfl ?_
      refine xA.bipush (v := 59) rfl (by decide) rfl ?_
      refine xA.icmp_ne (tgt := 121) rfl rfl rfl (fun h109 => ?_) (fun h109 => ?_)
      · exact absurd (by rw [hd]; rfl) h109
      · refine xA.aload_n (i := 0) rfl rfl rfl rfl ?_
        refine xA.iconst (v := 1) rfl (by decide) rfl ?_
        refine xA.iconst (v := 3) rfl (by decide) rfl ?_
        refine xA.callVi (As := [_, _]) rfl k1_57 okX1_goesOn hk.1 rfl rfl rfl (Nat.le_of_ble_eq_true rfl) (c_X1_goesOn1 (d + 2) _ G k hk _) rfl rfl ?_
        refine xA.goto (q := 146) rfl rfl ?_
        exact xA.iret rfl rfl rfl ⟨_, rfl, (xu_fr fr_rf (by omega)), Or.inr ⟨_, by simp [hstep, hs, hd], rfl, hC_stage hc 3 (by omega) (by omega) (by omega)⟩⟩
    · skip
      refine xA.iload_n (i := 1) rfl rfl rfl rfl ?_
      refine xA.bipush (v := 59) rfl (by decide) rfl ?_
      refine xA.icmp_ne (tgt := 121) rfl rfl rfl (fun h109 => ?_) (fun h109 => ?_)
      · by_cases hd3 : c = 44
        · skip
          refine xA.aload_n (i := 0) rfl rfl rfl rfl ?_
          by_cases hd2 : hNd h < 10
          · skip
            refine xA.iload_n (i := 1) rfl rfl rfl rfl ?_
            refine xA.bipush (v := 44) rfl (by decide) rfl ?_
            refine xA.icmp_ne (tgt := 141) rfl rfl rfl (fun h125 => ?_) (fun h125 => ?_)
            · exact absurd (by rw [hd3]; rfl) h125
            · refine xA.aload_n (i := 0) rfl rfl rfl rfl ?_
              refine xA.getI rfl f1_42 hk.1 rfl rfl ?_
              refine xA.topi (hc.2.1) ?_
              refine xA.bipush (v := 10) rfl (by decide) rfl ?_
              refine xA.icmp_ge (tgt := 141) rfl rfl rfl (fun h134 => ?_) (fun h134 => ?_)
              · exact absurd h134 (nI_ge (b := 10) hd2 (by omega))
              · refine xA.iconst (v := 1) rfl (by decide) rfl ?_
                refine xA.goto (q := 142) rfl rfl ?_
                refine xA.iconst (v := 0) rfl (by decide) rfl ?_
                refine xA.callVi (As := [_, _]) rfl k1_57 okX1_goesOn hk.1 rfl rfl rfl (Nat.le_of_ble_eq_true rfl) (c_X1_goesOn1 (d + 2) _ G k hk _) rfl rfl ?_
                exact xA.iret rfl rfl rfl ⟨_, rfl, (xu_fr fr_rf (by omega)), Or.inr ⟨_, by simp [hstep, hs, hd3, hd2], rfl, hC_stage hc 0 (by omega) (by omega) (by omega)⟩⟩
          · skip
            refine xA.iload_n (i := 1) rfl rfl rfl rfl ?_
            refine xA.bipush (v := 44) rfl (by decide) rfl ?_
            refine xA.icmp_ne (tgt := 141) rfl rfl rfl (fun h125 => ?_) (fun h125 => ?_)
            · exact absurd (by rw [hd3]; rfl) h125
            · refine xA.aload_n (i := 0) rfl rfl rfl rfl ?_
              refine xA.getI rfl f1_42 hk.1 rfl rfl ?_
              refine xA.topi (hc.2.1) ?_
              refine xA.bipush (v := 10) rfl (by decide) rfl ?_
              refine xA.icmp_ge (tgt := 141) rfl rfl rfl (fun h134 => ?_) (fun h134 => ?_)
              · refine xA.iconst (v := 0) rfl (by decide) rfl ?_
                refine xA.iconst (v := 0) rfl (by decide) rfl ?_
                refine xA.callVi (As := [_, _]) rfl k1_57 okX1_goesOn hk.1 rfl rfl rfl (Nat.le_of_ble_eq_true rfl) (c_X1_goesOn0 (d + 2) _ G k hk _) rfl rfl ?_
                exact xA.iret rfl rfl rfl ⟨_, rfl, fr_rf, Or.inl ⟨by simp [hstep, hs, hd3, hd2], rfl⟩⟩
              · exact absurd (nI_le (a := 10) (by omega) (by have := ho.2.1; omega)) h134
        · skip
          refine xA.aload_n (i := 0) rfl rfl rfl rfl ?_
          refine xA.iload_n (i := 1) rfl rfl rfl rfl ?_
          refine xA.bipush (v := 44) rfl (by decide) rfl ?_
          refine xA.icmp_ne (tgt := 141) rfl rfl rfl (fun h125 => ?_) (fun h125 => ?_)
          · refine xA.iconst (v := 0) rfl (by decide) rfl ?_
            refine xA.iconst (v := 0) rfl (by decide) rfl ?_
            refine xA.callVi (As := [_, _]) rfl k1_57 okX1_goesOn hk.1 rfl rfl rfl (Nat.le_of_ble_eq_true rfl) (c_X1_goesOn0 (d + 2) _ G k hk _) rfl rfl ?_
            exact xA.iret rfl rfl rfl ⟨_, rfl, fr_rf, Or.inl ⟨by simp [hstep, hs, hd, hd3], rfl⟩⟩
          · exact absurd ((nI_eq (b := 44) (by omega) (by omega)).mp h125) hd3
      · exact absurd ((nI_eq (b := 59) (by omega) (by omega)).mp h109) hd
  by_cases h4_3 : hSt h = 3
  · have hs := h4_3; refine xA.topi (congrArg nI hs : _ = nI 3) ?_
    refine xA.tsIn (q := 147) rfl (by decide) (by decide) rfl rfl ?_
    rcases hd : hdg c 0 5 with _ | v
    · skip
      refine xA.aload_n (i := 0) rfl rfl rfl rfl ?_
      refine xA.iload_n (i := 1) rfl rfl rfl rfl ?_
      refine xA.callSNi (As := [_]) rfl k1_51 okX9_roomDigitOf rfl rfl (Nat.le_of_ble_eq_true rfl) (c_X9_roomDigitOf (d + 1) _ G _) rfl rfl ?_
      refine xA.topi ((xdig_nI 0 5 h126 (by omega) (by omega)).trans (show oI (hdg c 0 5) = -1 from by simp only [hd, oI])) ?_
      refine xA.putI rfl p1_18 hk.1 rfl rfl ?_
      refine xA.aload_n (i := 0) rfl rfl rfl rfl ?_
      refine xA.aload_n (i := 0) rfl rfl rfl rfl ?_
      refine xA.getI rfl f1_18 hk.1 rfl rfl ?_
      refine xA.topi (xu_same) ?_
      refine xA.iconst (v := (-1)) rfl (by decide) rfl ?_
      refine xA.icmp_eq (tgt := 168) rfl rfl rfl (fun h161 => ?_) (fun h161 => ?_)
      · refine xA.iconst (v := 0) rfl (by decide) rfl ?_
        refine xA.iconst (v := 4) rfl (by decide) rfl ?_
        refine xA.callVi (As := [_, _]) rfl k1_57 okX1_goesOn hk.1 rfl rfl rfl (Nat.le_of_ble_eq_true rfl) (c_X1_goesOn0 (d + 2) _ G k hk _) rfl rfl ?_
        exact xA.iret rfl rfl rfl ⟨_, rfl, (xu_fr fr_rf (by omega)), Or.inl ⟨by simp [hstep, hs, hd], rfl⟩⟩
      · exact absurd rfl h161
    · have hv := hdg_some hd
      refine xA.aload_n (i := 0) rfl rfl rfl rfl ?_
      refine xA.iload_n (i := 1) rfl rfl rfl rfl ?_
      refine xA.callSNi (As := [_]) rfl k1_51 okX9_roomDigitOf rfl rfl (Nat.le_of_ble_eq_true rfl) (c_X9_roomDigitOf (d + 1) _ G _) rfl rfl ?_
      refine xA.topi ((xdig_nI 0 5 h126 (by omega) (by omega)).trans (show oI (hdg c 0 5) = nI v from by simp only [hd, oI])) ?_
      refine xA.putI rfl p1_18 hk.1 rfl rfl ?_
      refine xA.aload_n (i := 0) rfl rfl rfl rfl ?_
      refine xA.aload_n (i := 0) rfl rfl rfl rfl ?_
      refine xA.getI rfl f1_18 hk.1 rfl rfl ?_
      refine xA.topi (xu_same) ?_
      refine xA.iconst (v := (-1)) rfl (by decide) rfl ?_
      refine xA.icmp_eq (tgt := 168) rfl rfl rfl (fun h161 => ?_) (fun h161 => ?_)
      · exact absurd h161 (nI_m1 (by omega))
      · refine xA.iconst (v := 1) rfl (by decide) rfl ?_
        refine xA.goto (q := 169) rfl rfl ?_
        refine xA.iconst (v := 4) rfl (by decide) rfl ?_
        refine xA.callVi (As := [_, _]) rfl k1_57 okX1_goesOn hk.1 rfl rfl rfl (Nat.le_of_ble_eq_true rfl) (c_X1_goesOn1 (d + 2) _ G k hk _) rfl rfl ?_
        exact xA.iret rfl rfl rfl ⟨_, rfl, (xu_fr (xu_fr fr_rf (by omega)) (by omega)), Or.inr ⟨_, by simp [hstep, hs, hd], rfl, hC_low hc v⟩⟩
  by_cases h4_4 : hSt h = 4
  · have hs := h4_4; refine xA.topi (congrArg nI hs : _ = nI 4) ?_
    refine xA.tsIn (q := 174) rfl (by decide) (by decide) rfl rfl ?_
    rcases hd : hdg c 1 9 with _ | v
    · skip
      refine xA.aload_n (i := 0) rfl rfl rfl rfl ?_
      refine xA.iload_n (i := 1) rfl rfl rfl rfl ?_
      refine xA.iconst (v := 1) rfl (by decide) rfl ?_
      refine xA.bipush (v := 9) rfl (by decide) rfl ?_
      refine xA.callSNi (As := [_, _, _]) rfl k1_65 okX9_digitOf rfl rfl (Nat.le_of_ble_eq_true rfl) (c_X9_digitOf (d + 2) _ G _ _ _) rfl rfl ?_
      refine xA.topi ((xdig_nI 1 9 h126 (by omega) (by omega)).trans (show oI (hdg c 1 9) = -1 from by simp only [hd, oI])) ?_
      refine xA.putI rfl p1_48 hk.1 rfl rfl ?_
      refine xA.aload_n (i := 0) rfl rfl rfl rfl ?_
      refine xA.aload_n (i := 0) rfl rfl rfl rfl ?_
      refine xA.getI rfl f1_48 hk.1 rfl rfl ?_
      refine xA.topi (xu_same) ?_
      refine xA.iconst (v := (-1)) rfl (by decide) rfl ?_
      refine xA.icmp_eq (tgt := 198) rfl rfl rfl (fun h191 => ?_) (fun h191 => ?_)
      · refine xA.iconst (v := 0) rfl (by decide) rfl ?_
        refine xA.iconst (v := 5) rfl (by decide) rfl ?_
        refine xA.callVi (As := [_, _]) rfl k1_57 okX1_goesOn hk.1 rfl rfl rfl (Nat.le_of_ble_eq_true rfl) (c_X1_goesOn0 (d + 2) _ G k hk _) rfl rfl ?_
        exact xA.iret rfl rfl rfl ⟨_, rfl, (xu_fr fr_rf (by omega)), Or.inl ⟨by simp [hstep, hs, hd], rfl⟩⟩
      · exact absurd rfl h191
    · have hv := hdg_some hd
      refine xA.aload_n (i := 0) rfl rfl rfl rfl ?_
      refine xA.iload_n (i := 1) rfl rfl rfl rfl ?_
      refine xA.iconst (v := 1) rfl (by decide) rfl ?_
      refine xA.bipush (v := 9) rfl (by decide) rfl ?_
      refine xA.callSNi (As := [_, _, _]) rfl k1_65 okX9_digitOf rfl rfl (Nat.le_of_ble_eq_true rfl) (c_X9_digitOf (d + 2) _ G _ _ _) rfl rfl ?_
      refine xA.topi ((xdig_nI 1 9 h126 (by omega) (by omega)).trans (show oI (hdg c 1 9) = nI v from by simp only [hd, oI])) ?_
      refine xA.putI rfl p1_48 hk.1 rfl rfl ?_
      refine xA.aload_n (i := 0) rfl rfl rfl rfl ?_
      refine xA.aload_n (i := 0) rfl rfl rfl rfl ?_
      refine xA.getI rfl f1_48 hk.1 rfl rfl ?_
      refine xA.topi (xu_same) ?_
      refine xA.iconst (v := (-1)) rfl (by decide) rfl ?_
      refine xA.icmp_eq (tgt := 198) rfl rfl rfl (fun h191 => ?_) (fun h191 => ?_)
      · exact absurd h191 (nI_m1 (by omega))
      · refine xA.iconst (v := 1) rfl (by decide) rfl ?_
        refine xA.goto (q := 199) rfl rfl ?_
        refine xA.iconst (v := 5) rfl (by decide) rfl ?_
        refine xA.callVi (As := [_, _]) rfl k1_57 okX1_goesOn hk.1 rfl rfl rfl (Nat.le_of_ble_eq_true rfl) (c_X1_goesOn1 (d + 2) _ G k hk _) rfl rfl ?_
        exact xA.iret rfl rfl rfl ⟨_, rfl, (xu_fr (xu_fr fr_rf (by omega)) (by omega)), Or.inr ⟨_, by simp [hstep, hs, hd], rfl, hC_back hc v hs⟩⟩
  by_cases h4_5 : hSt h = 5
  · have hs := h4_5; refine xA.topi (congrArg nI hs : _ = nI 5) ?_
    refine xA.tsIn (q := 204) rfl (by decide) (by decide) rfl rfl ?_
    by_cases hd : c = 59
    · skip
      refine xA.aload_n (i := 0) rfl rfl rfl rfl ?_
      refine xA.iload_n (i := 1) rfl rfl rfl rfl ?_
      refine xA.bipush (v := 59) rfl (by decide) rfl ?_
      refine xA.icmp_ne (tgt := 215) rfl rfl rfl (fun h208 => ?_) (fun h208 => ?_)
      · exact absurd (by rw [hd]; rfl) h208
      · refine xA.iconst (v := 1) rfl (by decide) rfl ?_
        refine xA.goto (q := 216) rfl rfl ?_
        refine xA.bipush (v := 6) rfl (by decide) rfl ?_
        refine xA.callVi (As := [_, _]) rfl k1_57 okX1_goesOn hk.1 rfl rfl rfl (Nat.le_of_ble_eq_true rfl) (c_X1_goesOn1 (d + 2) _ G k hk _) rfl rfl ?_
        exact xA.iret rfl rfl rfl ⟨_, rfl, (xu_fr fr_rf (by omega)), Or.inr ⟨_, by simp [hstep, hs, hd], rfl, hC_stage hc 6 (by omega) (by omega) (by omega)⟩⟩
    · skip
      refine xA.aload_n (i := 0) rfl rfl rfl rfl ?_
      refine xA.iload_n (i := 1) rfl rfl rfl rfl ?_
      refine xA.bipush (v := 59) rfl (by decide) rfl ?_
      refine xA.icmp_ne (tgt := 215) rfl rfl rfl (fun h208 => ?_) (fun h208 => ?_)
      · refine xA.iconst (v := 0) rfl (by decide) rfl ?_
        refine xA.bipush (v := 6) rfl (by decide) rfl ?_
        refine xA.callVi (As := [_, _]) rfl k1_57 okX1_goesOn hk.1 rfl rfl rfl (Nat.le_of_ble_eq_true rfl) (c_X1_goesOn0 (d + 2) _ G k hk _) rfl rfl ?_
        exact xA.iret rfl rfl rfl ⟨_, rfl, fr_rf, Or.inl ⟨by simp [hstep, hs, hd], rfl⟩⟩
      · exact absurd ((nI_eq (b := 59) (by omega) (by omega)).mp h208) hd
  by_cases h4_6 : hSt h = 6
  · have hs := h4_6; refine xA.topi (congrArg nI hs : _ = nI 6) ?_
    refine xA.tsIn (q := 56) rfl (by decide) (by decide) rfl rfl ?_
    rcases hd : hdg c 0 5 with _ | v
    · skip
      refine xA.aload_n (i := 0) rfl rfl rfl rfl ?_
      refine xA.iload_n (i := 1) rfl rfl rfl rfl ?_
      refine xA.callSNi (As := [_]) rfl k1_51 okX9_roomDigitOf rfl rfl (Nat.le_of_ble_eq_true rfl) (c_X9_roomDigitOf (d + 1) _ G _) rfl rfl ?_
      refine xA.topi ((xdig_nI 0 5 h126 (by omega) (by omega)).trans (show oI (hdg c 0 5) = -1 from by simp only [hd, oI])) ?_
      refine xA.putI rfl p1_54 hk.1 rfl rfl ?_
      refine xA.aload_n (i := 0) rfl rfl rfl rfl ?_
      refine xA.aload_n (i := 0) rfl rfl rfl rfl ?_
      refine xA.getI rfl f1_54 hk.1 rfl rfl ?_
      refine xA.topi (xu_same) ?_
      refine xA.iconst (v := (-1)) rfl (by decide) rfl ?_
      refine xA.icmp_eq (tgt := 77) rfl rfl rfl (fun h70 => ?_) (fun h70 => ?_)
      · refine xA.iconst (v := 0) rfl (by decide) rfl ?_
        refine xA.aload_n (i := 0) rfl rfl rfl rfl ?_
        refine xA.getI rfl f1_39 hk.1 rfl rfl ?_
        refine xA.topi (((xu_ne2 (by omega)).trans hc.1 : _ = nI (hSt h))) ?_
        refine xA.iconst (v := 1) rfl (by decide) rfl ?_
        refine xA.iadd rfl rfl ?_
        refine xA.topi (nI_1 _) ?_
        refine xA.callVi (As := [_, _]) rfl k1_57 okX1_goesOn hk.1 rfl rfl rfl (Nat.le_of_ble_eq_true rfl) (c_X1_goesOn0 (d + 2) _ G k hk _) rfl rfl ?_
        exact xA.iret rfl rfl rfl ⟨_, rfl, (xu_fr fr_rf (by omega)), Or.inl ⟨by simp [hstep, hs, hd], rfl⟩⟩
      · exact absurd rfl h70
    · have hv := hdg_some hd
      refine xA.aload_n (i := 0) rfl rfl rfl rfl ?_
      refine xA.iload_n (i := 1) rfl rfl rfl rfl ?_
      refine xA.callSNi (As := [_]) rfl k1_51 okX9_roomDigitOf rfl rfl (Nat.le_of_ble_eq_true rfl) (c_X9_roomDigitOf (d + 1) _ G _) rfl rfl ?_
      refine xA.topi ((xdig_nI 0 5 h126 (by omega) (by omega)).trans (show oI (hdg c 0 5) = nI v from by simp only [hd, oI])) ?_
      refine xA.putI rfl p1_54 hk.1 rfl rfl ?_
      refine xA.aload_n (i := 0) rfl rfl rfl rfl ?_
      refine xA.aload_n (i := 0) rfl rfl rfl rfl ?_
      refine xA.getI rfl f1_54 hk.1 rfl rfl ?_
      refine xA.topi (xu_same) ?_
      refine xA.iconst (v := (-1)) rfl (by decide) rfl ?_
      refine xA.icmp_eq (tgt := 77) rfl rfl rfl (fun h70 => ?_) (fun h70 => ?_)
      · exact absurd h70 (nI_m1 (by omega))
      · refine xA.iconst (v := 1) rfl (by decide) rfl ?_
        refine xA.goto (q := 78) rfl rfl ?_
        refine xA.aload_n (i := 0) rfl rfl rfl rfl ?_
        refine xA.getI rfl f1_39 hk.1 rfl rfl ?_
        refine xA.topi (((xu_ne2 (by omega)).trans hc.1 : _ = nI (hSt h))) ?_
        refine xA.iconst (v := 1) rfl (by decide) rfl ?_
        refine xA.iadd rfl rfl ?_
        refine xA.topi (nI_1 _) ?_
        refine xA.callVi (As := [_, _]) rfl k1_57 okX1_goesOn hk.1 rfl rfl rfl (Nat.le_of_ble_eq_true rfl) (c_X1_goesOn1 (d + 2) _ G k hk _) rfl rfl ?_
        exact xA.iret rfl rfl rfl ⟨_, rfl, (xu_fr (xu_fr fr_rf (by omega)) (by omega)), Or.inr ⟨_, by simp [hstep, hs, hd], rfl, hC_first hc v (by omega)⟩⟩
  by_cases h4_7 : hSt h = 7
  · have hs := h4_7; refine xA.topi (congrArg nI hs : _ = nI 7) ?_
    refine xA.tsIn (q := 222) rfl (by decide) (by decide) rfl rfl ?_
    rcases hd : hdg c 0 5 with _ | v
    · have hfi := ho.2.2.2.2.2.2.2.1 (Or.inr hs)
      refine xA.aload_n (i := 0) rfl rfl rfl rfl ?_
      refine xA.aload_n (i := 0) rfl rfl rfl rfl ?_
      refine xA.aload_n (i := 0) rfl rfl rfl rfl ?_
      refine xA.getI rfl f1_54 hk.1 rfl rfl ?_
      refine xA.topi (hc.2.2.2.2.2.1 (Or.inr hs)) ?_
      refine xA.iload_n (i := 1) rfl rfl rfl rfl ?_
      refine xA.callSNi (As := [_]) rfl k1_51 okX9_roomDigitOf rfl rfl (Nat.le_of_ble_eq_true rfl) (c_X9_roomDigitOf (d + 1) _ G _) rfl rfl ?_
      refine xA.topi ((xdig_nI 0 5 h126 (by omega) (by omega)).trans (show oI (hdg c 0 5) = -1 from by simp only [hd, oI])) ?_
      refine xA.callVi (As := [_, _]) rfl k1_69 okX1_addsSight hk.1 rfl rfl rfl (Nat.le_of_ble_eq_true rfl) (c_X1_addsSightN d _ G k hk (hFi h) 0 hfi) rfl rfl ?_
      refine xA.bipush (v := 8) rfl (by decide) rfl ?_
      refine xA.callVi (As := [_, _]) rfl k1_57 okX1_goesOn hk.1 rfl rfl rfl (Nat.le_of_ble_eq_true rfl) (c_X1_goesOn0 (d + 2) _ G k hk _) rfl rfl ?_
      exact xA.iret rfl rfl rfl ⟨_, rfl, fr_rf, Or.inl ⟨by simp [hstep, hs, hd], rfl⟩⟩
    · have hv := hdg_some hd
      have hfi := ho.2.2.2.2.2.2.2.1 (Or.inr hs)
      have hb9 : bt (S (k + 2) (hFi h)) (nI v) ↔ (hSr h (hFi h)).testBit v = true := by rw [hc.2.2.2.2.2.2.2 _ hfi]; exact bt_nI _ (ho.2.2.2.2.2.2.2.2.1 _) v (by omega)
      refine xA.aload_n (i := 0) rfl rfl rfl rfl ?_
      by_cases hcd : v ≠ hFi h ∧ (hSr h (hFi h)).testBit v = false
      · skip
        refine xA.aload_n (i := 0) rfl rfl rfl rfl ?_
        refine xA.aload_n (i := 0) rfl rfl rfl rfl ?_
        refine xA.getI rfl f1_54 hk.1 rfl rfl ?_
        refine xA.topi (hc.2.2.2.2.2.1 (Or.inr hs)) ?_
        refine xA.iload_n (i := 1) rfl rfl rfl rfl ?_
        refine xA.callSNi (As := [_]) rfl k1_51 okX9_roomDigitOf rfl rfl (Nat.le_of_ble_eq_true rfl) (c_X9_roomDigitOf (d + 1) _ G _) rfl rfl ?_
        refine xA.topi ((xdig_nI 0 5 h126 (by omega) (by omega)).trans (show oI (hdg c 0 5) = nI v from by simp only [hd, oI])) ?_
        refine xA.callVi (As := [_, _]) rfl k1_69 okX1_addsSight hk.1 rfl rfl rfl (Nat.le_of_ble_eq_true rfl) (c_X1_addsSightT d _ G k hk (hFi h) v hfi (by omega) hcd.1 (by rw [hb9, hcd.2]; decide) (hNs h) hc.2.2.1) rfl rfl ?_
        refine xA.bipush (v := 8) rfl (by decide) rfl ?_
        refine xA.callVi (As := [_, _]) rfl k1_57 okX1_goesOn hk.1 rfl rfl rfl (Nat.le_of_ble_eq_true rfl) (c_X1_goesOn1 (d + 2) _ G k hk _) rfl rfl ?_
        exact xA.iret rfl rfl rfl ⟨_, rfl, (xu_fr (xu_fr (xu_fr (xu_fr fr_rf (by omega)) (by omega)) (by omega)) (by omega)), Or.inr ⟨_, by simp only [hstep, hs, hd]; simp [hcd], rfl, hC_sight hc hs (hFi h) v hfi (by omega)⟩⟩
      · skip
        refine xA.aload_n (i := 0) rfl rfl rfl rfl ?_
        refine xA.aload_n (i := 0) rfl rfl rfl rfl ?_
        refine xA.getI rfl f1_54 hk.1 rfl rfl ?_
        refine xA.topi (hc.2.2.2.2.2.1 (Or.inr hs)) ?_
        refine xA.iload_n (i := 1) rfl rfl rfl rfl ?_
        refine xA.callSNi (As := [_]) rfl k1_51 okX9_roomDigitOf rfl rfl (Nat.le_of_ble_eq_true rfl) (c_X9_roomDigitOf (d + 1) _ G _) rfl rfl ?_
        refine xA.topi ((xdig_nI 0 5 h126 (by omega) (by omega)).trans (show oI (hdg c 0 5) = nI v from by simp only [hd, oI])) ?_
        refine xA.callVi (As := [_, _]) rfl k1_69 okX1_addsSight hk.1 rfl rfl rfl (Nat.le_of_ble_eq_true rfl) (c_X1_addsSightF d _ G k hk (hFi h) v hfi (by omega) (by rw [hb9]; by_cases e : v = hFi h; exact Or.inl e; exact Or.inr (by by_cases e2 : (hSr h (hFi h)).testBit v = true; exact e2; exact absurd ⟨e, by simpa using e2⟩ hcd))) rfl rfl ?_
        refine xA.bipush (v := 8) rfl (by decide) rfl ?_
        refine xA.callVi (As := [_, _]) rfl k1_57 okX1_goesOn hk.1 rfl rfl rfl (Nat.le_of_ble_eq_true rfl) (c_X1_goesOn0 (d + 2) _ G k hk _) rfl rfl ?_
        exact xA.iret rfl rfl rfl ⟨_, rfl, fr_rf, Or.inl ⟨by simp only [hstep, hs, hd]; simp [-not_and, -ne_eq, hcd], rfl⟩⟩
  by_cases h4_8 : hSt h = 8
  · have hs := h4_8; refine xA.topi (congrArg nI hs : _ = nI 8) ?_
    refine xA.tsIn (q := 241) rfl (by decide) (by decide) rfl rfl ?_
    by_cases hd : c = 44
    · skip
      refine xA.aload_n (i := 0) rfl rfl rfl rfl ?_
      by_cases hd2 : hNs h < 4
      · skip
        refine xA.iload_n (i := 1) rfl rfl rfl rfl ?_
        refine xA.bipush (v := 44) rfl (by decide) rfl ?_
        refine xA.icmp_ne (tgt := 260) rfl rfl rfl (fun h245 => ?_) (fun h245 => ?_)
        · exact absurd (by rw [hd]; rfl) h245
        · refine xA.aload_n (i := 0) rfl rfl rfl rfl ?_
          refine xA.getI rfl f1_45 hk.1 rfl rfl ?_
          refine xA.topi (hc.2.2.1) ?_
          refine xA.iconst (v := 4) rfl (by decide) rfl ?_
          refine xA.icmp_ge (tgt := 260) rfl rfl rfl (fun h253 => ?_) (fun h253 => ?_)
          · exact absurd h253 (nI_ge (b := 4) hd2 (by omega))
          · refine xA.iconst (v := 1) rfl (by decide) rfl ?_
            refine xA.goto (q := 261) rfl rfl ?_
            refine xA.bipush (v := 6) rfl (by decide) rfl ?_
            refine xA.callVi (As := [_, _]) rfl k1_57 okX1_goesOn hk.1 rfl rfl rfl (Nat.le_of_ble_eq_true rfl) (c_X1_goesOn1 (d + 2) _ G k hk _) rfl rfl ?_
            exact xA.iret rfl rfl rfl ⟨_, rfl, (xu_fr fr_rf (by omega)), Or.inr ⟨_, by simp [hstep, hs, hd, hd2], rfl, hC_stage hc 6 (by omega) (by omega) (by omega)⟩⟩
      · skip
        refine xA.iload_n (i := 1) rfl rfl rfl rfl ?_
        refine xA.bipush (v := 44) rfl (by decide) rfl ?_
        refine xA.icmp_ne (tgt := 260) rfl rfl rfl (fun h245 => ?_) (fun h245 => ?_)
        · exact absurd (by rw [hd]; rfl) h245
        · refine xA.aload_n (i := 0) rfl rfl rfl rfl ?_
          refine xA.getI rfl f1_45 hk.1 rfl rfl ?_
          refine xA.topi (hc.2.2.1) ?_
          refine xA.iconst (v := 4) rfl (by decide) rfl ?_
          refine xA.icmp_ge (tgt := 260) rfl rfl rfl (fun h253 => ?_) (fun h253 => ?_)
          · refine xA.iconst (v := 0) rfl (by decide) rfl ?_
            refine xA.bipush (v := 6) rfl (by decide) rfl ?_
            refine xA.callVi (As := [_, _]) rfl k1_57 okX1_goesOn hk.1 rfl rfl rfl (Nat.le_of_ble_eq_true rfl) (c_X1_goesOn0 (d + 2) _ G k hk _) rfl rfl ?_
            exact xA.iret rfl rfl rfl ⟨_, rfl, fr_rf, Or.inl ⟨by simp [hstep, hs, hd, hd2], rfl⟩⟩
          · exact absurd (nI_le (a := 4) (by omega) (by have := ho.2.2.2.1; omega)) h253
    · skip
      refine xA.aload_n (i := 0) rfl rfl rfl rfl ?_
      refine xA.iload_n (i := 1) rfl rfl rfl rfl ?_
      refine xA.bipush (v := 44) rfl (by decide) rfl ?_
      refine xA.icmp_ne (tgt := 260) rfl rfl rfl (fun h245 => ?_) (fun h245 => ?_)
      · refine xA.iconst (v := 0) rfl (by decide) rfl ?_
        refine xA.bipush (v := 6) rfl (by decide) rfl ?_
        refine xA.callVi (As := [_, _]) rfl k1_57 okX1_goesOn hk.1 rfl rfl rfl (Nat.le_of_ble_eq_true rfl) (c_X1_goesOn0 (d + 2) _ G k hk _) rfl rfl ?_
        exact xA.iret rfl rfl rfl ⟨_, rfl, fr_rf, Or.inl ⟨by simp [hstep, hs, hd], rfl⟩⟩
      · exact absurd ((nI_eq (b := 44) (by omega) (by omega)).mp h245) hd
  exact absurd ho.1 (by omega)
end
section
variable {τ : List xSh}
/-! ===== the texts read: the house, a life by its letters; the page ===== -/
/-- the page holds these letters -/
def pgC (S : Nat → Nat → Int32) (pg : Nat → Nat) (n : Nat) : Prop := S 1 1 = nI n ∧ n ≤ 45 ∧ (∀ i, i < n → S 2 i = nI (pg i)) ∧ ∀ i, i < n → pg i ≤ 126
theorem pgC.to {S S' : Nat → Nat → Int32} {pg : Nat → Nat} {n : Nat} (h : pgC S pg n) (h1 : S' 1 = S 1) (h2 : S' 2 = S 2) : pgC S' pg n := ⟨by rw [h1]; exact h.1, h.2.1, fun i hi => by rw [h2]; exact h.2.2.1 i hi, h.2.2.2⟩
/-- so many of the first ones are so, all behind them -/
def pre (f : Nat → Bool) : Nat → Bool
  | 0 => true
  | i + 1 => pre f i && f i
def fpl (f : Nat → Bool) (n : Nat) : Nat := cn (fun i => pre f (i + 1)) n
theorem fpl_all {f : Nat → Bool} {n : Nat} (h : pre f n = true) : fpl f n = n := by
  have key : ∀ m, pre f m = true → cn (fun i => pre f (i + 1)) m = m := by
    intro m
    induction m with
    | zero => intro _; rfl
    | succ m ih =>
      intro hm
      have h1 : pre f m = true := by simp only [pre, Bool.and_eq_true] at hm; exact hm.1
      rw [cn, ih h1, hm]; rfl
  exact key n h
theorem pre_dead {f : Nat → Bool} {i : Nat} (h : pre f i = false) : ∀ t, pre f (i + t) = false := by
  intro t
  induction t with
  | zero => exact h
  | succ t ih => show (pre f (i + t) && f (i + t)) = false; rw [ih]; rfl
theorem fpl_at {f : Nat → Bool} {i n : Nat} (hi : i < n) (h : pre f i = true) (hf : f i = false) : fpl f n = i := by
  have hd : pre f (i + 1) = false := by simp [pre, hf]
  have key : ∀ t, cn (fun i => pre f (i + 1)) (i + t) = i := by
    intro t
    induction t with
    | zero => exact fpl_all h
    | succ t ih =>
      show cn (fun i => pre f (i + 1)) (i + t) + (if pre f (i + t + 1) = true then 1 else 0) = i
      have h1 : pre f (i + t + 1) = false := by
        have := pre_dead hd t
        rwa [show i + 1 + t = i + t + 1 by omega] at this
      rw [ih, h1]; rfl
  have e : n = i + (n - i) := by omega
  rw [e]; exact key (n - i)
theorem fpl_le (f : Nat → Bool) (n : Nat) : fpl f n ≤ n := cn_le _ _
theorem fpl_lt {f : Nat → Bool} {n : Nat} : fpl f n < n ↔ pre f n = false := by
  constructor
  · intro h
    cases hp : pre f n with
    | false => rfl
    | true => rw [fpl_all hp] at h; omega
  · intro h
    have key : ∀ m, pre f m = false → fpl f m < m := by
      intro m
      induction m with
      | zero => intro h; cases h
      | succ m ih =>
        intro hm
        have h1 := cn_le (fun i => pre f (i + 1)) m
        show cn (fun i => pre f (i + 1)) m + (if pre f (m + 1) = true then 1 else 0) < m + 1
        rw [hm]; simp only [Bool.false_eq_true, if_false]; omega
    exact key n h
theorem pre_succ {f : Nat → Bool} {i : Nat} (h : pre f i = true) (hf : f i = true) : pre f (i + 1) = true := by simp [pre, h, hf]
/-- the house behind so many letters -/
def hrun (pg : Nat → Nat) : Nat → Option hS
  | 0 => some h0
  | i + 1 => (hrun pg i).bind (fun h => hstep h (pg i))
def hgo (pg : Nat → Nat) (i : Nat) : Bool := (hrun pg (i + 1)).isSome
theorem hgo_t {pg : Nat → Nat} {i : Nat} {h h2 : hS} (h1 : hrun pg i = some h) (hs : hstep h (pg i) = some h2) : hgo pg i = true ∧ hrun pg (i + 1) = some h2 := by
  have e : hrun pg (i + 1) = some h2 := by rw [hrun, h1]; exact hs
  exact ⟨by rw [hgo, e]; rfl, e⟩
theorem hgo_f {pg : Nat → Nat} {i : Nat} {h : hS} (h1 : hrun pg i = some h) (hs : hstep h (pg i) = none) : hgo pg i = false := by
  rw [hgo, hrun, h1]; simp [hs]
theorem hok0 : hOk h0 := by
  refine ⟨Nat.zero_le _, Nat.zero_le _, fun _ => by decide, Nat.zero_le _, fun _ => by decide, fun z => ?_, fun z => ?_, fun z => ?_, fun a => ?_, fun a b _ _ => (by show (0 : Nat).testBit b = (0 : Nat).testBit a; simp), fun a b _ _ => ⟨rfl, Nat.zero_le _⟩, fun a _ => rfl, fun j hj => ?_, fun a b j _ _ hj => ?_, fun z => ?_⟩
  · have : 4 ≤ 0 := z; omega
  · have : 5 ≤ 0 := z; omega
  · have : (0 : Nat) = 1 ∨ (0 : Nat) = 7 := z; omega
  · show 0 < 64; omega
  · have : j < 0 := hj; omega
  · have : 0 = j + 1 := hj; omega
  · have : 2 ≤ 0 := z; omega
theorem hC0 {S : Nat → Nat → Int32} {k : Nat} : hC (hcE S k) k h0 := by
  have k1 : ¬ k = k + 1 := by omega
  have k2 : ¬ k = k + 2 := by omega
  have k3 : ¬ k + 1 = k := by omega
  have k4 : ¬ k + 2 = k := by omega
  refine ⟨by show _ = nI 0; simp [hcE, xu]; rfl, by show _ = nI 0; simp [hcE, xu]; rfl, by show _ = nI 0; simp [hcE, xu]; rfl, fun z => ?_, fun z => ?_, fun z => ?_, fun a ha => ?_, fun a ha => ?_⟩
  · have : 4 ≤ 0 := z; omega
  · have : 5 ≤ 0 := z; omega
  · have : (0 : Nat) = 1 ∨ (0 : Nat) = 7 := z; omega
  · simp only [hcE, xu, hcS, k3, if_false, if_true, ha]; rfl
  · simp only [hcE, xu, hcS, k4, if_false, if_true, ha]
    rw [if_neg (by omega)]; rfl
theorem hcE_fr {S : Nat → Nat → Int32} {k : Nat} : frW k 3 S (hcE S k) := fun j hj => by
  funext i
  simp only [hcE, xu, hcS]
  rw [if_neg (by omega), if_neg (by omega), if_neg (by omega), if_neg (by omega), if_neg (by omega), if_neg (by omega), if_neg (by omega)]
theorem frW.trans {k w : Nat} {S S1 S2 : Nat → Nat → Int32} (h : frW k w S S1) (h2 : frW k w S1 S2) : frW k w S S2 := fun j hj => (h2 j hj).trans (h j hj)

set_option maxRecDepth 100000 in
set_option maxHeartbeats 400000 in
theorem c_X4_at (d : Nat) (S : Nat → Nat → Int32) (G : Nat → Nat → Int64) (pg : Nat → Nat) (n : Nat) (hp : pgC S pg n) (i : Nat) (hi : i < n) : xR τ d mX4_at [.ref 1, .int (nI i)] S G (some (.int (nI (pg i)))) S G := by
  refine xC.of okX4_at (Nat.le_of_ble_eq_true rfl) (L := [_, _]) rfl ?_
  refine xA.iload_n (i := 1) rfl rfl rfl rfl ?_
  refine xA.if_lt (tgt := 30) rfl rfl rfl (fun h1 => ?_) (fun h1 => ?_)
  · exact absurd h1 (nI_pos (by have := hp.2.1; omega))
  · refine xA.iload_n (i := 1) rfl rfl rfl rfl ?_
    refine xA.aload_n (i := 0) rfl rfl rfl rfl ?_
    refine xA.getI rfl f4_21 rfl rfl rfl ?_
    refine xA.topi (hp.1) ?_
    refine xA.icmp_ge (tgt := 30) rfl rfl rfl (fun h9 => ?_) (fun h9 => ?_)
    · exact absurd h9 (nI_ge hi (by have := hp.2.1; omega))
    · refine xA.iload_n (i := 1) rfl rfl rfl rfl ?_
      refine xA.aload_n (i := 0) rfl rfl rfl rfl ?_
      refine xA.getR rfl f4_9 rfl rfl rfl rfl ?_
      refine xA.alen rfl rfl rfl ?_
      refine xA.icmp_ge (tgt := 30) rfl rfl rfl (fun h18 => ?_) (fun h18 => ?_)
      · exact absurd h18 (nI_ge (b := 45) (by have := hp.2.1; omega) (by omega))
      · refine xA.aload_n (i := 0) rfl rfl rfl rfl ?_
        refine xA.getR rfl f4_9 rfl rfl rfl rfl ?_
        refine xA.iload_n (i := 1) rfl rfl rfl rfl ?_
        refine xA.iald rfl rfl (vp_in_nI (by have := hp.2.1; omega) (by omega)) rfl ?_
        refine xA.topi (((congrArg (S 2) (nI_clamp (by have := hp.2.1; omega))).trans (hp.2.2.1 i hi) : _ = nI (pg i))) ?_
        refine xA.goto (q := 31) rfl rfl ?_
        exact xA.iret rfl rfl rfl ⟨rfl, rfl⟩
theorem nu_same {f : Nat → Nat} {k v : Nat} : nu f k v k = v := by simp [nu]
theorem nu_ne {f : Nat → Nat} {k v j : Nat} (h : j ≠ k) : nu f k v j = f j := by simp [nu, h]
theorem six {a b c e : Nat} (hb : b < 6) (he : e < 6) : a * 6 + b = c * 6 + e ↔ a = c ∧ b = e := by omega
theorem hok_step {h h2 : hS} {c : Nat} (ho : hOk h) (hs : hstep h c = some h2) : hOk h2 := by
  obtain ⟨o1, o2, o3, o4, o5, o6, o7, o8, o9, o10, o11, o12, o13, o14, o15⟩ := ho
  unfold hstep at hs
  split at hs
  · rename_i e
    obtain ⟨v, hv, rfl⟩ := Option.map_eq_some_iff.mp hs
    have hv := hdg_some hv
    refine ⟨?_, o2, ?_, o4, ?_, ?_, ?_, ?_, o9, o10, o11, o12, o13, o14, ?_⟩ <;> simp only [hSt, hNd, hNs, hLo, hBa, hFi] at * <;> omega
  · rename_i e0
    split at hs
    · rename_i e
      obtain ⟨v, hv, hs⟩ := Option.bind_eq_some_iff.mp hs
      split at hs
      · rename_i hcd
        cases hs
        have hv := hdg_some hv
        have hfi := o8 (Or.inl e)
        have hnd := o3 (by omega)
        obtain ⟨hne, hz⟩ := hcd
        have d1 : ∀ a b, a < 6 → b < 6 → nu (nu (hD h) (hFi h * 6 + v) (hNd h + 1)) (v * 6 + hFi h) (hNd h + 1) (a * 6 + b) = if (a = v ∧ b = hFi h) ∨ (a = hFi h ∧ b = v) then hNd h + 1 else hD h (a * 6 + b) := by
          intro a b ha hb
          simp only [nu, six hb hfi, six hb (show v < 6 by omega)]
          by_cases c1 : a = v ∧ b = hFi h
          · rw [if_pos c1, if_pos (Or.inl c1)]
          · rw [if_neg c1]
            by_cases c2 : a = hFi h ∧ b = v
            · rw [if_pos c2, if_pos (Or.inr c2)]
            · rw [if_neg c2, if_neg (by omega)]
        refine ⟨by show 2 ≤ 8; omega, by show hNd h + 1 ≤ 10; omega, fun z => absurd z (by show ¬ 2 ≤ 1; omega), o4, fun _ => o5 (by omega), fun z => absurd z (by show ¬ 4 ≤ 2; omega), fun z => absurd z (by show ¬ 5 ≤ 2; omega), fun z => absurd z (by show ¬ (2 = 1 ∨ 2 = 7); omega), o9, o10, fun a b ha hb => ?_, fun a ha => ?_, fun j hj => ?_, fun a b j ha hb hj => ?_, fun _ => by show 1 ≤ hNd h + 1; omega⟩
        · have q := o11 a b ha hb
          show nu (nu (hD h) (hFi h * 6 + v) (hNd h + 1)) (v * 6 + hFi h) (hNd h + 1) (a * 6 + b) = nu (nu (hD h) (hFi h * 6 + v) (hNd h + 1)) (v * 6 + hFi h) (hNd h + 1) (b * 6 + a) ∧ nu (nu (hD h) (hFi h * 6 + v) (hNd h + 1)) (v * 6 + hFi h) (hNd h + 1) (a * 6 + b) ≤ hNd h + 1
          rw [d1 a b ha hb, d1 b a hb ha]
          by_cases c1 : (a = v ∧ b = hFi h) ∨ (a = hFi h ∧ b = v)
          · rw [if_pos c1, if_pos (by omega)]; exact ⟨rfl, Nat.le_refl _⟩
          · rw [if_neg c1, if_neg (by omega)]; exact ⟨q.1, by omega⟩
        · show nu (nu (hD h) (hFi h * 6 + v) (hNd h + 1)) (v * 6 + hFi h) (hNd h + 1) (a * 6 + a) = 0
          rw [d1 a a ha ha, if_neg (by rintro (⟨z1, z2⟩ | ⟨z1, z2⟩) <;> exact hne (by omega))]
          exact o12 a ha
        · show nu (hOn h) (hNd h) (hFi h) j < 6 ∧ nu (hTw h) (hNd h) v j < 6 ∧ nu (nu (hD h) (hFi h * 6 + v) (hNd h + 1)) (v * 6 + hFi h) (hNd h + 1) (nu (hOn h) (hNd h) (hFi h) j * 6 + nu (hTw h) (hNd h) v j) = j + 1
          by_cases hjn : j = hNd h
          · subst hjn
            rw [nu_same, nu_same, d1 _ _ hfi (by omega), if_pos (Or.inr ⟨rfl, rfl⟩)]
            exact ⟨hfi, by omega, rfl⟩
          · rw [nu_ne hjn, nu_ne hjn]
            have hj2 : j < hNd h + 1 := hj
            obtain ⟨q1, q2, q3⟩ := o13 j (by omega)
            refine ⟨q1, q2, ?_⟩
            rw [d1 _ _ q1 q2, if_neg, q3]
            rintro (⟨z1, z2⟩ | ⟨z1, z2⟩)
            · rw [z1, z2, (o11 v (hFi h) (by omega) hfi).1, hz] at q3; omega
            · rw [z1, z2, hz] at q3; omega
        · have hj2 : nu (nu (hD h) (hFi h * 6 + v) (hNd h + 1)) (v * 6 + hFi h) (hNd h + 1) (a * 6 + b) = j + 1 := hj
          rw [d1 a b ha hb] at hj2
          show (a = nu (hOn h) (hNd h) (hFi h) j ∧ b = nu (hTw h) (hNd h) v j) ∨ (a = nu (hTw h) (hNd h) v j ∧ b = nu (hOn h) (hNd h) (hFi h) j)
          by_cases c1 : (a = v ∧ b = hFi h) ∨ (a = hFi h ∧ b = v)
          · rw [if_pos c1] at hj2
            have : j = hNd h := by omega
            subst this
            rw [nu_same, nu_same]
            omega
          · rw [if_neg c1] at hj2
            have q := (o11 a b ha hb).2
            have hjn : j ≠ hNd h := by omega
            rw [nu_ne hjn, nu_ne hjn]
            exact o14 a b j ha hb hj2
      · cases hs
    · split at hs
      · rename_i e
        split at hs
        · cases hs
          refine ⟨?_, o2, ?_, o4, ?_, ?_, ?_, ?_, o9, o10, o11, o12, o13, o14, ?_⟩ <;> simp only [hSt, hNd, hNs, hLo, hBa, hFi] at * <;> omega
        · split at hs
          · cases hs
            refine ⟨?_, o2, ?_, o4, ?_, ?_, ?_, ?_, o9, o10, o11, o12, o13, o14, ?_⟩ <;> simp only [hSt, hNd, hNs, hLo, hBa, hFi] at * <;> omega
          · cases hs
      · split at hs
        · rename_i e
          obtain ⟨v, hv, rfl⟩ := Option.map_eq_some_iff.mp hs
          have hv := hdg_some hv
          refine ⟨?_, o2, ?_, o4, ?_, ?_, ?_, ?_, o9, o10, o11, o12, o13, o14, ?_⟩ <;> simp only [hSt, hNd, hNs, hLo, hBa, hFi] at * <;> omega
        · split at hs
          · rename_i e
            obtain ⟨v, hv, rfl⟩ := Option.map_eq_some_iff.mp hs
            have hv := hdg_some hv
            refine ⟨?_, o2, ?_, o4, ?_, ?_, ?_, ?_, o9, o10, o11, o12, o13, o14, ?_⟩ <;> simp only [hSt, hNd, hNs, hLo, hBa, hFi] at * <;> omega
          · split at hs
            · rename_i e
              split at hs
              · cases hs
                refine ⟨?_, o2, ?_, o4, ?_, ?_, ?_, ?_, o9, o10, o11, o12, o13, o14, ?_⟩ <;> simp only [hSt, hNd, hNs, hLo, hBa, hFi] at * <;> omega
              · cases hs
            · split at hs
              · rename_i e
                obtain ⟨v, hv, hs⟩ := Option.bind_eq_some_iff.mp hs
                split at hs
                · rename_i hcd
                  cases hs
                  have hv := hdg_some hv
                  have hfi := o8 (Or.inr e)
                  have hns := o5 (by omega)
                  refine ⟨by show 8 ≤ 8; omega, o2, fun z => absurd z (by show ¬ 8 ≤ 1; omega), by show hNs h + 1 ≤ 4; omega, fun z => absurd z (by show ¬ 8 ≤ 7; omega), fun _ => o6 (by omega), fun _ => o7 (by omega), fun z => absurd z (by show ¬ (8 = 1 ∨ 8 = 7); omega), fun a => ?_, fun a b ha hb => ?_, o11, o12, o13, o14, fun _ => o15 (by omega)⟩
                  · show nu (nu (hSr h) (hFi h) (hSr h (hFi h) ||| 2 ^ v)) v (hSr h v ||| 2 ^ hFi h) a < 64
                    simp only [nu]
                    split
                    · exact or_lt64 (o9 _) hfi
                    · split
                      · exact or_lt64 (o9 _) (by omega)
                      · exact o9 a
                  · show (nu (nu (hSr h) (hFi h) (hSr h (hFi h) ||| 2 ^ v)) v (hSr h v ||| 2 ^ hFi h) a).testBit b = (nu (nu (hSr h) (hFi h) (hSr h (hFi h) ||| 2 ^ v)) v (hSr h v ||| 2 ^ hFi h) b).testBit a
                    have q := o10 a b ha hb
                    have key : ∀ x y, x < 6 → y < 6 → (nu (nu (hSr h) (hFi h) (hSr h (hFi h) ||| 2 ^ v)) v (hSr h v ||| 2 ^ hFi h) x).testBit y = ((hSr h x).testBit y || (decide (x = v) && decide (hFi h = y)) || (decide (x = hFi h) && decide (v = y))) := by
                      intro x y hx hy
                      have hne := hcd.1
                      simp only [nu]
                      by_cases c1 : x = v
                      · subst c1
                        simp [Nat.testBit_or, Nat.testBit_two_pow, hne]
                      · rw [if_neg c1]
                        by_cases c2 : x = hFi h
                        · subst c2
                          simp [Nat.testBit_or, Nat.testBit_two_pow, c1]
                        · rw [if_neg c2]
                          simp [c1, c2]
                    rw [key a b ha hb, key b a hb ha, q]
                    rw [show decide (hFi h = b) = decide (b = hFi h) from decide_eq_decide.mpr eq_comm, show decide (v = b) = decide (b = v) from decide_eq_decide.mpr eq_comm, show decide (hFi h = a) = decide (a = hFi h) from decide_eq_decide.mpr eq_comm, show decide (v = a) = decide (a = v) from decide_eq_decide.mpr eq_comm]
                    generalize (hSr h b).testBit a = z0
                    generalize decide (a = v) = z1
                    generalize decide (b = v) = z2
                    generalize decide (a = hFi h) = z3
                    generalize decide (b = hFi h) = z4
                    cases z0 <;> cases z1 <;> cases z2 <;> cases z3 <;> cases z4 <;> rfl
                · cases hs
              · split at hs
                · rename_i e
                  cases hs
                  refine ⟨?_, o2, ?_, o4, ?_, ?_, ?_, ?_, o9, o10, o11, o12, o13, o14, ?_⟩ <;> simp only [hSt, hNd, hNs, hLo, hBa, hFi] at * <;> omega
                · cases hs

theorem hrok (pg : Nat → Nat) : ∀ i h, hrun pg i = some h → hOk h := by
  intro i
  induction i with
  | zero => intro h hh; cases hh; exact hok0
  | succ i ih =>
    intro h hh
    obtain ⟨h1, e1, e2⟩ := Option.bind_eq_some_iff.mp hh
    exact hok_step (ih h1 e1) e2
theorem hrun_dead {pg : Nat → Nat} {i n : Nat} (h : hgo pg i = false) (hi : i < n) : hrun pg n = none := by
  have h1 : hrun pg (i + 1) = none := by
    unfold hgo at h
    cases e : hrun pg (i + 1) with
    | none => rfl
    | some z => rw [e] at h; cases h
  have key : ∀ t, hrun pg (i + 1 + t) = none := by
    intro t
    induction t with
    | zero => exact h1
    | succ t ih => show (hrun pg (i + 1 + t)).bind _ = none; rw [ih]; rfl
  have e : n = i + 1 + (n - (i + 1)) := by omega
  rw [e]; exact key _
set_option maxRecDepth 100000 in
set_option maxHeartbeats 1000000 in
theorem c_X1_read (d : Nat) (S : Nat → Nat → Int32) (G : Nat → Nat → Int64) (k : Nat) (hk : isHouse τ k) (h3 : 3 ≤ k) (pg : Nat → Nat) (n : Nat) (hp : pgC S pg n) : xC (d + 4) mX1_read [.ref k, .ref 1] ((σF τ), S, G) 0 0 (fun r h' => ∃ S', h' = ((σF τ), S', G) ∧ frW k 3 S S' ∧ r = some (.int (nI (fpl (hgo pg) n))) ∧ ∀ h, hrun pg n = some h → hC S' k h) := by
  have hn45 := hp.2.1
  refine xC.of okX1_read (Nat.le_of_ble_eq_true rfl) (L := [_, _, _]) rfl ?_
  have loop : ∀ i, i ≤ n → ∀ (S1 : Nat → Nat → Int32) (h : hS), frW k 3 S S1 → hrun pg i = some h → hC S1 k h → pre (hgo pg) i = true → xA none (d + 4) mX1_read 0 0 0 0 6 [some (.ref k), some (.ref 1), some (.int (nI i))] [] ((σF τ), S1, G) (fun r h' => ∃ S', h' = ((σF τ), S', G) ∧ frW k 3 S S' ∧ r = some (.int (nI (fpl (hgo pg) n))) ∧ ∀ h, hrun pg n = some h → hC S' k h) := by
    refine xloop n (fun i hi ih => ?_) ?_
    · intro S1 h hf hr hc hpr
      have hp2 : pgC S1 pg n := hp.to (hf 1 (by omega)) (hf 2 (by omega))
      refine xA.iload_n (i := 2) rfl rfl rfl rfl ?_
      refine xA.aload_n (i := 1) rfl rfl rfl rfl ?_
      refine xA.callVi (As := []) rfl k1_25 okX4_length rfl rfl rfl rfl (Nat.le_of_ble_eq_true rfl) (c_X4_length (d + 3) _ G) rfl rfl ?_
      refine xA.topi hp2.1 ?_
      refine xA.icmp_ge (tgt := 34) rfl rfl rfl (fun h11 => ?_) (fun h11 => ?_)
      · exact absurd h11 (nI_ge hi (by omega))
      · refine xA.aload_n (i := 0) rfl rfl rfl rfl ?_
        refine xA.aload_n (i := 1) rfl rfl rfl rfl ?_
        refine xA.iload_n (i := 2) rfl rfl rfl rfl ?_
        refine xA.callVi (As := [_]) rfl k1_31 okX4_at rfl rfl rfl rfl (Nat.le_of_ble_eq_true rfl) (c_X4_at (d + 3) _ G pg n hp2 i hi) rfl rfl ?_
        refine xA.callV (As := [_]) (h := ((σF τ), _, _)) rfl k1_35 okX1_takes hk.1 rfl rfl rfl (Nat.le_of_ble_eq_true rfl) (c_X1_takes d _ G k hk h (hrok pg i h hr) hc (pg i) (hp2.2.2.2 i hi)) (Nat.le_refl _) (Nat.le_refl _) rfl rfl ?_
        rintro r9 h9 ⟨S2, rfl, hf2, ⟨hno, rfl⟩ | ⟨h2, hsm, rfl, hc2⟩⟩
        · skip
          refine xA.if_ne (tgt := 28) rfl rfl rfl (fun h23 => ?_) (fun h23 => ?_)
          · exact absurd rfl h23
          · refine xA.iload_n (i := 2) rfl rfl rfl rfl ?_
            have e := fpl_at hi hpr (hgo_f hr hno)
            exact xA.iret rfl rfl rfl ⟨S2, rfl, hf.trans hf2, by rw [e], fun z hz => absurd (hrun_dead (hgo_f hr hno) hi) (by rw [hz]; simp)⟩
        · skip
          refine xA.if_ne (tgt := 28) rfl rfl rfl (fun h23 => ?_) (fun h23 => ?_)
          · refine xA.iinc (L' := [_, _, _]) rfl rfl (nI_1 i) rfl rfl ?_
            refine xA.goto (q := 6) rfl rfl ?_
            exact ih S2 h2 (hf.trans hf2) (hgo_t hr hsm).2 hc2 (pre_succ hpr (hgo_t hr hsm).1)
          · exact absurd h23 (by decide)
    · intro S1 h hf hr hc hpr
      have hp2 : pgC S1 pg n := hp.to (hf 1 (by omega)) (hf 2 (by omega))
      refine xA.iload_n (i := 2) rfl rfl rfl rfl ?_
      refine xA.aload_n (i := 1) rfl rfl rfl rfl ?_
      refine xA.callVi (As := []) rfl k1_25 okX4_length rfl rfl rfl rfl (Nat.le_of_ble_eq_true rfl) (c_X4_length (d + 3) _ G) rfl rfl ?_
      refine xA.topi hp2.1 ?_
      refine xA.icmp_ge (tgt := 34) rfl rfl rfl (fun h11 => ?_) (fun h11 => ?_)
      · refine xA.aload_n (i := 1) rfl rfl rfl rfl ?_
        refine xA.callVi (As := []) rfl k1_25 okX4_length rfl rfl rfl rfl (Nat.le_of_ble_eq_true rfl) (c_X4_length (d + 3) _ G) rfl rfl ?_
        refine xA.topi hp2.1 ?_
        exact xA.iret rfl rfl rfl ⟨S1, rfl, hf, by rw [fpl_all hpr], fun z hz => by rw [hr] at hz; cases hz; exact hc⟩
      · exact absurd (nI_le (Nat.le_refl _) (by omega)) h11
  refine xA.aload_n (i := 0) rfl rfl rfl rfl ?_
  refine xA.callVv (As := []) rfl k1_22 okX1_clear hk.1 rfl rfl rfl (Nat.le_of_ble_eq_true rfl) (c_X1_clear (d + 3) _ G k hk) rfl rfl ?_
  refine xA.iconst (v := 0) rfl (by decide) rfl ?_
  refine xA.istore_n (i := 2) (L' := [_, _, _]) rfl rfl (Nat.le_of_ble_eq_true rfl) rfl rfl ?_
  exact loop 0 (Nat.zero_le _) _ h0 hcE_fr rfl hC0 rfl
end
section
variable {τ : List xSh}
/-! ===== lives read ===== -/
/-- a step's letter -/
def stp (c : Nat) : Option Nat := if c = 46 then some 6 else if c = 116 then some 7 else hdg c 0 5
theorem stp_lt {c s : Nat} (h : stp c = some s) : s < 8 := by
  unfold stp at h
  split at h
  · cases h; omega
  · split at h
    · cases h; omega
    · have := hdg_some h; omega
/-- a life's letter at its place -/
def lfo (i c : Nat) : Bool := if i = 0 ∨ i = 2 then (hdg c 0 5).isSome else if i = 1 then (hdg c 0 9).isSome else decide (i < 19) && (stp c).isSome
theorem oI_hdg {c lo hi : Nat} (hh : hi ≤ 9) : oI (hdg c lo hi) = -1 ↔ (hdg c lo hi).isSome = false := by
  rw [oI_m1 (fun v hv => by have := hdg_some hv; omega)]
  cases hdg c lo hi <;> simp
theorem oI_stp {c : Nat} : oI (stp c) = -1 ↔ (stp c).isSome = false := by
  rw [oI_m1 (fun v hv => by have := stp_lt hv; omega)]
  cases stp c <;> simp
/-- where a step leads, in whole numbers -/
def nxH (D : Nat → Nat) (low : Nat) (m r s lp : Nat) : Option Nat :=
  if s = 7 then (if r = low ∧ lp ≤ m then some ((m - lp) * 6 + r) else none)
  else if 60 ≤ m + 1 then none
  else if s = 6 then some ((m + 1) * 6 + r)
  else if D (r * 6 + s) = 0 then none else some ((m + 1) * 6 + s)
theorem nx_H {D : Nat → Int32} {low : Int32} {DN : Nat → Nat} {lowN m r s lp : Nat} (hD : ∀ a, a < 36 → D a = nI (DN a)) (hDN : ∀ a, a < 36 → DN a ≤ 10) (hl : low = nI lowN) (hln : lowN < 6) (hr : r < 6) (hs : s < 8) : nx D low m r s lp = nxH DN lowN m r s lp := by
  subst hl
  unfold nx nxH
  by_cases h7 : s = 7
  · rw [if_pos h7, if_pos h7]
    simp only [nI_eq (show r < 2 ^ 31 by omega) (show lowN < 2 ^ 31 by omega)]
  · rw [if_neg h7, if_neg h7]
    by_cases h60 : 60 ≤ m + 1
    · rw [if_pos h60, if_pos h60]
    · rw [if_neg h60, if_neg h60]
      by_cases h6 : s = 6
      · rw [if_pos h6, if_pos h6]
      · rw [if_neg h6, if_neg h6, hD _ (by omega)]
        have := hDN (r * 6 + s) (by omega)
        simp only [show (nI (DN (r * 6 + s)) = 0 ↔ DN (r * 6 + s) = 0) from nI_eq (b := 0) (by omega) (by omega)]
theorem nxH_lt {D : Nat → Nat} {low m r s lp q : Nat} (h : nxH D low m r s lp = some q) (hm : m < 60) (hr : r < 6) (hs : s < 8) : q < 360 := by
  unfold nxH at h
  split at h
  · split at h
    · cases h; omega
    · cases h
  · split at h
    · cases h
    · split at h
      · cases h; omega
      · split at h
        · cases h
        · cases h; omega
/-- a life so far: how many selves, their spots, how often through the low door, the doors as bits -/
abbrev lS : Type := Nat × (Nat → Nat) × Nat × Nat
abbrev lN' (l : lS) : Nat := l.1
abbrev lSp (l : lS) : Nat → Nat := l.2.1
abbrev lTh (l : lS) : Nat := l.2.2.1
abbrev lDb (l : lS) : Nat := l.2.2.2
def lstep (D : Nat → Nat) (low lp : Nat) (l : lS) (s : Nat) : Option lS :=
  (nxH D low (lSp l (lN' l - 1) / 6) (lSp l (lN' l - 1) % 6) s lp).map (fun q => (lN' l + 1, nu (lSp l) (lN' l) q, lTh l + (if s = 7 then 1 else 0), if s < 6 then lDb l ||| 2 ^ (D (lSp l (lN' l - 1) % 6 * 6 + s) - 1) else lDb l))
def lOk (l : lS) : Prop := 1 ≤ lN' l ∧ lN' l ≤ 17 ∧ (∀ i, i < lN' l → lSp l i < 360) ∧ lTh l < lN' l ∧ lDb l < 1024
def lC (S : Nat → Nat → Int32) (k : Nat) (l : lS) : Prop := S k 1 = nI (lN' l) ∧ S k 2 = nI (lTh l) ∧ S k 3 = nI (lDb l) ∧ ∀ i, i < lN' l → S (k + 1) i = nI (lSp l i)
theorem lok_step {D : Nat → Nat} {low lp : Nat} {l l2 : lS} {s : Nat} (ho : lOk l) (hn : lN' l < 17) (hs8 : s < 8) (hD : ∀ a, a < 36 → D a ≤ 10) (hs : lstep D low lp l s = some l2) : lOk l2 ∧ lN' l2 = lN' l + 1 := by
  obtain ⟨o1, o2, o3, o4, o5⟩ := ho
  obtain ⟨q, hq, rfl⟩ := Option.map_eq_some_iff.mp hs
  have h1 := o3 (lN' l - 1) (by omega)
  refine ⟨⟨by show 1 ≤ lN' l + 1; omega, by show lN' l + 1 ≤ 17; omega, fun i hi => ?_, ?_, ?_⟩, rfl⟩
  · show nu (lSp l) (lN' l) q i < 360
    have hi2 : i < lN' l + 1 := hi
    by_cases e : i = lN' l
    · subst e; rw [nu_same]; exact nxH_lt hq (by omega) (by omega) hs8
    · rw [nu_ne e]; exact o3 i (by omega)
  · show lTh l + _ < lN' l + 1
    split <;> omega
  · show (if s < 6 then lDb l ||| 2 ^ (D (lSp l (lN' l - 1) % 6 * 6 + s) - 1) else lDb l) < 1024
    split
    · have := hD (lSp l (lN' l - 1) % 6 * 6 + s) (by omega)
      exact Nat.or_lt_two_pow (n := 10) o5 (Nat.pow_lt_pow_right (by decide) (by omega))
    · exact o5

set_option maxRecDepth 100000 in
set_option maxHeartbeats 400000 in
theorem c_X3_stepOf (d : Nat) (S : Nat → Nat → Int32) (G : Nat → Nat → Int64) (c : Nat) (h126 : c ≤ 126) : xR τ (d + 2) mX3_stepOf [.int (nI c)] S G (some (.int (oI (stp c)))) S G := by
  refine xC.of okX3_stepOf (Nat.le_of_ble_eq_true rfl) (L := [_]) rfl ?_
  refine xA.iload_n (i := 0) rfl rfl rfl rfl ?_
  refine xA.bipush (v := 46) rfl (by decide) rfl ?_
  refine xA.icmp_ne (tgt := 9) rfl rfl rfl (fun h3 => ?_) (fun h3 => ?_)
  · have e3 : ¬ c = 46 := fun z => h3 (by rw [z]; rfl)
    refine xA.iload_n (i := 0) rfl rfl rfl rfl ?_
    refine xA.bipush (v := 116) rfl (by decide) rfl ?_
    refine xA.icmp_ne (tgt := 20) rfl rfl rfl (fun h12 => ?_) (fun h12 => ?_)
    · have e12 : ¬ c = 116 := fun z => h12 (by rw [z]; rfl)
      refine xA.iload_n (i := 0) rfl rfl rfl rfl ?_
      refine xA.callSNi (As := [_]) rfl k3_33 okX9_roomDigitOf rfl rfl (Nat.le_of_ble_eq_true rfl) (c_X9_roomDigitOf d S G _) rfl rfl ?_
      refine xA.topi (xdig_nI 0 5 h126 (by omega) (by omega)) ?_
      exact xA.iret rfl rfl rfl ⟨by first | (simp [stp, e3, e12]; done) | (simp [stp, e3]; rfl) | (simp [stp, e3, e12]; rfl), rfl⟩
    · have e12 : c = 116 := (nI_eq (b := 116) (by omega) (by omega)).mp h12
      refine xA.bipush (v := 7) rfl (by decide) rfl ?_
      refine xA.goto (q := 24) rfl rfl ?_
      exact xA.iret rfl rfl rfl ⟨by first | (simp [stp, e3, e12]; done) | (simp [stp, e3]; rfl) | (simp [stp, e3, e12]; rfl), rfl⟩
  · have e3 : c = 46 := (nI_eq (b := 46) (by omega) (by omega)).mp h3
    refine xA.bipush (v := 6) rfl (by decide) rfl ?_
    exact xA.iret rfl rfl rfl ⟨by first | (simp [stp, e3, e12]; done) | (simp [stp, e3]; rfl) | (simp [stp, e3, e12]; rfl), rfl⟩
set_option maxRecDepth 100000 in
set_option maxHeartbeats 400000 in
theorem c_X3_mayStand (d : Nat) (S : Nat → Nat → Int32) (G : Nat → Nat → Int64) (i c : Nat) (hi : i < 45) (h126 : c ≤ 126) : xR τ (d + 3) mX3_mayStand [.int (nI i), .int (nI c)] S G (some (.int (xb (lfo i c = true)))) S G := by
  refine xC.of okX3_mayStand (Nat.le_of_ble_eq_true rfl) (L := [_, _]) rfl ?_
  refine xA.iload_n (i := 0) rfl rfl rfl rfl ?_
  by_cases h1_0 : i = 0
  · have hs := h1_0; refine xA.topi (congrArg nI hs : _ = nI 0) ?_
    refine xA.tsIn (q := 28) rfl (by decide) (by decide) rfl rfl ?_
    refine xA.iload_n (i := 1) rfl rfl rfl rfl ?_
    refine xA.iconst (v := 0) rfl (by decide) rfl ?_
    refine xA.iconst (v := 5) rfl (by decide) rfl ?_
    refine xA.callSNi (As := [_, _, _]) rfl k3_29 okX9_digitOf rfl rfl (Nat.le_of_ble_eq_true rfl) (c_X9_digitOf (d + 2) S G _ _ _) rfl rfl ?_
    refine xA.topi (xdig_nI 0 5 h126 (by omega) (by omega)) ?_
    refine xA.iconst (v := (-1)) rfl (by decide) rfl ?_
    refine xA.icmp_eq (tgt := 42) rfl rfl rfl (fun h35 => ?_) (fun h35 => ?_)
    · rw [oI_hdg (by omega)] at h35
      refine xA.iconst (v := 0) rfl (by decide) rfl ?_
      exact xA.iret rfl rfl rfl ⟨by first | (rw [xb_t (by simp [lfo, hs, h35])]; done) | (rw [xb_f (by simp [lfo, hs, h35])]; done), rfl⟩
    · rw [oI_hdg (by omega)] at h35
      refine xA.iconst (v := 1) rfl (by decide) rfl ?_
      refine xA.goto (q := 43) rfl rfl ?_
      exact xA.iret rfl rfl rfl ⟨by first | (rw [xb_t (by simp [lfo, hs, h35])]; done) | (rw [xb_f (by simp [lfo, hs, h35])]; done), rfl⟩
  by_cases h1_1 : i = 1
  · have hs := h1_1; refine xA.topi (congrArg nI hs : _ = nI 1) ?_
    refine xA.tsIn (q := 44) rfl (by decide) (by decide) rfl rfl ?_
    refine xA.iload_n (i := 1) rfl rfl rfl rfl ?_
    refine xA.iconst (v := 0) rfl (by decide) rfl ?_
    refine xA.bipush (v := 9) rfl (by decide) rfl ?_
    refine xA.callSNi (As := [_, _, _]) rfl k3_29 okX9_digitOf rfl rfl (Nat.le_of_ble_eq_true rfl) (c_X9_digitOf (d + 2) S G _ _ _) rfl rfl ?_
    refine xA.topi (xdig_nI 0 9 h126 (by omega) (by omega)) ?_
    refine xA.iconst (v := (-1)) rfl (by decide) rfl ?_
    refine xA.icmp_eq (tgt := 59) rfl rfl rfl (fun h52 => ?_) (fun h52 => ?_)
    · rw [oI_hdg (by omega)] at h52
      refine xA.iconst (v := 0) rfl (by decide) rfl ?_
      exact xA.iret rfl rfl rfl ⟨by first | (rw [xb_t (by simp [lfo, hs, h52])]; done) | (rw [xb_f (by simp [lfo, hs, h52])]; done), rfl⟩
    · rw [oI_hdg (by omega)] at h52
      refine xA.iconst (v := 1) rfl (by decide) rfl ?_
      refine xA.goto (q := 60) rfl rfl ?_
      exact xA.iret rfl rfl rfl ⟨by first | (rw [xb_t (by simp [lfo, hs, h52])]; done) | (rw [xb_f (by simp [lfo, hs, h52])]; done), rfl⟩
  by_cases h1_2 : i = 2
  · have hs := h1_2; refine xA.topi (congrArg nI hs : _ = nI 2) ?_
    refine xA.tsIn (q := 61) rfl (by decide) (by decide) rfl rfl ?_
    refine xA.iload_n (i := 1) rfl rfl rfl rfl ?_
    refine xA.callSNi (As := [_]) rfl k3_33 okX9_roomDigitOf rfl rfl (Nat.le_of_ble_eq_true rfl) (c_X9_roomDigitOf (d + 1) S G _) rfl rfl ?_
    refine xA.topi (xdig_nI 0 5 h126 (by omega) (by omega)) ?_
    refine xA.iconst (v := (-1)) rfl (by decide) rfl ?_
    refine xA.icmp_eq (tgt := 73) rfl rfl rfl (fun h66 => ?_) (fun h66 => ?_)
    · rw [oI_hdg (by omega)] at h66
      refine xA.iconst (v := 0) rfl (by decide) rfl ?_
      exact xA.iret rfl rfl rfl ⟨by first | (rw [xb_t (by simp [lfo, hs, h66])]; done) | (rw [xb_f (by simp [lfo, hs, h66])]; done), rfl⟩
    · rw [oI_hdg (by omega)] at h66
      refine xA.iconst (v := 1) rfl (by decide) rfl ?_
      refine xA.goto (q := 74) rfl rfl ?_
      exact xA.iret rfl rfl rfl ⟨by first | (rw [xb_t (by simp [lfo, hs, h66])]; done) | (rw [xb_f (by simp [lfo, hs, h66])]; done), rfl⟩
  refine xA.tsOut (q := 75) rfl (Or.inr (by rw [nI_toInt (by omega)]; omega)) rfl ?_
  refine xA.iload_n (i := 0) rfl rfl rfl rfl ?_
  refine xA.bipush (v := 19) rfl (by decide) rfl ?_
  refine xA.icmp_ge (tgt := 93) rfl rfl rfl (fun h78 => ?_) (fun h78 => ?_)
  · have e78 : ¬ i < 19 := fun z => absurd h78 (nI_ge (b := 19) z (by omega))
    refine xA.iconst (v := 0) rfl (by decide) rfl ?_
    exact xA.iret rfl rfl rfl ⟨by rw [show lfo i c = (decide (i < 19) && (stp c).isSome) from by unfold lfo; rw [if_neg (by omega), if_neg (by omega)]]; first | (rw [h86]; simp [xb]; done) | (simp [xb, e78]; done) | (have h87 : (stp c).isSome = true := (by revert h86; cases (stp c).isSome <;> simp); rw [h87]; simp [xb, e78]), rfl⟩
  · have e78 : i < 19 := by rcases Nat.lt_or_ge i 19 with z | z; exact z; exact absurd (nI_le (a := 19) z (by omega)) h78
    refine xA.iload_n (i := 1) rfl rfl rfl rfl ?_
    refine xA.callSi (As := [_]) rfl k3_36 okX3_stepOf rfl rfl (Nat.le_of_ble_eq_true rfl) (c_X3_stepOf d S G c h126) rfl rfl ?_
    refine xA.iconst (v := (-1)) rfl (by decide) rfl ?_
    refine xA.icmp_eq (tgt := 93) rfl rfl rfl (fun h86 => ?_) (fun h86 => ?_)
    · rw [oI_stp] at h86
      refine xA.iconst (v := 0) rfl (by decide) rfl ?_
      exact xA.iret rfl rfl rfl ⟨by rw [show lfo i c = (decide (i < 19) && (stp c).isSome) from by unfold lfo; rw [if_neg (by omega), if_neg (by omega)]]; first | (rw [h86]; simp [xb]; done) | (simp [xb, e78]; done) | (have h87 : (stp c).isSome = true := (by revert h86; cases (stp c).isSome <;> simp); rw [h87]; simp [xb, e78]), rfl⟩
    · rw [oI_stp] at h86
      refine xA.iconst (v := 1) rfl (by decide) rfl ?_
      refine xA.goto (q := 94) rfl rfl ?_
      exact xA.iret rfl rfl rfl ⟨by rw [show lfo i c = (decide (i < 19) && (stp c).isSome) from by unfold lfo; rw [if_neg (by omega), if_neg (by omega)]]; first | (rw [h86]; simp [xb]; done) | (simp [xb, e78]; done) | (have h87 : (stp c).isSome = true := (by revert h86; cases (stp c).isSome <;> simp); rw [h87]; simp [xb, e78]), rfl⟩
set_option maxRecDepth 100000 in
set_option maxHeartbeats 400000 in
theorem c_X3_faultIn (d : Nat) (S : Nat → Nat → Int32) (G : Nat → Nat → Int64) (pg : Nat → Nat) (n : Nat) (hp : pgC S pg n) : xR τ (d + 4) mX3_faultIn [.ref 1] S G (some (.int (nI (fpl (fun j => lfo j (pg j)) n)))) S G := by
  have hn45 := hp.2.1
  refine xC.of okX3_faultIn (Nat.le_of_ble_eq_true rfl) (L := [_, _]) rfl ?_
  have loop : ∀ i, i ≤ n → pre (fun j => lfo j (pg j)) i = true → xA none (d + 4) mX3_faultIn 0 0 0 0 2 [some (.ref 1), some (.int (nI i))] [] ((σF τ), S, G) (fun r' h' => r' = (some (.int (nI (fpl (fun j => lfo j (pg j)) n)))) ∧ h' = ((σF τ), S, G)) := by
    refine xloop n (fun i hi ih => ?_) ?_
    · skip
      intro hpr
      refine xA.iload_n (i := 1) rfl rfl rfl rfl ?_
      refine xA.aload_n (i := 0) rfl rfl rfl rfl ?_
      refine xA.callVi (As := []) rfl k3_15 okX4_length rfl rfl rfl rfl (Nat.le_of_ble_eq_true rfl) (c_X4_length (d + 3) _ G) rfl rfl ?_
      refine xA.topi hp.1 ?_
      refine xA.icmp_ge (tgt := 30) rfl rfl rfl (fun h7 => ?_) (fun h7 => ?_)
      · exact absurd h7 (nI_ge hi (by omega))
      · refine xA.iload_n (i := 1) rfl rfl rfl rfl ?_
        refine xA.aload_n (i := 0) rfl rfl rfl rfl ?_
        refine xA.iload_n (i := 1) rfl rfl rfl rfl ?_
        refine xA.callVi (As := [_]) rfl k3_21 okX4_at rfl rfl rfl rfl (Nat.le_of_ble_eq_true rfl) (c_X4_at (d + 3) _ G pg n hp i hi) rfl rfl ?_
        refine xA.callSi (As := [_, _]) rfl k3_25 okX3_mayStand rfl rfl (Nat.le_of_ble_eq_true rfl) (c_X3_mayStand d _ G i (pg i) (by omega) (hp.2.2.2 i hi)) rfl rfl ?_
        refine xA.if_ne (tgt := 24) rfl rfl rfl (fun h19 => ?_) (fun h19 => ?_)
        · rw [xb_ne0] at h19
          refine xA.iinc (L' := [_, _]) rfl rfl (nI_1 i) rfl rfl ?_
          refine xA.goto (q := 2) rfl rfl ?_
          exact ih (pre_succ hpr h19)
        · rw [xb_eq0] at h19
          refine xA.iload_n (i := 1) rfl rfl rfl rfl ?_
          exact xA.iret rfl rfl rfl ⟨by rw [fpl_at (f := (fun j => lfo j (pg j))) hi hpr (by simpa using h19)], rfl⟩
    · skip
      intro hpr
      refine xA.iload_n (i := 1) rfl rfl rfl rfl ?_
      refine xA.aload_n (i := 0) rfl rfl rfl rfl ?_
      refine xA.callVi (As := []) rfl k3_15 okX4_length rfl rfl rfl rfl (Nat.le_of_ble_eq_true rfl) (c_X4_length (d + 3) _ G) rfl rfl ?_
      refine xA.topi hp.1 ?_
      refine xA.icmp_ge (tgt := 30) rfl rfl rfl (fun h7 => ?_) (fun h7 => ?_)
      · refine xA.aload_n (i := 0) rfl rfl rfl rfl ?_
        refine xA.callVi (As := []) rfl k3_15 okX4_length rfl rfl rfl rfl (Nat.le_of_ble_eq_true rfl) (c_X4_length (d + 3) _ G) rfl rfl ?_
        refine xA.topi hp.1 ?_
        exact xA.iret rfl rfl rfl ⟨by rw [fpl_all hpr], rfl⟩
      · exact absurd (nI_le (Nat.le_refl _) (by omega)) h7
  refine xA.iconst (v := 0) rfl (by decide) rfl ?_
  refine xA.istore_n (i := 1) (L' := [_, _]) rfl rfl (Nat.le_of_ble_eq_true rfl) rfl rfl ?_
  exact loop 0 (Nat.zero_le _) rfl
/-- what a house that stands is -/
def hSd (S : Nat → Nat → Int32) (h : hS) : Prop := hC S 3 h ∧ hOk h ∧ 5 ≤ hSt h
theorem hSd.D {S : Nat → Nat → Int32} {h : hS} (hh : hSd S h) : ∀ a, a < 36 → hD h a ≤ 10 := by
  intro a ha
  have h1 := (hh.2.1.2.2.2.2.2.2.2.2.2.2.1 (a / 6) (a % 6) (by omega) (by omega)).2
  rw [show a / 6 * 6 + a % 6 = a by omega] at h1
  have := hh.2.1.2.1
  omega
theorem hSd.to {S S' : Nat → Nat → Int32} {h : hS} (hh : hSd S h) (h3 : S' 3 = S 3) (h4 : S' 4 = S 4) (h5 : S' 5 = S 5) : hSd S' h := by
  obtain ⟨⟨c1, c2, c3, c4, c5, c6, c7, c8⟩, h2⟩ := hh
  refine ⟨⟨by rw [h3]; exact c1, by rw [h3]; exact c2, by rw [h3]; exact c3, fun z => by rw [h3]; exact c4 z, fun z => by rw [h3]; exact c5 z, fun z => by rw [h3]; exact c6 z, fun a ha => ?_, fun a ha => ?_⟩, h2⟩
  · show S' 4 a = _
    rw [h4]; exact c7 a ha
  · show S' 5 a = _
    rw [h5]; exact c8 a ha
theorem hSd.nx {S : Nat → Nat → Int32} {h : hS} (hh : hSd S h) (m r s lp : Nat) (hr : r < 6) (hs : s < 8) : nx (S 4) (S 3 4) m r s lp = nxH (hD h) (hLo h) m r s lp :=
  nx_H hh.1.2.2.2.2.2.2.1 hh.D (hh.1.2.2.2.1 (by have := hh.2.2; omega)) (hh.2.1.2.2.2.2.2.1 (by have := hh.2.2; omega)) hr hs

theorem lC_mk {S : Nat → Nat → Int32} {l : lS} {q th db : Nat} (hl : lC S 9 l) (T : Nat → Nat → Int32) (h1 : T 9 1 = nI (lN' l + 1)) (h2 : T 9 2 = nI th) (h3 : T 9 3 = nI db) (h4 : T 10 = fun i => if i = lN' l then nI q else S 10 i) : lC T 9 (lN' l + 1, nu (lSp l) (lN' l) q, th, db) := by
  refine ⟨h1, h2, h3, fun i hi => ?_⟩
  show T 10 i = nI (nu (lSp l) (lN' l) q i)
  rw [h4]
  by_cases e : i = lN' l
  · simp [e, nu]
  · simp only [e, if_false, nu]
    exact hl.2.2.2 i (by have : i < lN' l + 1 := hi; omega)

set_option maxRecDepth 100000 in
set_option maxHeartbeats 1000000 in
theorem c_X3_takes (d : Nat) (S : Nat → Nat → Int32) (G : Nat → Nat → Int64) (h : hS) (hh : hSd S h) (l : lS) (hlo : lOk l) (hl : lC S 9 l) (hn16 : lN' l < 17) (s lp : Nat) (hs : s < 8) (hlp : lp ≤ 10) : xC (d + 3) mX3_takes [.ref 9, .int (nI s), .ref 3, .int (nI lp)] ((σF τ), S, G) 0 0 (fun r h' => ∃ S', h' = ((σF τ), S', G) ∧ frW 9 2 S S' ∧ ((lstep (hD h) (hLo h) lp l s = none ∧ r = some (.int 0)) ∨ ∃ l2, lstep (hD h) (hLo h) lp l s = some l2 ∧ r = some (.int 1) ∧ lC S' 9 l2)) := by
  have hn1 : lN' l - 1 + 1 = lN' l := by have := hlo.1; omega
  have hsl := hlo.2.2.1 (lN' l - 1) (by have := hlo.1; omega)
  have hl1 := hlo.1
  have hsp : lSp l (lN' l - 1) = lSp l (lN' l - 1) / 6 * 6 + lSp l (lN' l - 1) % 6 := by omega
  refine xC.of okX3_takes (Nat.le_of_ble_eq_true rfl) (L := [_, _, _, _, _, _]) rfl ?_
  refine xA.aload_n (i := 0) rfl rfl rfl rfl ?_
  refine xA.callVi (As := []) rfl k3_58 okX3_lastSpot rfl rfl rfl rfl (Nat.le_of_ble_eq_true rfl) (c_X3_lastSpot (d + 1) _ G 9 ⟨rfl, rfl⟩ (lN' l - 1) (by rw [hn1]; exact hl.1) (by omega)) rfl rfl ?_
  refine xA.topi (hl.2.2.2 _ (by omega)) ?_
  refine xA.topi (congrArg nI hsp : _ = nI (lSp l (lN' l - 1) / 6 * 6 + lSp l (lN' l - 1) % 6)) ?_
  refine xA.istore (L' := [_, _, _, _, _, _]) rfl (Nat.le_of_ble_eq_true rfl) rfl rfl ?_
  refine xA.aload_n (i := 2) rfl rfl rfl rfl ?_
  refine xA.iload rfl rfl rfl ?_
  refine xA.iload_n (i := 1) rfl rfl rfl rfl ?_
  refine xA.iload_n (i := 3) rfl rfl rfl rfl ?_
  refine xA.callVi (As := [_, _, _]) rfl k3_61 okX1_spotAfter rfl rfl rfl rfl (Nat.le_of_ble_eq_true rfl) (c_X1_spotAfter d _ G 3 ⟨rfl, rfl, rfl⟩ (lSp l (lN' l - 1) / 6) (lSp l (lN' l - 1) % 6) s lp (by omega) (by omega) hs hlp) rfl rfl ?_
  refine xA.topi (congrArg oI (hh.nx _ _ _ _ (by omega) hs)) ?_
  refine xA.istore (L' := [_, _, _, _, _, _]) rfl (Nat.le_of_ble_eq_true rfl) rfl rfl ?_
  rcases hnx : nxH (hD h) (hLo h) (lSp l (lN' l - 1) / 6) (lSp l (lN' l - 1) % 6) s lp with _ | q
  · skip
    refine xA.iload rfl rfl rfl ?_
    refine xA.iconst (v := (-1)) rfl (by decide) rfl ?_
    refine xA.icmp_ne (tgt := 24) rfl rfl rfl (fun h19 => ?_) (fun h19 => ?_)
    · exact absurd rfl h19
    · refine xA.iconst (v := 0) rfl (by decide) rfl ?_
      exact xA.iret rfl rfl rfl ⟨_, rfl, fr_rf, Or.inl ⟨by rw [lstep, hnx]; rfl, rfl⟩⟩
  · have hq := nxH_lt hnx (by omega) (by omega) hs
    refine xA.iload rfl rfl rfl ?_
    refine xA.iconst (v := (-1)) rfl (by decide) rfl ?_
    refine xA.icmp_ne (tgt := 24) rfl rfl rfl (fun h19 => ?_) (fun h19 => ?_)
    · refine xA.iload_n (i := 1) rfl rfl rfl rfl ?_
      refine xA.bipush (v := 7) rfl (by decide) rfl ?_
      refine xA.icmp_ne (tgt := 43) rfl rfl rfl (fun h27 => ?_) (fun h27 => ?_)
      · have e27 : ¬ s = 7 := fun z => h27 (by rw [z]; rfl)
        refine xA.iload_n (i := 1) rfl rfl rfl rfl ?_
        refine xA.bipush (v := 6) rfl (by decide) rfl ?_
        refine xA.icmp_eq (tgt := 70) rfl rfl rfl (fun h46 => ?_) (fun h46 => ?_)
        · have e46 : s = 6 := (nI_eq (b := 6) (by omega) (by omega)).mp h46
          refine xA.aload_n (i := 0) rfl rfl rfl rfl ?_
          refine xA.iload rfl rfl rfl ?_
          refine xA.callVv (As := [_]) rfl k3_50 okX3_add rfl rfl rfl rfl (Nat.le_of_ble_eq_true rfl) (c_X3_add (d + 2) _ G 9 ⟨rfl, rfl⟩ (lN' l) (by first | exact hl.1 | exact (xu_ne2 (by omega)).trans hl.1) (by omega) _) rfl rfl ?_
          refine xA.iconst (v := 1) rfl (by decide) rfl ?_
          exact xA.iret rfl rfl rfl ⟨_, rfl, by first | exact xu_fr (xu_fr (xu_fr fr_rf (by omega)) (by omega)) (by omega) | exact xu_fr (xu_fr fr_rf (by omega)) (by omega), Or.inr ⟨_, by rw [lstep, hnx]; rfl, rfl, lC_mk hl _ (by simp [xu]) (by first | (simp [xu, hl.2.1, e27]; done) | (simp [xu, e27]; done)) (by first | (simp [xu, hl.2.2.1, e46]; done) | (simp [xu, e6]; done)) (by funext i; simp [xu, oI])⟩⟩
        · have e46 : ¬ s = 6 := fun z => h46 (by rw [z]; rfl)
          have e6 : s < 6 := by omega
          have hd0 : ¬ hD h (lSp l (lN' l - 1) % 6 * 6 + s) = 0 := by
            intro z
            simp [nxH, e27, e46, z] at hnx
          have hdl := hh.D (lSp l (lN' l - 1) % 6 * 6 + s) (by omega)
          refine xA.aload_n (i := 0) rfl rfl rfl rfl ?_
          refine xA.dup rfl rfl rfl ?_
          refine xA.getI rfl f3_70 rfl rfl rfl ?_
          refine xA.topi (hl.2.2.1) ?_
          refine xA.iconst (v := 1) rfl (by decide) rfl ?_
          refine xA.aload_n (i := 2) rfl rfl rfl rfl ?_
          refine xA.iload rfl rfl rfl ?_
          refine xA.callSNi (As := [_]) rfl k3_73 okX9_roomOf rfl rfl (Nat.le_of_ble_eq_true rfl) (c_X9_roomOf (d + 2) _ G _) rfl rfl ?_
          refine xA.topi (xroom_nI (by omega) (by omega)) ?_
          refine xA.iload_n (i := 1) rfl rfl rfl rfl ?_
          refine xA.callVi (As := [_, _]) rfl k3_76 okX1_doorBetween rfl rfl rfl rfl (Nat.le_of_ble_eq_true rfl) (c_X1_doorBetween (d + 1) _ G 3 ⟨rfl, rfl, rfl⟩ (lSp l (lN' l - 1) % 6) s (by omega) (by omega)) rfl rfl ?_
          refine xA.topi (show _ = nI (hD h (lSp l (lN' l - 1) % 6 * 6 + s) - 1) from by show S 4 _ - 1 = _; rw [hh.1.2.2.2.2.2.2.1 _ (by omega)]; exact nI_sub (b := 1) (by omega)) ?_
          refine xA.ishl rfl rfl ?_
          refine xA.topi (nI_shl _ (by omega)) ?_
          refine xA.ior rfl rfl ?_
          refine xA.topi (nI_or _ _) ?_
          refine xA.putI rfl p3_70 rfl rfl rfl ?_
          refine xA.aload_n (i := 0) rfl rfl rfl rfl ?_
          refine xA.iload rfl rfl rfl ?_
          refine xA.callVv (As := [_]) rfl k3_50 okX3_add rfl rfl rfl rfl (Nat.le_of_ble_eq_true rfl) (c_X3_add (d + 2) _ G 9 ⟨rfl, rfl⟩ (lN' l) (by first | exact hl.1 | exact (xu_ne2 (by omega)).trans hl.1) (by omega) _) rfl rfl ?_
          refine xA.iconst (v := 1) rfl (by decide) rfl ?_
          exact xA.iret rfl rfl rfl ⟨_, rfl, by first | exact xu_fr (xu_fr (xu_fr fr_rf (by omega)) (by omega)) (by omega) | exact xu_fr (xu_fr fr_rf (by omega)) (by omega), Or.inr ⟨_, by rw [lstep, hnx]; rfl, rfl, lC_mk hl _ (by simp [xu]) (by first | (simp [xu, hl.2.1, e27]; done) | (simp [xu, e27]; done)) (by first | (simp [xu, hl.2.2.1, e46]; done) | (simp [xu, e6]; done)) (by funext i; simp [xu, oI])⟩⟩
      · have e27 : s = 7 := (nI_eq (b := 7) (by omega) (by omega)).mp h27
        have e46 : ¬ s < 6 := by omega
        refine xA.aload_n (i := 0) rfl rfl rfl rfl ?_
        refine xA.dup rfl rfl rfl ?_
        refine xA.getI rfl f3_66 rfl rfl rfl ?_
        refine xA.topi (hl.2.1) ?_
        refine xA.iconst (v := 1) rfl (by decide) rfl ?_
        refine xA.iadd rfl rfl ?_
        refine xA.topi (nI_1 _) ?_
        refine xA.putI rfl p3_66 rfl rfl rfl ?_
        refine xA.goto (q := 70) rfl rfl ?_
        refine xA.aload_n (i := 0) rfl rfl rfl rfl ?_
        refine xA.iload rfl rfl rfl ?_
        refine xA.callVv (As := [_]) rfl k3_50 okX3_add rfl rfl rfl rfl (Nat.le_of_ble_eq_true rfl) (c_X3_add (d + 2) _ G 9 ⟨rfl, rfl⟩ (lN' l) (by first | exact hl.1 | exact (xu_ne2 (by omega)).trans hl.1) (by omega) _) rfl rfl ?_
        refine xA.iconst (v := 1) rfl (by decide) rfl ?_
        exact xA.iret rfl rfl rfl ⟨_, rfl, by first | exact xu_fr (xu_fr (xu_fr fr_rf (by omega)) (by omega)) (by omega) | exact xu_fr (xu_fr fr_rf (by omega)) (by omega), Or.inr ⟨_, by rw [lstep, hnx]; rfl, rfl, lC_mk hl _ (by simp [xu]) (by first | (simp [xu, hl.2.1, e27]; done) | (simp [xu, e27]; done)) (by first | (simp [xu, hl.2.2.1, e46]; done) | (simp [xu, e6]; done)) (by funext i; simp [xu, oI])⟩⟩
    · exact absurd h19 (nI_m1 (by omega))
/-- a life's text: its begin, its steps -/
def l0 (pg : Nat → Nat) : lS := (1, fun _ => (10 * (pg 0 - 48) + (pg 1 - 48)) * 6 + (pg 2 - 48), 0, 0)
def lrun (D : Nat → Nat) (low lp : Nat) (pg : Nat → Nat) : Nat → Option lS
  | 0 => some (l0 pg)
  | i + 1 => (lrun D low lp pg i).bind (fun l => lstep D low lp l ((stp (pg (3 + i))).getD 0))
def lread (D : Nat → Nat) (low lp : Nat) (pg : Nat → Nat) (n : Nat) : Option lS := if n < 3 ∨ fpl (fun j => lfo j (pg j)) n < n then none else lrun D low lp pg (n - 3)
theorem pre_get {f : Nat → Bool} : ∀ {n : Nat}, pre f n = true → ∀ i, i < n → f i = true := by
  intro n
  induction n with
  | zero => intro _ i hi; omega
  | succ n ih =>
    intro h i hi
    simp only [pre, Bool.and_eq_true] at h
    by_cases e : i = n
    · subst e; exact h.2
    · exact ih h.1 i (by omega)
theorem hdg_get {c lo hi : Nat} (h : (hdg c lo hi).isSome = true) : hdg c lo hi = some (c - 48) ∧ 48 + lo ≤ c ∧ c ≤ 48 + hi := by
  unfold hdg at h ⊢
  split at h
  · rename_i e; rw [if_pos e]; exact ⟨rfl, e⟩
  · cases h
theorem lrun_dead {D : Nat → Nat} {low lp : Nat} {pg : Nat → Nat} {i n : Nat} (h : lrun D low lp pg (i + 1) = none) (hi : i < n) : lrun D low lp pg n = none := by
  have key : ∀ t, lrun D low lp pg (i + 1 + t) = none := by
    intro t
    induction t with
    | zero => exact h
    | succ t ih => show (lrun D low lp pg (i + 1 + t)).bind _ = none; rw [ih]; rfl
  have e : n = i + 1 + (n - (i + 1)) := by omega
  rw [e]; exact key _
theorem lrun_ok {D : Nat → Nat} {low lp : Nat} {pg : Nat → Nat} (h0 : lOk (l0 pg)) (hD : ∀ a, a < 36 → D a ≤ 10) {n : Nat} (hn : n ≤ 16) (hst : ∀ i, i < n → (stp (pg (3 + i))).isSome = true) : ∀ i, i ≤ n → ∀ l, lrun D low lp pg i = some l → lOk l ∧ lN' l = i + 1 := by
  intro i
  induction i with
  | zero => intro _ l hl; cases hl; exact ⟨h0, rfl⟩
  | succ i ih =>
    intro hi l hl
    obtain ⟨l1, e1, e2⟩ := Option.bind_eq_some_iff.mp hl
    obtain ⟨o1, o2⟩ := ih (by omega) l1 e1
    obtain ⟨s, es⟩ := Option.isSome_iff_exists.mp (hst i (by omega))
    rw [es] at e2
    have := lok_step o1 (by omega) (stp_lt es) hD e2
    exact ⟨this.1, by omega⟩

set_option maxRecDepth 100000 in
set_option maxHeartbeats 1000000 in
theorem c_X3_read (d : Nat) (S : Nat → Nat → Int32) (G : Nat → Nat → Int64) (h : hS) (hh : hSd S h) (pg : Nat → Nat) (n : Nat) (hp : pgC S pg n) (lp : Nat) (hlp : lp ≤ 10) : xC (d + 5) mX3_read [.ref 9, .ref 1, .ref 3, .int (nI lp)] ((σF τ), S, G) 0 0 (fun r h' => ∃ S', h' = ((σF τ), S', G) ∧ frW 9 2 S S' ∧ r = some (.int (xb ((lread (hD h) (hLo h) lp pg n).isSome = true))) ∧ ∀ l, lread (hD h) (hLo h) lp pg n = some l → lC S' 9 l ∧ lOk l) := by
  have hn45 := hp.2.1
  refine xC.of okX3_read (Nat.le_of_ble_eq_true rfl) (L := [_, _, _, _, _, _]) rfl ?_
  refine xA.aload_n (i := 0) rfl rfl rfl rfl ?_
  refine xA.callVv (As := []) rfl k3_39 okX3_clear rfl rfl rfl rfl (Nat.le_of_ble_eq_true rfl) (c_X3_clear (d + 4) _ G 9 ⟨rfl, rfl⟩) rfl rfl ?_
  have hfc : frW 9 2 S (xu (xu (xu S 9 1 0) 9 2 0) 9 3 0) := xu_fr (xu_fr (xu_fr fr_rf (by omega)) (by omega)) (by omega)
  have hp2 : pgC (xu (xu (xu S 9 1 0) 9 2 0) 9 3 0) pg n := hp.to (hfc 1 (by omega)) (hfc 2 (by omega))
  refine xA.aload_n (i := 1) rfl rfl rfl rfl ?_
  refine xA.callVi (As := []) rfl k3_15 okX4_length rfl rfl rfl rfl (Nat.le_of_ble_eq_true rfl) (c_X4_length (d + 4) _ G) rfl rfl ?_
  refine xA.topi hp2.1 ?_
  refine xA.iconst (v := 3) rfl (by decide) rfl ?_
  refine xA.icmp_lt (tgt := 23) rfl rfl rfl (fun h9 => ?_) (fun h9 => ?_)
  · have e9 := (nI_ltI (b := 3) (by omega) (by omega)).mp h9
    refine xA.iconst (v := 0) rfl (by decide) rfl ?_
    exact xA.iret rfl rfl rfl ⟨_, rfl, hfc, by rw [lread, if_pos (by omega)]; rfl, fun z hz => by rw [lread, if_pos (by omega)] at hz; cases hz⟩
  · have e9 : ¬ n < 3 := mt (nI_ltI (b := 3) (by omega) (by omega)).mpr h9
    refine xA.aload_n (i := 1) rfl rfl rfl rfl ?_
    refine xA.callSi (As := [_]) rfl k3_42 okX3_faultIn rfl rfl (Nat.le_of_ble_eq_true rfl) (c_X3_faultIn d _ G pg n hp2) rfl rfl ?_
    refine xA.aload_n (i := 1) rfl rfl rfl rfl ?_
    refine xA.callVi (As := []) rfl k3_15 okX4_length rfl rfl rfl rfl (Nat.le_of_ble_eq_true rfl) (c_X4_length (d + 4) _ G) rfl rfl ?_
    refine xA.topi hp2.1 ?_
    refine xA.icmp_ge (tgt := 25) rfl rfl rfl (fun h20 => ?_) (fun h20 => ?_)
    · have e20 : ¬ fpl (fun j => lfo j (pg j)) n < n := by have := (nI_leI (by omega) (by have := fpl_le (fun j => lfo j (pg j)) n; omega)).mp h20; omega
      have hpre : pre (fun j => lfo j (pg j)) n = true := by
        by_cases z : pre (fun j => lfo j (pg j)) n = true
        · exact z
        · exact absurd (fpl_lt.mpr (by simpa using z)) e20
      have g0 : hdg (pg 0) 0 5 = some (pg 0 - 48) ∧ _ := hdg_get (by have := pre_get hpre 0 (by omega); simpa [lfo] using this)
      have g1 : hdg (pg 1) 0 9 = some (pg 1 - 48) ∧ _ := hdg_get (by have := pre_get hpre 1 (by omega); simpa [lfo] using this)
      have g2 : hdg (pg 2) 0 5 = some (pg 2 - 48) ∧ _ := hdg_get (by have := pre_get hpre 2 (by omega); simpa [lfo] using this)
      have g09 : hdg (pg 0) 0 9 = some (pg 0 - 48) := by unfold hdg; rw [if_pos (by omega)]
      have hst : ∀ i, i < n - 3 → (stp (pg (3 + i))).isSome = true := by
        intro i hi
        have := pre_get hpre (3 + i) (by omega)
        simp only [lfo] at this
        rw [if_neg (by omega), if_neg (by omega)] at this
        simp only [Bool.and_eq_true] at this
        exact this.2
      have hn16 : n - 3 ≤ 16 := by
        rcases Nat.lt_or_ge 19 n with z | z
        · have := pre_get hpre 19 (by omega)
          simp [lfo] at this
        · omega
      have h0k : lOk (l0 pg) := ⟨by show 1 ≤ 1; omega, by show 1 ≤ 17; omega, fun i _ => by show (10 * (pg 0 - 48) + (pg 1 - 48)) * 6 + (pg 2 - 48) < 360; omega, by show 0 < 1; omega, by show 0 < 1024; omega⟩
      have hlr : lread (hD h) (hLo h) lp pg n = lrun (hD h) (hLo h) lp pg (n - 3) := by rw [lread, if_neg (by omega)]
      have loop : ∀ i, i ≤ n - 3 → ∀ (S1 : Nat → Nat → Int32) (l : lS), frW 9 2 S S1 → lrun (hD h) (hLo h) lp pg i = some l → lC S1 9 l → ∀ x4 : Int32, xA none (d + 5) mX3_read 0 0 0 0 73 [some (.ref 9), some (.ref 1), some (.ref 3), some (.int (nI lp)), some (.int x4), some (.int (nI (3 + i)))] [] ((σF τ), S1, G) (fun r h' => ∃ S', h' = ((σF τ), S', G) ∧ frW 9 2 S S' ∧ r = some (.int (xb ((lread (hD h) (hLo h) lp pg n).isSome = true))) ∧ ∀ l, lread (hD h) (hLo h) lp pg n = some l → lC S' 9 l ∧ lOk l) := by
        refine xloop (n - 3) (fun i hi ih => ?_) ?_
        · intro S1 l hf hr hc x4
          have hp2 : pgC S1 pg n := hp.to (hf 1 (by omega)) (hf 2 (by omega))
          have hh2 : hSd S1 h := hh.to (hf 3 (by omega)) (hf 4 (by omega)) (hf 5 (by omega))
          refine xA.iload rfl rfl rfl ?_
          refine xA.aload_n (i := 1) rfl rfl rfl rfl ?_
          refine xA.callVi (As := []) rfl k3_15 okX4_length rfl rfl rfl rfl (Nat.le_of_ble_eq_true rfl) (c_X4_length (d + 4) _ G) rfl rfl ?_
          refine xA.topi hp2.1 ?_
          refine xA.icmp_ge (tgt := 108) rfl rfl rfl (fun h79 => ?_) (fun h79 => ?_)
          · exact absurd h79 (nI_ge (by omega) (by omega))
          · refine xA.aload_n (i := 0) rfl rfl rfl rfl ?_
            refine xA.aload_n (i := 1) rfl rfl rfl rfl ?_
            refine xA.iload rfl rfl rfl ?_
            refine xA.callVi (As := [_]) rfl k3_21 okX4_at rfl rfl rfl rfl (Nat.le_of_ble_eq_true rfl) (c_X4_at (d + 4) _ G pg n hp2 (3 + i) (by omega)) rfl rfl ?_
            refine xA.callSi (As := [_]) rfl k3_36 okX3_stepOf rfl rfl (Nat.le_of_ble_eq_true rfl) (c_X3_stepOf (d + 2) _ G (pg (3 + i)) (hp.2.2.2 _ (by omega))) rfl rfl ?_
            obtain ⟨s, es⟩ := Option.isSome_iff_exists.mp (hst i hi)
            have hs8 := stp_lt es
            rw [es]
            refine xA.topi (show oI (some s) = nI s from rfl) ?_
            refine xA.aload_n (i := 2) rfl rfl rfl rfl ?_
            refine xA.iload_n (i := 3) rfl rfl rfl rfl ?_
            refine xA.callV (As := [_, _, _]) (h := ((σF τ), _, _)) rfl k3_54 okX3_takes rfl rfl rfl rfl (Nat.le_of_ble_eq_true rfl) (c_X3_takes (d + 1) _ G h hh2 l (lrun_ok h0k hh.D hn16 hst i (by omega) l hr).1 hc (by have := (lrun_ok h0k hh.D hn16 hst i (by omega) l hr).2; omega) s lp hs8 hlp) (Nat.le_refl _) (Nat.le_refl _) rfl rfl ?_
            rintro r9 h9 ⟨S2, rfl, hf2, ⟨hno, rfl⟩ | ⟨l2, hsm, rfl, hc2⟩⟩
            · have hd : lrun (hD h) (hLo h) lp pg (i + 1) = none := by rw [lrun, hr]; show lstep _ _ _ l ((stp (pg (3 + i))).getD 0) = none; rw [es]; exact hno
              have hdn := lrun_dead hd hi
              refine xA.if_ne (tgt := 102) rfl rfl rfl (fun h97 => ?_) (fun h97 => ?_)
              · exact absurd rfl h97
              · refine xA.iconst (v := 0) rfl (by decide) rfl ?_
                exact xA.iret rfl rfl rfl ⟨S2, rfl, hf.trans hf2, by rw [hlr, hdn]; rfl, fun z hz => by rw [hlr, hdn] at hz; cases hz⟩
            · have hd : lrun (hD h) (hLo h) lp pg (i + 1) = some l2 := by rw [lrun, hr]; show lstep _ _ _ l ((stp (pg (3 + i))).getD 0) = some l2; rw [es]; exact hsm
              refine xA.if_ne (tgt := 102) rfl rfl rfl (fun h97 => ?_) (fun h97 => ?_)
              · refine xA.iinc (L' := [_, _, _, _, _, _]) rfl rfl ((nI_1 (3 + i) : nI (3 + i) + 1 = nI (3 + (i + 1)))) rfl rfl ?_
                refine xA.goto (q := 73) rfl rfl ?_
                exact ih S2 l2 (hf.trans hf2) hd hc2 _
              · exact absurd h97 (by decide)
        · intro S1 l hf hr hc x4
          have hp2 : pgC S1 pg n := hp.to (hf 1 (by omega)) (hf 2 (by omega))
          have hh2 : hSd S1 h := hh.to (hf 3 (by omega)) (hf 4 (by omega)) (hf 5 (by omega))
          refine xA.iload rfl rfl rfl ?_
          refine xA.aload_n (i := 1) rfl rfl rfl rfl ?_
          refine xA.callVi (As := []) rfl k3_15 okX4_length rfl rfl rfl rfl (Nat.le_of_ble_eq_true rfl) (c_X4_length (d + 4) _ G) rfl rfl ?_
          refine xA.topi hp2.1 ?_
          refine xA.icmp_ge (tgt := 108) rfl rfl rfl (fun h79 => ?_) (fun h79 => ?_)
          · refine xA.iconst (v := 1) rfl (by decide) rfl ?_
            exact xA.iret rfl rfl rfl ⟨S1, rfl, hf, by rw [hlr, hr]; rfl, fun z hz => by rw [hlr, hr] at hz; cases hz; exact ⟨hc, (lrun_ok h0k hh.D hn16 hst _ (Nat.le_refl _) _ hr).1⟩⟩
          · exact absurd (nI_le (by omega) (by omega)) h79
      refine xA.bipush (v := 10) rfl (by decide) rfl ?_
      refine xA.aload_n (i := 1) rfl rfl rfl rfl ?_
      refine xA.iconst (v := 0) rfl (by decide) rfl ?_
      refine xA.callVi (As := [_]) rfl k3_21 okX4_at rfl rfl rfl rfl (Nat.le_of_ble_eq_true rfl) (c_X4_at (d + 4) _ G pg n hp2 0 (by omega)) rfl rfl ?_
      refine xA.iconst (v := 0) rfl (by decide) rfl ?_
      refine xA.bipush (v := 9) rfl (by decide) rfl ?_
      refine xA.callSNi (As := [_, _, _]) rfl k3_29 okX9_digitOf rfl rfl (Nat.le_of_ble_eq_true rfl) (c_X9_digitOf (d + 4) _ G _ _ _) rfl rfl ?_
      refine xA.topi ((xdig_nI 0 9 (hp.2.2.2 0 (by omega)) (by omega) (by omega)).trans (show oI (hdg (pg 0) 0 9) = nI (pg 0 - 48) from by rw [g09]; rfl)) ?_
      refine xA.imul rfl rfl ?_
      refine xA.topi (nI_mul 10 _) ?_
      refine xA.aload_n (i := 1) rfl rfl rfl rfl ?_
      refine xA.iconst (v := 1) rfl (by decide) rfl ?_
      refine xA.callVi (As := [_]) rfl k3_21 okX4_at rfl rfl rfl rfl (Nat.le_of_ble_eq_true rfl) (c_X4_at (d + 4) _ G pg n hp2 1 (by omega)) rfl rfl ?_
      refine xA.iconst (v := 0) rfl (by decide) rfl ?_
      refine xA.bipush (v := 9) rfl (by decide) rfl ?_
      refine xA.callSNi (As := [_, _, _]) rfl k3_29 okX9_digitOf rfl rfl (Nat.le_of_ble_eq_true rfl) (c_X9_digitOf (d + 4) _ G _ _ _) rfl rfl ?_
      refine xA.topi ((xdig_nI 0 9 (hp.2.2.2 1 (by omega)) (by omega) (by omega)).trans (show oI (hdg (pg 1) 0 9) = nI (pg 1 - 48) from by rw [g1.1]; rfl)) ?_
      refine xA.iadd rfl rfl ?_
      refine xA.topi (nI_add _ _) ?_
      refine xA.istore (L' := [_, _, _, _, _, _]) rfl (Nat.le_of_ble_eq_true rfl) rfl rfl ?_
      refine xA.aload_n (i := 0) rfl rfl rfl rfl ?_
      refine xA.iload rfl rfl rfl ?_
      refine xA.aload_n (i := 1) rfl rfl rfl rfl ?_
      refine xA.iconst (v := 2) rfl (by decide) rfl ?_
      refine xA.callVi (As := [_]) rfl k3_21 okX4_at rfl rfl rfl rfl (Nat.le_of_ble_eq_true rfl) (c_X4_at (d + 4) _ G pg n hp2 2 (by omega)) rfl rfl ?_
      refine xA.callSNi (As := [_]) rfl k3_33 okX9_roomDigitOf rfl rfl (Nat.le_of_ble_eq_true rfl) (c_X9_roomDigitOf (d + 3) _ G _) rfl rfl ?_
      refine xA.topi ((xdig_nI 0 5 (hp.2.2.2 2 (by omega)) (by omega) (by omega)).trans (show oI (hdg (pg 2) 0 5) = nI (pg 2 - 48) from by rw [g2.1]; rfl)) ?_
      refine xA.callSNi (As := [_, _]) rfl k3_46 okX9_spotOf rfl rfl (Nat.le_of_ble_eq_true rfl) (c_X9_spotOf (d + 4) _ G _ _) rfl rfl ?_
      refine xA.topi (nI_spot _ _) ?_
      refine xA.callVv (As := [_]) rfl k3_50 okX3_add rfl rfl rfl rfl (Nat.le_of_ble_eq_true rfl) (c_X3_add (d + 4) _ G 9 ⟨rfl, rfl⟩ 0 (by simp [xu, nI]) (by omega) _) rfl rfl ?_
      refine xA.iconst (v := 3) rfl (by decide) rfl ?_
      refine xA.istore (L' := [_, _, _, _, _, _]) rfl (Nat.le_of_ble_eq_true rfl) rfl rfl ?_
      exact loop 0 (Nat.zero_le _) _ (l0 pg) (xu_fr (xu_fr hfc (by omega)) (by omega)) rfl ⟨by simp [xu]; rfl, by simp [xu]; rfl, by simp [xu]; rfl, fun i hi => by have : i = 0 := (by have : i < 1 := hi; omega); subst this; simp [xu]; rfl⟩ _
    · have e20 : fpl (fun j => lfo j (pg j)) n < n := by rcases Nat.lt_or_ge (fpl (fun j => lfo j (pg j)) n) n with z | z; exact z; exact absurd (nI_le z (by have := fpl_le (fun j => lfo j (pg j)) n; omega)) h20
      refine xA.iconst (v := 0) rfl (by decide) rfl ?_
      exact xA.iret rfl rfl rfl ⟨_, rfl, hfc, by rw [lread, if_pos (by omega)]; rfl, fun z hz => by rw [lread, if_pos (by omega)] at hz; cases hz⟩
end
section
variable {τ : List xSh}
/-! ===== a life by a seed ===== -/
theorem nI_dec8 : ∀ jj, jj < 8 → ¬ jj = 0 → nI jj + Int32.ofInt (-1) = nI (jj - 1) := by decide +kernel
/-- which steps may be -/
def mayF (D : Nat → Nat) (low m r lp : Nat) (s : Nat) : Bool := (nxH D low m r s lp).isSome
theorem oI_nxH {D : Nat → Nat} {low m r s lp : Nat} (hm : m < 60) (hr : r < 6) (hs : s < 8) : oI (nxH D low m r s lp) = -1 ↔ mayF D low m r lp s = false := by
  rw [oI_m1 (fun v hv => by have := nxH_lt hv hm hr hs; omega), mayF]
  cases nxH D low m r s lp <;> simp
/-- the next seed, the draw -/
def sdN (x : Int32) : Int32 := (1103515245 * x.toInt64 + 12345 &&& 2147483647).toInt32
def drN (x w : Int32) : Int32 := x / 65536 - x / 65536 / w * w

set_option maxRecDepth 100000 in
set_option maxHeartbeats 400000 in
theorem c_X8_waysOn (d : Nat) (S : Nat → Nat → Int32) (G : Nat → Nat → Int64) (h : hS) (hh : hSd S h) (m r lp : Nat) (hm : m < 60) (hr : r < 6) (hlp : lp ≤ 10) (hs0 : S 41 0 = nI (m * 6 + r)) : xR τ (d + 3) mX8_waysOn [.ref 41, .ref 3, .int (nI lp)] S G (some (.int (nI (cn (mayF (hD h) (hLo h) m r lp) 8)))) S G := by
  refine xC.of okX8_waysOn (Nat.le_of_ble_eq_true rfl) (L := [_, _, _, _, _]) rfl ?_
  have loop : ∀ i, i ≤ 8 → xA none (d + 3) mX8_waysOn 0 0 0 0 5 [some (.ref 41), some (.ref 3), some (.int (nI lp)), some (.int (nI (cn (mayF (hD h) (hLo h) m r lp) i))), some (.int (nI i))] [] ((σF τ), S, G) (fun r' h' => r' = (some (.int (nI (cn (mayF (hD h) (hLo h) m r lp) 8)))) ∧ h' = ((σF τ), S, G)) := by
    refine xloop 8 (fun i hi ih => ?_) ?_
    · skip
      refine xA.iload rfl rfl rfl ?_
      refine xA.bipush (v := 8) rfl (by decide) rfl ?_
      refine xA.icmp_ge (tgt := 41) rfl rfl rfl (fun h9 => ?_) (fun h9 => ?_)
      · exact absurd h9 (nI_ge (b := 8) hi (by omega))
      · refine xA.iload_n (i := 3) rfl rfl rfl rfl ?_
        refine xA.aload_n (i := 1) rfl rfl rfl rfl ?_
        refine xA.aload_n (i := 0) rfl rfl rfl rfl ?_
        refine xA.getI rfl f8_9 rfl rfl rfl ?_
        refine xA.topi (hs0) ?_
        refine xA.iload rfl rfl rfl ?_
        refine xA.iload_n (i := 2) rfl rfl rfl rfl ?_
        refine xA.callVi (As := [_, _, _]) rfl k8_39 okX1_spotAfter rfl rfl rfl rfl (Nat.le_of_ble_eq_true rfl) (c_X1_spotAfter d _ G 3 ⟨rfl, rfl, rfl⟩ m r i lp hm hr hi hlp) rfl rfl ?_
        refine xA.topi (congrArg oI (hh.nx _ _ _ _ hr hi)) ?_
        refine xA.iconst (v := (-1)) rfl (by decide) rfl ?_
        refine xA.icmp_ne (tgt := 32) rfl rfl rfl (fun h25 => ?_) (fun h25 => ?_)
        · refine xA.iconst (v := 1) rfl (by decide) rfl ?_
          refine xA.iadd rfl rfl ?_
          refine xA.topi (show _ = nI (cn (mayF (hD h) (hLo h) m r lp) (i + 1)) from by rw [oI_nxH hm hr hi] at h25; first | exact cn_t (by simpa using h25) | exact cn_f h25) ?_
          refine xA.istore_n (i := 3) (L' := [_, _, _, _, _]) rfl rfl (Nat.le_of_ble_eq_true rfl) rfl rfl ?_
          refine xA.iinc (L' := [_, _, _, _, _]) rfl rfl (nI_1 i) rfl rfl ?_
          refine xA.goto (q := 5) rfl rfl ?_
          exact ih
        · refine xA.iconst (v := 0) rfl (by decide) rfl ?_
          refine xA.goto (q := 33) rfl rfl ?_
          refine xA.iadd rfl rfl ?_
          refine xA.topi (show _ = nI (cn (mayF (hD h) (hLo h) m r lp) (i + 1)) from by rw [oI_nxH hm hr hi] at h25; first | exact cn_t (by simpa using h25) | exact cn_f h25) ?_
          refine xA.istore_n (i := 3) (L' := [_, _, _, _, _]) rfl rfl (Nat.le_of_ble_eq_true rfl) rfl rfl ?_
          refine xA.iinc (L' := [_, _, _, _, _]) rfl rfl (nI_1 i) rfl rfl ?_
          refine xA.goto (q := 5) rfl rfl ?_
          exact ih
    · skip
      refine xA.iload rfl rfl rfl ?_
      refine xA.bipush (v := 8) rfl (by decide) rfl ?_
      refine xA.icmp_ge (tgt := 41) rfl rfl rfl (fun h9 => ?_) (fun h9 => ?_)
      · refine xA.iload_n (i := 3) rfl rfl rfl rfl ?_
        exact xA.iret rfl rfl rfl ⟨rfl, rfl⟩
      · exact absurd (nI_le (a := 8) (b := 8) (Nat.le_refl _) (by omega)) h9
  refine xA.iconst (v := 0) rfl (by decide) rfl ?_
  refine xA.istore_n (i := 3) (L' := [_, _, _, _, _]) rfl rfl (Nat.le_of_ble_eq_true rfl) rfl rfl ?_
  refine xA.iconst (v := 0) rfl (by decide) rfl ?_
  refine xA.istore (L' := [_, _, _, _, _]) rfl (Nat.le_of_ble_eq_true rfl) rfl rfl ?_
  exact loop 0 (Nat.zero_le _)
set_option maxRecDepth 100000 in
set_option maxHeartbeats 400000 in
theorem c_X8_draw (d : Nat) (S : Nat → Nat → Int32) (G : Nat → Nat → Int64) (w : Int32) (hw : ¬ w < 1) : xR τ d mX8_draw [.ref 41, .int w] S G (some (.int (drN (sdN (S 41 2)) w))) (xu S 41 2 (sdN (S 41 2))) G := by
  refine xC.of okX8_draw (Nat.le_of_ble_eq_true rfl) (L := [_, _]) rfl ?_
  refine xA.aload_n (i := 0) rfl rfl rfl rfl ?_
  refine xA.ldc2 (v := 1103515245) rfl w563 rfl ?_
  refine xA.aload_n (i := 0) rfl rfl rfl rfl ?_
  refine xA.getI rfl f8_18 rfl rfl rfl ?_
  refine xA.i2l rfl rfl ?_
  refine xA.lmul rfl rfl ?_
  refine xA.ldc2 (v := 12345) rfl w564 rfl ?_
  refine xA.ladd rfl rfl ?_
  refine xA.ldc2 (v := 2147483647) rfl w565 rfl ?_
  refine xA.land rfl rfl ?_
  refine xA.l2i rfl rfl ?_
  refine xA.putI rfl p8_18 rfl rfl rfl ?_
  refine xA.iload_n (i := 1) rfl rfl rfl rfl ?_
  refine xA.iconst (v := 1) rfl (by decide) rfl ?_
  refine xA.icmp_ge (tgt := 31) rfl rfl rfl (fun h24 => ?_) (fun h24 => ?_)
  · refine xA.aload_n (i := 0) rfl rfl rfl rfl ?_
    refine xA.getI rfl f8_18 rfl rfl rfl ?_
    refine xA.topi (xu_same) ?_
    refine xA.ldc (v := 65536) rfl w566 rfl ?_
    refine xA.idiv rfl (by decide) rfl ?_
    refine xA.iload_n (i := 1) rfl rfl rfl rfl ?_
    refine xA.irem rfl (by intro z; subst z; exact hw (by decide)) rfl ?_
    exact xA.iret rfl rfl rfl ⟨rfl, rfl⟩
  · exact absurd (Int32.not_le.mp h24) hw
/-- the j-th of those that may be, from step s on, f steps left -/
def pick (f : Nat → Bool) : Nat → Nat → Nat → Nat
  | 0, s, _ => s
  | t + 1, s, j => if f s = true then (if j = 0 then s else pick f t (s + 1) (j - 1)) else pick f t (s + 1) j
theorem pick_spec {f : Nat → Bool} : ∀ (t s j : Nat), j < cn (fun i => f (s + i)) t → s ≤ pick f t s j ∧ pick f t s j < s + t ∧ f (pick f t s j) = true := by
  intro t
  induction t with
  | zero => intro s j h; exact absurd h (Nat.not_lt_zero _)
  | succ t ih =>
    intro s j h
    have hc : ∀ n, cn (fun i => f (s + i)) (n + 1) = (if f s = true then 1 else 0) + cn (fun i => f (s + 1 + i)) n := by
      intro n
      induction n with
      | zero => simp [cn]
      | succ n ihn =>
        rw [cn, ihn, cn, Nat.add_assoc, show s + (n + 1) = s + 1 + n by omega]
    rw [hc] at h
    rw [pick]
    by_cases hf : f s = true
    · rw [if_pos hf] at h ⊢
      by_cases hj : j = 0
      · rw [if_pos hj]; exact ⟨Nat.le_refl _, by omega, hf⟩
      · rw [if_neg hj]
        have := ih (s + 1) (j - 1) (by omega)
        exact ⟨by omega, by omega, this.2.2⟩
    · rw [if_neg hf] at h ⊢
      have := ih (s + 1) j (by omega)
      exact ⟨by omega, by omega, this.2.2⟩

theorem cn_cons {f : Nat → Bool} (s n : Nat) : cn (fun i => f (s + i)) (n + 1) = (if f s = true then 1 else 0) + cn (fun i => f (s + 1 + i)) n := by
  induction n with
  | zero => simp [cn]
  | succ n ih => rw [cn, ih, cn, Nat.add_assoc, show s + (n + 1) = s + 1 + n by omega]
set_option maxRecDepth 100000 in
set_option maxHeartbeats 1000000 in
theorem c_X8_take (d : Nat) (S : Nat → Nat → Int32) (G : Nat → Nat → Int64) (h : hS) (hh : hSd S h) (m r lp : Nat) (hm : m < 60) (hr : r < 6) (hlp : lp ≤ 10) (hs0 : S 41 0 = nI (m * 6 + r)) (j : Nat) (hj : j < cn (mayF (hD h) (hLo h) m r lp) 8) : xR τ (d + 3) mX8_take [.ref 41, .ref 3, .int (nI lp), .int (nI j)] S G none (xu (xu S 41 0 (oI (nxH (hD h) (hLo h) m r (pick (mayF (hD h) (hLo h) m r lp) 8 0 j) lp))) 41 1 (S 41 1 + (if (pick (mayF (hD h) (hLo h) m r lp) 8 0 j) = 7 then 1 else 0))) G := by
  have hj8 : j < 8 := Nat.lt_of_lt_of_le hj (cn_le _ _)
  refine xC.of okX8_take (Nat.le_of_ble_eq_true rfl) (L := [_, _, _, _, _, _, _]) rfl ?_
  have loop : ∀ i, i ≤ 8 → ∀ jj, jj < 8 → pick (mayF (hD h) (hLo h) m r lp) (8 - i) i jj = (pick (mayF (hD h) (hLo h) m r lp) 8 0 j) → jj < cn (fun q => (mayF (hD h) (hLo h) m r lp) (i + q)) (8 - i) → ∀ x6 : Option Value, xA none (d + 3) mX8_take 0 0 0 0 6 [some (.ref 41), some (.ref 3), some (.int (nI lp)), some (.int (nI j)), some (.int (nI jj)), some (.int (nI i)), x6] [] ((σF τ), S, G) (fun r' h' => r' = none ∧ h' = ((σF τ), xu (xu S 41 0 (oI (nxH (hD h) (hLo h) m r (pick (mayF (hD h) (hLo h) m r lp) 8 0 j) lp))) 41 1 (S 41 1 + (if (pick (mayF (hD h) (hLo h) m r lp) 8 0 j) = 7 then 1 else 0)), G)) := by
    refine xloop 8 (fun i hi ih => ?_) ?_
    · intro jj hjl hpk hjc x6
      obtain ⟨t, hti⟩ : ∃ t, 8 - i = t + 1 := ⟨8 - i - 1, by omega⟩
      refine xA.iload rfl rfl rfl ?_
      refine xA.bipush (v := 8) rfl (by decide) rfl ?_
      refine xA.icmp_ge (tgt := 77) rfl rfl rfl (fun h10 => ?_) (fun h10 => ?_)
      · exact absurd h10 (nI_ge (b := 8) (by omega) (by omega))
      · refine xA.aload_n (i := 1) rfl rfl rfl rfl ?_
        refine xA.aload_n (i := 0) rfl rfl rfl rfl ?_
        refine xA.getI rfl f8_9 rfl rfl rfl ?_
        refine xA.topi (hs0) ?_
        refine xA.iload rfl rfl rfl ?_
        refine xA.iload_n (i := 2) rfl rfl rfl rfl ?_
        refine xA.callVi (As := [_, _, _]) rfl k8_39 okX1_spotAfter rfl rfl rfl rfl (Nat.le_of_ble_eq_true rfl) (c_X1_spotAfter d _ G 3 ⟨rfl, rfl, rfl⟩ m r i lp hm hr (by omega) hlp) rfl rfl ?_
        refine xA.topi (congrArg oI (hh.nx _ _ _ _ hr (by omega))) ?_
        refine xA.istore (L' := [_, _, _, _, _, _, _]) rfl (Nat.le_of_ble_eq_true rfl) rfl rfl ?_
        refine xA.iload rfl rfl rfl ?_
        refine xA.iconst (v := (-1)) rfl (by decide) rfl ?_
        refine xA.icmp_ne (tgt := 35) rfl rfl rfl (fun h29 => ?_) (fun h29 => ?_)
        · rw [oI_nxH hm hr (by omega)] at h29; have e29 : mayF (hD h) (hLo h) m r lp i = true := by simpa using h29
          refine xA.iload rfl rfl rfl ?_
          refine xA.if_ne (tgt := 68) rfl rfl rfl (fun h37 => ?_) (fun h37 => ?_)
          · have e37 : ¬ jj = 0 := fun z => h37 (by rw [z]; rfl)
            refine xA.iinc (L' := [_, _, _, _, _, _, _]) rfl rfl (nI_dec8 jj hjl e37) rfl rfl ?_
            refine xA.iinc (L' := [_, _, _, _, _, _, _]) rfl rfl (nI_1 i) rfl rfl ?_
            refine xA.goto (q := 6) rfl rfl ?_
            first
            | exact ih (jj - 1) (by omega) (by rw [← hpk, hti, pick, if_pos e29, if_neg e37, show 8 - (i + 1) = t by omega]) (by rw [show 8 - i = t + 1 by omega] at hjc; have := cn_cons (f := mayF (hD h) (hLo h) m r lp) i t; rw [this, if_pos e29] at hjc; rw [show 8 - (i + 1) = t by omega]; omega) _
            | exact ih jj hjl (by rw [← hpk, hti, pick, if_neg (by rw [h29]; decide), show 8 - (i + 1) = t by omega]) (by rw [show 8 - i = t + 1 by omega] at hjc; have := cn_cons (f := mayF (hD h) (hLo h) m r lp) i t; rw [this, if_neg (by rw [h29]; decide)] at hjc; rw [show 8 - (i + 1) = t by omega]; omega) _
          · have e37 : jj = 0 := (nI_eq (b := 0) (by omega) (by omega)).mp h37
            refine xA.aload_n (i := 0) rfl rfl rfl rfl ?_
            refine xA.iload rfl rfl rfl ?_
            refine xA.putI rfl p8_9 rfl rfl rfl ?_
            refine xA.aload_n (i := 0) rfl rfl rfl rfl ?_
            refine xA.dup rfl rfl rfl ?_
            refine xA.getI rfl f8_15 rfl rfl rfl ?_
            refine xA.topi ((xu_ne2 (by omega) : _ = S 41 1)) ?_
            refine xA.iload rfl rfl rfl ?_
            refine xA.bipush (v := 7) rfl (by decide) rfl ?_
            refine xA.icmp_ne (tgt := 62) rfl rfl rfl (fun h55 => ?_) (fun h55 => ?_)
            · have e55 : ¬ i = 7 := fun z => h55 (by rw [z]; rfl)
              refine xA.iconst (v := 0) rfl (by decide) rfl ?_
              refine xA.iadd rfl rfl ?_
              refine xA.putI rfl p8_15 rfl rfl rfl ?_
              have ep : pick (mayF (hD h) (hLo h) m r lp) 8 0 j = i := by rw [← hpk, hti, pick, if_pos e29, if_pos e37]
              refine xA.store (S' := xu (xu S 41 0 (oI (nxH (hD h) (hLo h) m r (pick (mayF (hD h) (hLo h) m r lp) 8 0 j) lp))) 41 1 (S 41 1 + (if (pick (mayF (hD h) (hLo h) m r lp) 8 0 j) = 7 then 1 else 0))) (by rw [ep]; first | rw [if_pos e55] | rw [if_neg e55]) ?_
              exact xA.vret rfl rfl ⟨rfl, rfl⟩
            · have e55 : i = 7 := (nI_eq (b := 7) (by omega) (by omega)).mp h55
              refine xA.iconst (v := 1) rfl (by decide) rfl ?_
              refine xA.goto (q := 63) rfl rfl ?_
              refine xA.iadd rfl rfl ?_
              refine xA.putI rfl p8_15 rfl rfl rfl ?_
              have ep : pick (mayF (hD h) (hLo h) m r lp) 8 0 j = i := by rw [← hpk, hti, pick, if_pos e29, if_pos e37]
              refine xA.store (S' := xu (xu S 41 0 (oI (nxH (hD h) (hLo h) m r (pick (mayF (hD h) (hLo h) m r lp) 8 0 j) lp))) 41 1 (S 41 1 + (if (pick (mayF (hD h) (hLo h) m r lp) 8 0 j) = 7 then 1 else 0))) (by rw [ep]; first | rw [if_pos e55] | rw [if_neg e55]) ?_
              exact xA.vret rfl rfl ⟨rfl, rfl⟩
        · rw [oI_nxH hm hr (by omega)] at h29
          refine xA.goto (q := 71) rfl rfl ?_
          refine xA.iinc (L' := [_, _, _, _, _, _, _]) rfl rfl (nI_1 i) rfl rfl ?_
          refine xA.goto (q := 6) rfl rfl ?_
          first
          | exact ih (jj - 1) (by omega) (by rw [← hpk, hti, pick, if_pos e29, if_neg e37, show 8 - (i + 1) = t by omega]) (by rw [show 8 - i = t + 1 by omega] at hjc; have := cn_cons (f := mayF (hD h) (hLo h) m r lp) i t; rw [this, if_pos e29] at hjc; rw [show 8 - (i + 1) = t by omega]; omega) _
          | exact ih jj hjl (by rw [← hpk, hti, pick, if_neg (by rw [h29]; decide), show 8 - (i + 1) = t by omega]) (by rw [show 8 - i = t + 1 by omega] at hjc; have := cn_cons (f := mayF (hD h) (hLo h) m r lp) i t; rw [this, if_neg (by rw [h29]; decide)] at hjc; rw [show 8 - (i + 1) = t by omega]; omega) _
    · intro jj hjl hpk hjc x6
      exact absurd hjc (by rw [Nat.sub_self]; exact Nat.not_lt_zero _)
  refine xA.iload_n (i := 3) rfl rfl rfl rfl ?_
  refine xA.istore (L' := [_, _, _, _, _, _, _]) rfl (Nat.le_of_ble_eq_true rfl) rfl rfl ?_
  refine xA.iconst (v := 0) rfl (by decide) rfl ?_
  refine xA.istore (L' := [_, _, _, _, _, _, _]) rfl (Nat.le_of_ble_eq_true rfl) rfl rfl ?_
  exact loop 0 (Nat.zero_le _) j (by omega) rfl (by simpa using hj) _
theorem ts_out3 {w : Int32} (h0 : ¬ w = 0) (h1 : ¬ w = 1) (h2 : ¬ w = 2) : w.toInt < 0 ∨ 2 < w.toInt := by
  simp only [i32_ext, Int32.reduceToInt] at h0 h1 h2
  omega

set_option maxRecDepth 100000 in
set_option maxHeartbeats 400000 in
theorem c_X8_tell (d : Nat) (S : Nat → Nat → Int32) (G : Nat → Nat → Int64) (w : Int32) : xR τ (d + 1) mX8_tell [.ref 41, .int w] S G (some (.int (if w = 0 then xmin (S 41 0) else if w = 1 then xroom (S 41 0) else if w = 2 then S 41 1 else S 41 2))) S G := by
  refine xC.of okX8_tell (Nat.le_of_ble_eq_true rfl) (L := [_, _]) rfl ?_
  refine xA.iload_n (i := 1) rfl rfl rfl rfl ?_
  by_cases h1_0 : w = 0
  · subst h1_0
    refine xA.tsIn (q := 28) rfl (by decide) (by decide) rfl rfl ?_
    refine xA.aload_n (i := 0) rfl rfl rfl rfl ?_
    refine xA.getI rfl f8_9 rfl rfl rfl ?_
    refine xA.callSNi (As := [_]) rfl k8_33 okX9_minuteOf rfl rfl (Nat.le_of_ble_eq_true rfl) (c_X9_minuteOf d S G _) rfl rfl ?_
    exact xA.iret rfl rfl rfl ⟨rfl, rfl⟩
  by_cases h1_1 : w = 1
  · subst h1_1
    refine xA.tsIn (q := 36) rfl (by decide) (by decide) rfl rfl ?_
    refine xA.aload_n (i := 0) rfl rfl rfl rfl ?_
    refine xA.getI rfl f8_9 rfl rfl rfl ?_
    refine xA.callSNi (As := [_]) rfl k8_36 okX9_roomOf rfl rfl (Nat.le_of_ble_eq_true rfl) (c_X9_roomOf d S G _) rfl rfl ?_
    exact xA.iret rfl rfl rfl ⟨rfl, rfl⟩
  by_cases h1_2 : w = 2
  · subst h1_2
    refine xA.tsIn (q := 44) rfl (by decide) (by decide) rfl rfl ?_
    refine xA.aload_n (i := 0) rfl rfl rfl rfl ?_
    refine xA.getI rfl f8_15 rfl rfl rfl ?_
    exact xA.iret rfl rfl rfl ⟨rfl, rfl⟩
  refine xA.tsOut (q := 49) rfl (ts_out3 h1_0 h1_1 h1_2) rfl ?_
  refine xA.aload_n (i := 0) rfl rfl rfl rfl ?_
  refine xA.getI rfl f8_18 rfl rfl rfl ?_
  exact xA.iret rfl rfl rfl ⟨by rw [if_neg h1_0, if_neg h1_1, if_neg h1_2], rfl⟩
end
section
variable {τ : List xSh}
/-! ===== the state, in whole numbers; what the class holds of it ===== -/
abbrev tS : Type := Nat × (Nat → Int32) × (Nat → Int32) × (Nat → Int32)
abbrev gS : Type := Nat × (Nat → Nat)
abbrev iS : Type := Nat × Nat × (Nat → lS) × tS × gS
/-- page, letters, houses read, the house, people, kinds, lives, tasks, glimpses, searches, image -/
abbrev sS : Type := (Nat → Nat) × Nat × Nat × hS × Nat × (Nat → Nat) × (Nat → lS) × tS × gS × Nat × iS
abbrev sPg (s : sS) : Nat → Nat := s.1
abbrev sN (s : sS) : Nat := s.2.1
abbrev sHr (s : sS) : Nat := s.2.2.1
abbrev sH (s : sS) : hS := s.2.2.2.1
abbrev sP (s : sS) : Nat := s.2.2.2.2.1
abbrev sKd (s : sS) : Nat → Nat := s.2.2.2.2.2.1
abbrev sL (s : sS) : Nat → lS := s.2.2.2.2.2.2.1
abbrev sTk (s : sS) : tS := s.2.2.2.2.2.2.2.1
abbrev sGl (s : sS) : gS := s.2.2.2.2.2.2.2.2.1
abbrev sSd (s : sS) : Nat := s.2.2.2.2.2.2.2.2.2.1
abbrev sIm (s : sS) : iS := s.2.2.2.2.2.2.2.2.2.2
/-- whether a life goes through door j -/
def thr (h : hS) (l : lS) (j : Nat) : Bool := decide (0 < cn (fun i => decide ((lSp l i % 6 = hOn h j ∧ lSp l (i + 1) % 6 = hTw h j) ∨ (lSp l i % 6 = hTw h j ∧ lSp l (i + 1) % 6 = hOn h j))) (lN' l - 1))
/-- a life that stands -/
def lG (h : hS) (l : lS) : Prop := lN' l ≤ 17 ∧ (∀ i, i < lN' l → lSp l i < 360) ∧ lTh l ≤ 17 ∧ lDb l < 1024 ∧ ∀ j, j < hNd h → (lDb l).testBit j = thr h l j
def tkC (S : Nat → Nat → Int32) (k : Nat) (t : tS) : Prop := S k 3 = nI t.1 ∧ t.1 ≤ 5 ∧ ∀ i, i < t.1 → S (k + 1) i = t.2.1 i ∧ S (k + 2) i = t.2.2.1 i ∧ S (k + 3) i = t.2.2.2 i
def glC (S : Nat → Nat → Int32) (k : Nat) (g : gS) : Prop := S k 1 = nI g.1 ∧ g.1 ≤ 8 ∧ ∀ i, i < g.1 → S (k + 1) i = nI (g.2 i) ∧ g.2 i < 360
/-- the class holds the house -/
def hsC (S : Nat → Nat → Int32) (hr : Nat) (h : hS) : Prop := S 0 11 = nI hr ∧ hr ≤ 600 ∧ (hr = 0 → S 3 2 = 0 ∧ S 3 3 = 0 ∧ S 3 4 = -1 ∧ S 3 5 = 0) ∧ (0 < hr → hSd S h ∧ (hSt h = 5 ∨ hSt h = 8))
def ppC (S : Nat → Nat → Int32) (h : hS) (P : Nat) (kd : Nat → Nat) (L : Nat → lS) : Prop := S 0 10 = nI P ∧ P ≤ 4 ∧ ∀ p, p < P → S (42 + 3 * p) 1 = nI (kd p) ∧ kd p < 5 ∧ lC S (42 + 3 * p + 1) (L p) ∧ lG h (L p)
def imC (S : Nat → Nat → Int32) (h : hS) (im : iS) : Prop := S 18 3 = nI im.1 ∧ im.1 ≤ 1 ∧ (im.1 = 1 → S 18 4 = nI im.2.1 ∧ im.2.1 ≤ 4 ∧ (∀ p, p < im.2.1 → lC S (26 + 3 * p + 1) (im.2.2.1 p) ∧ lG h (im.2.2.1 p)) ∧ tkC S 20 im.2.2.2.1 ∧ glC S 24 im.2.2.2.2)
/-- the class holds the state -/
def CS (S : Nat → Nat → Int32) (s : sS) : Prop := pgC S (sPg s) (sN s) ∧ hsC S (sHr s) (sH s) ∧ ppC S (sH s) (sP s) (sKd s) (sL s) ∧ tkC S 12 (sTk s) ∧ glC S 16 (sGl s) ∧ (S 0 12 = nI (sSd s) ∧ sSd s ≤ 30) ∧ imC S (sH s) (sIm s) ∧ (sHr s = 0 → sP s = 0 ∧ (sTk s).1 = 0 ∧ (sGl s).1 = 0 ∧ (sIm s).1 = 0)
theorem isP : ∀ i, i < 4 → isPers τ (42 + 3 * i)
  | 0, _ => ⟨rfl, rfl, rfl⟩
  | 1, _ => ⟨rfl, rfl, rfl⟩
  | 2, _ => ⟨rfl, rfl, rfl⟩
  | 3, _ => ⟨rfl, rfl, rfl⟩
  | i + 4, h => absurd h (by omega)
theorem isI : ∀ i, i < 4 → isPers τ (26 + 3 * i)
  | 0, _ => ⟨rfl, rfl, rfl⟩
  | 1, _ => ⟨rfl, rfl, rfl⟩
  | 2, _ => ⟨rfl, rfl, rfl⟩
  | 3, _ => ⟨rfl, rfl, rfl⟩
  | i + 4, h => absurd h (by omega)
theorem pAt : ∀ i, i < 4 → ([some 42, some 45, some 48, some 51] : List (Option Nat))[i]? = some (some (42 + 3 * i)) := by decide
theorem iAt : ∀ i, i < 4 → ([some 26, some 29, some 32, some 35] : List (Option Nat))[i]? = some (some (26 + 3 * i)) := by decide
theorem iH3 : isHouse τ 3 := ⟨rfl, rfl, rfl⟩
theorem iH6 : isHouse τ 6 := ⟨rfl, rfl, rfl⟩
theorem iT12 : isTasks τ 12 := ⟨rfl, rfl, rfl, rfl⟩
theorem iT20 : isTasks τ 20 := ⟨rfl, rfl, rfl, rfl⟩
theorem iG16 : isGlim τ 16 := ⟨rfl, rfl⟩
theorem iG24 : isGlim τ 24 := ⟨rfl, rfl⟩
theorem iL9 : isLife τ 9 := ⟨rfl, rfl⟩
/-! counts, in whole numbers -/
def atN (l : lS) (x : Int32) : Nat := cn (fun j => decide (nI (lSp l j) = x)) (lN' l)
def inN (l : lS) (x : Int32) : Nat := cn (fun j => decide (nI (lSp l j / 6) = x)) (lN' l)
theorem lC_sp {S : Nat → Nat → Int32} {k : Nat} {l : lS} (h : lC S k l) (hg : ∀ i, i < lN' l → lSp l i < 360) {i : Nat} (hi : i < lN' l) : S (k + 1) i = nI (lSp l i / 6 * 6 + lSp l i % 6) := by
  rw [h.2.2.2 i hi, show lSp l i / 6 * 6 + lSp l i % 6 = lSp l i by omega]
theorem lC_at {S : Nat → Nat → Int32} {k : Nat} {l : lS} (h : lC S k l) (x : Int32) : cn (fun j => decide (S (k + 1) j = x)) (lN' l) = atN l x := cn_congr fun i hi => by rw [h.2.2.2 i hi]
theorem lC_xmin {S : Nat → Nat → Int32} {k : Nat} {l : lS} (h : lC S k l) (hg : ∀ i, i < lN' l → lSp l i < 360) {i : Nat} (hi : i < lN' l) : xmin (S (k + 1) i) = nI (lSp l i / 6) := by
  have := hg i hi
  rw [lC_sp h hg hi, xmin_nI (by omega) (by omega)]
theorem lC_xroom {S : Nat → Nat → Int32} {k : Nat} {l : lS} (h : lC S k l) (hg : ∀ i, i < lN' l → lSp l i < 360) {i : Nat} (hi : i < lN' l) : xroom (S (k + 1) i) = nI (lSp l i % 6) := by
  have := hg i hi
  rw [lC_sp h hg hi, xroom_nI (by omega) (by omega)]
theorem lC_in {S : Nat → Nat → Int32} {k : Nat} {l : lS} (h : lC S k l) (hg : ∀ i, i < lN' l → lSp l i < 360) (x : Int32) : cn (fun j => decide (xmin (S (k + 1) j) = x)) (lN' l) = inN l x := cn_congr fun i hi => by rw [lC_xmin h hg hi]
theorem lC_ok {S : Nat → Nat → Int32} {k : Nat} {l : lS} (h : lC S k l) (hg : ∀ i, i < lN' l → lSp l i < 360) : okSp (S (k + 1)) (lN' l) := fun i hi => ⟨lSp l i / 6, lSp l i % 6, by have := hg i hi; omega, by omega, lC_sp h hg hi⟩
theorem fwS_congr {mi mi' : Nat → Int32} {ok ok' : Nat → Bool} {n : Nat} (h : ∀ i, i < n → mi i = mi' i ∧ ok i = ok' i) : fwS mi ok n = fwS mi' ok' n := by
  induction n with
  | zero => rfl
  | succ n ih =>
    have e := h n (by omega)
    rw [fwS, fwS, ih (fun i hi => h i (by omega)), e.1, e.2]
theorem fmS_congr {mi mi' : Nat → Int32} {c c' : Int32 → Nat} {n : Nat} (h : ∀ i, i < n → mi i = mi' i) (hc : ∀ x, c x = c' x) : fmS mi c n = fmS mi' c' n := by
  induction n with
  | zero => rfl
  | succ n ih => rw [fmS, fmS, ih (fun i hi => h i (by omega)), h n (by omega), hc]
/-- whether one in room a sees, or is with, one in room b -/
def seeB (h : hS) (kd a b : Nat) : Bool := if kd = 3 ∨ kd = 4 then false else if kd = 1 then decide (a = b) else decide (a = b) || (hSr h a).testBit b
def metB (h : hS) (kd : Nat) (l : lS) (q : Nat) : Bool := decide (0 < cn (fun i => decide (¬ i = q) && (decide (lSp l i / 6 = lSp l q / 6) && seeB h kd (lSp l q % 6) (lSp l i % 6))) (lN' l))
def metN (h : hS) (kd : Nat) (l : lS) : Int32 := fwS (fun j => nI (lSp l j / 6)) (metB h kd l) (lN' l)
theorem dec_bt {x b : Nat} (hx : x < 64) (hb : b < 6) : decide (bt (nI x) (nI b)) = x.testBit b := by
  cases hz : x.testBit b
  · exact decide_eq_false (fun q => by rw [bt_nI x hx b hb, hz] at q; cases q)
  · exact decide_eq_true ((bt_nI x hx b hb).mpr hz)
theorem bt_mrm {h : hS} (ho : hOk h) {kd a b : Nat} (hk : kd < 5) (ha : a < 6) (hb : b < 6) : decide (bt (mrm (nI kd) a (nI (hSr h a))) (nI b)) = seeB h kd a b := by
  have h0 : ∀ b, b < 6 → decide (bt 0 (nI b)) = false := by decide +kernel
  have h1 := ho.2.2.2.2.2.2.2.2.1 a
  have e3 : nI kd = 3 ↔ kd = 3 := nI_eq (b := 3) (by omega) (by omega)
  have e4 : nI kd = 4 ↔ kd = 4 := nI_eq (b := 4) (by omega) (by omega)
  have e1 : nI kd = 1 ↔ kd = 1 := nI_eq (b := 1) (by omega) (by omega)
  unfold mrm seeB
  simp only [e3, e4, e1, nI_shl a (by omega), nI_or]
  split
  · exact h0 b hb
  · split
    · have h2 : 2 ^ a < 64 := by have := or_lt64 (a := 0) (by omega) ha; simpa using this
      rw [dec_bt h2 hb, Nat.testBit_two_pow]
    · have h2 : 2 ^ a ||| hSr h a < 64 := by rw [Nat.or_comm]; exact or_lt64 h1 ha
      rw [dec_bt h2 hb, Nat.testBit_or, Nat.testBit_two_pow]
theorem lC_met {S : Nat → Nat → Int32} {k : Nat} {h : hS} {kd : Nat} {l : lS} (hh : hSd S h) (hk : kd < 5) (h1 : S k 1 = nI kd) (hl : lC S (k + 1) l) (hg : ∀ i, i < lN' l → lSp l i < 360) :
    fwS (fun j => xmin (S (k + 1 + 1) j)) (fun j => decide (0 < cn (mtF (S (k + 1 + 1)) (mrm (S k 1) (xroom (S (k + 1 + 1) j)).toNatClampNeg (S 5 (xroom (S (k + 1 + 1) j)).toNatClampNeg)) j) (lN' l))) (lN' l) = metN h kd l := by
  refine fwS_congr fun q hq => ⟨lC_xmin hl hg hq, ?_⟩
  have hqg := hg q hq
  refine decide_eq_decide.mpr (Iff.of_eq (congrArg (fun z => 0 < z) (cn_congr fun i hi => ?_)))
  have hig := hg i hi
  rw [mtF, lC_xmin hl hg hi, lC_xmin hl hg hq, lC_xroom hl hg hi, lC_xroom hl hg hq, nI_clamp (by omega), h1, show S 5 (lSp l q % 6) = nI (hSr h (lSp l q % 6)) from hh.1.2.2.2.2.2.2.2 _ (by omega), bt_mrm hh.2.1 hk (by omega) (by omega)]
  congr 2
  exact decide_eq_decide.mpr (nI_eq (by omega) (by omega))
end
section
variable {τ : List xSh}
/-! ===== the class's methods that ask ===== -/
set_option maxRecDepth 100000 in
set_option maxHeartbeats 400000 in
theorem c_X9_personAt (d : Nat) (S : Nat → Nat → Int32) (G : Nat → Nat → Int64) (P : Nat) (hP : S 0 10 = nI P) (h4 : P ≤ 4) (i : Nat) (hi : i < P) : xR τ d mX9_personAt [.ref 0, .int (nI i)] S G (some (.ref (42 + 3 * i))) S G := by
  refine xC.of okX9_personAt (Nat.le_of_ble_eq_true rfl) (L := [_, _]) rfl ?_
  refine xA.iload_n (i := 1) rfl rfl rfl rfl ?_
  refine xA.if_lt (tgt := 30) rfl rfl rfl (fun h1 => ?_) (fun h1 => ?_)
  · exact absurd h1 (nI_pos (by omega))
  · refine xA.iload_n (i := 1) rfl rfl rfl rfl ?_
    refine xA.aload_n (i := 0) rfl rfl rfl rfl ?_
    refine xA.getI rfl f9_105 rfl rfl rfl ?_
    refine xA.topi (hP) ?_
    refine xA.icmp_ge (tgt := 30) rfl rfl rfl (fun h9 => ?_) (fun h9 => ?_)
    · exact absurd h9 (nI_ge hi (by omega))
    · refine xA.iload_n (i := 1) rfl rfl rfl rfl ?_
      refine xA.aload_n (i := 0) rfl rfl rfl rfl ?_
      refine xA.getR rfl f9_35 rfl rfl rfl rfl ?_
      refine xA.alenR rfl rfl rfl ?_
      refine xA.icmp_ge (tgt := 30) rfl rfl rfl (fun h18 => ?_) (fun h18 => ?_)
      · exact absurd h18 (nI_ge (b := 4) (by omega) (by omega))
      · refine xA.aload_n (i := 0) rfl rfl rfl rfl ?_
        refine xA.getR rfl f9_35 rfl rfl rfl rfl ?_
        refine xA.iload_n (i := 1) rfl rfl rfl rfl ?_
        refine xA.aald rfl rfl (vp_in_nI (n := i) (by show i < 4; omega) (by show 4 < _; omega)) (by rw [nI_clamp (by omega)]; exact pAt i (by omega)) rfl ?_
        refine xA.goto (q := 31) rfl rfl ?_
        exact xA.aret rfl rfl (Or.inr ⟨_, rfl⟩) ⟨rfl, rfl⟩
set_option maxRecDepth 100000 in
set_option maxHeartbeats 400000 in
theorem c_X9_personAtN (d : Nat) (S : Nat → Nat → Int32) (G : Nat → Nat → Int64) (P : Nat) (hP : S 0 10 = nI P) (h4 : P ≤ 4) (x : Int32) (hx : ¬ rg x P) : xR τ d mX9_personAt [.ref 0, .int x] S G (some .null) S G := by
  refine xC.of okX9_personAt (Nat.le_of_ble_eq_true rfl) (L := [_, _]) rfl ?_
  refine xA.iload_n (i := 1) rfl rfl rfl rfl ?_
  refine xA.if_lt (tgt := 30) rfl rfl rfl (fun h1 => ?_) (fun h1 => ?_)
  · refine xA.null rfl rfl ?_
    exact xA.aret rfl rfl (Or.inl rfl) ⟨rfl, rfl⟩
  · refine xA.iload_n (i := 1) rfl rfl rfl rfl ?_
    refine xA.aload_n (i := 0) rfl rfl rfl rfl ?_
    refine xA.getI rfl f9_105 rfl rfl rfl ?_
    refine xA.topi (hP) ?_
    refine xA.icmp_ge (tgt := 30) rfl rfl rfl (fun h9 => ?_) (fun h9 => ?_)
    · refine xA.null rfl rfl ?_
      exact xA.aret rfl rfl (Or.inl rfl) ⟨rfl, rfl⟩
    · exact absurd (by rw [Int32.le_iff_toInt_le, nI_toInt (by omega)] at h9; rw [Int32.lt_iff_toInt_lt, Int32.toInt_zero] at h1; exact ⟨by omega, by omega⟩) hx
set_option maxRecDepth 100000 in
set_option maxHeartbeats 400000 in
theorem c_X9_forget (d : Nat) (S : Nat → Nat → Int32) (G : Nat → Nat → Int64)  : xR τ (d + 1) mX9_forget [.ref 0] S G (some (.int (S 16 1))) (xu S 16 1 0) G := by
  refine xC.of okX9_forget (Nat.le_of_ble_eq_true rfl) (L := [_, _]) rfl ?_
  refine xA.aload_n (i := 0) rfl rfl rfl rfl ?_
  refine xA.getR rfl f9_49 rfl rfl rfl rfl ?_
  refine xA.callVi (As := []) rfl k9_235 okX0_size rfl rfl rfl rfl (Nat.le_of_ble_eq_true rfl) (c_X0_size d _ G 16 iG16) rfl rfl ?_
  refine xA.istore_n (i := 1) (L' := [_, _]) rfl rfl (Nat.le_of_ble_eq_true rfl) rfl rfl ?_
  refine xA.aload_n (i := 0) rfl rfl rfl rfl ?_
  refine xA.getR rfl f9_49 rfl rfl rfl rfl ?_
  refine xA.callVv (As := []) rfl k9_109 okX0_clear rfl rfl rfl rfl (Nat.le_of_ble_eq_true rfl) (c_X0_clear d _ G 16 iG16) rfl rfl ?_
  refine xA.iload_n (i := 1) rfl rfl rfl rfl ?_
  exact xA.iret rfl rfl rfl ⟨rfl, rfl⟩
def aAbout (s : sS) (p what : Int32) : Int32 := if rg p (sP s) then
    (if what = 0 then nI (sKd s p.toNatClampNeg) else if what = 1 then nI (lN' (sL s p.toNatClampNeg)) else if what = 2 then nI (lTh (sL s p.toNatClampNeg))
     else if what = 3 then (if lN' (sL s p.toNatClampNeg) = 0 then -1 else nI (lSp (sL s p.toNatClampNeg) (lN' (sL s p.toNatClampNeg) - 1) / 6))
     else if what = 4 then (if lN' (sL s p.toNatClampNeg) = 0 then -1 else nI (lSp (sL s p.toNatClampNeg) (lN' (sL s p.toNatClampNeg) - 1) % 6)) else -102) else -101
def aAs (s : sS) (p k : Int32) : Int32 := if rg p (sP s) then (if rg k 5 then (if k = 0 ∨ k = nI (sKd s p.toNatClampNeg) ∨ (k = 3 ∧ nI (sKd s p.toNatClampNeg) = 4) then p else -1) else -102) else -101
def aSelf (s : sS) (p q what : Int32) : Int32 := if rg p (sP s) ∧ rg q (lN' (sL s p.toNatClampNeg)) then (if what = 0 then nI (lSp (sL s p.toNatClampNeg) q.toNatClampNeg / 6) else if what = 1 then nI (lSp (sL s p.toNatClampNeg) q.toNatClampNeg % 6) else -102) else -101
def aThere (s : sS) (p m r : Int32) : Int32 := if rg p (sP s) ∧ rg r 6 then (if rg m 60 then nI (atN (sL s p.toNatClampNeg) (m * 6 + r)) else -102) else -101
def aMet (s : sS) (p : Int32) : Int32 := if rg p (sP s) then metN (sH s) (sKd s p.toNatClampNeg) (sL s p.toNatClampNeg) else -101
def fmN (l : lS) : Int32 := (fmS (fun j => nI (lSp l j / 6)) (inN l) (lN' l)).1
def aMost (s : sS) (p what : Int32) : Int32 := if rg p (sP s) then (if what = 0 ∨ what = 1 then (if what = 1 then fmN (sL s p.toNatClampNeg) else nI (inN (sL s p.toNatClampNeg) (fmN (sL s p.toNatClampNeg)))) else -102) else -101
def meetN (l v : lS) : Int32 := fwS (fun j => nI (lSp l j / 6)) (fun j => decide (0 < atN v (nI (lSp l j)))) (lN' l)
def aMeet (s : sS) (a b : Int32) : Int32 := if rg a (sP s) ∧ rg b (sP s) ∧ ¬ a = b then meetN (sL s a.toNatClampNeg) (sL s b.toNatClampNeg) else -101
def tkN (t : tS) (sp i : Nat) : Int32 := if t.2.1 i = nI (sp % 6) ∧ t.2.2.1 i ≤ nI (sp / 6) ∧ nI (sp / 6) ≤ t.2.2.2 i then 1 <<< (nI i &&& 31) else 0
def doneN (t : tS) (l : lS) : Int32 := orI (fun j => orI (tkN t (lSp l j)) t.1) (lN' l)
def aDone (s : sS) (p : Int32) : Int32 := if rg p (sP s) then doneN (sTk s) (sL s p.toNatClampNeg) else -101
def pairN (g : gS) (l v : lS) : Int32 := prI (fun q => (if 0 < atN l (nI (g.2 q)) then (1 : Int32) else 0) + (if 0 < atN v (nI (g.2 q)) then 1 else 0)) g.1
def aPair (s : sS) (a b : Int32) : Int32 := if rg a (sP s) ∧ rg b (sP s) ∧ ¬ a = b then pairN (sGl s) (sL s a.toNatClampNeg) (sL s b.toNatClampNeg) else -101
def allN (g : gS) (l : lS) : Bool := decide (cn (fun q => decide (atN l (nI (g.2 q)) = 0)) g.1 = 0)
def whoseN (s : sS) : Int32 := orI (fun p => if allN (sGl s) (sL s p) = true then 1 <<< (nI p &&& 31) else 0) (sP s)
def usersN (s : sS) (j : Nat) : Nat := cn (fun p => (lDb (sL s p)).testBit j) (sP s)
/-- the door without which most could not; by the first ones -/
def lkS (u : Nat → Nat) : Nat → Int32 × Nat
  | 0 => (-1, 0)
  | i + 1 => if (lkS u i).2 < u i then (nI i, u i) else lkS u i
def aLocked (s : sS) : Int32 := if sHr s = 0 then -103 else (lkS (usersN s) (hNd (sH s))).1
theorem lC_last {S : Nat → Nat → Int32} {k : Nat} {l : lS} (h : lC S k l) (hn : ¬ lN' l = 0) : S k 1 = nI (lN' l - 1 + 1) := by rw [h.1, show lN' l - 1 + 1 = lN' l by omega]
theorem orI_congr {f g : Nat → Int32} {n : Nat} (h : ∀ i, i < n → f i = g i) : orI f n = orI g n := by
  induction n with
  | zero => rfl
  | succ n ih => rw [orI, orI, ih (fun i hi => h i (by omega)), h n (by omega)]
theorem tkC_at {S : Nat → Nat → Int32} {k : Nat} {t : tS} (h : tkC S k t) {x : Int32} {sp : Nat} (hx : x = nI (sp / 6 * 6 + sp % 6)) (hs : sp < 360) : orI (tkB S k x) t.1 = orI (tkN t sp) t.1 := by
  have e1 : xmin x = nI (sp / 6) := by rw [hx]; exact xmin_nI (by omega) (by omega)
  have e2 : xroom x = nI (sp % 6) := by rw [hx]; exact xroom_nI (by omega) (by omega)
  refine orI_congr fun i hi => ?_
  obtain ⟨a1, a2, a3⟩ := h.2.2 i hi
  unfold tkB tkN tkD
  rw [e1, e2, a1, a2, a3]
theorem prI_congr {f g : Nat → Int32} {n : Nat} (h : ∀ i, i < n → f i = g i) : prI f n = prI g n := by
  induction n with
  | zero => rfl
  | succ n ih => rw [prI, prI, ih (fun i hi => h i (by omega)), h n (by omega)]
theorem lC_done {S : Nat → Nat → Int32} {k q : Nat} {t : tS} {l : lS} (ht : tkC S k t) (hl : lC S q l) (hg : ∀ i, i < lN' l → lSp l i < 360) : orI (fun j => orI (tkB S k (S (q + 1) j)) t.1) (lN' l) = doneN t l := orI_congr fun i hi => tkC_at ht (lC_sp hl hg hi) (hg i hi)
theorem lC_meet {S : Nat → Nat → Int32} {k q : Nat} {l v : lS} (hl : lC S k l) (hg : ∀ i, i < lN' l → lSp l i < 360) (hv : lC S q v) : fwS (fun j => xmin (S (k + 1) j)) (fun j => decide (0 < cn (fun i => decide (S (q + 1) i = S (k + 1) j)) (lN' v))) (lN' l) = meetN l v :=
  fwS_congr fun i hi => ⟨lC_xmin hl hg hi, by rw [lC_at hv, hl.2.2.2 i hi]⟩
theorem lC_fm {S : Nat → Nat → Int32} {k : Nat} {l : lS} (hl : lC S k l) (hg : ∀ i, i < lN' l → lSp l i < 360) : (fmS (fun j => xmin (S (k + 1) j)) (fun x => cn (fun j => decide (xmin (S (k + 1) j) = x)) (lN' l)) (lN' l)).1 = fmN l := by
  rw [fmS_congr (mi' := fun j => nI (lSp l j / 6)) (c' := inN l) (fun i hi => lC_xmin hl hg hi) (fun x => lC_in hl hg x)]
  rfl
theorem cnS_at {S : Nat → Nat → Int32} {k : Nat} {l : lS} (hl : lC S k l) (x : Int32) : cnS S k (lN' l) x = atN l x := lC_at hl x

theorem ts_out5 {w : Int32} (h0 : ¬ w = 0) (h1 : ¬ w = 1) (h2 : ¬ w = 2) (h3 : ¬ w = 3) (h4 : ¬ w = 4) : w.toInt < 0 ∨ 4 < w.toInt := by
  simp only [i32_ext, Int32.reduceToInt] at h0 h1 h2 h3 h4
  omega
theorem ts_out10 {w : Int32} (h0 : ¬ w = 0) (h1 : ¬ w = 1) (h2 : ¬ w = 2) (h3 : ¬ w = 3) (h4 : ¬ w = 4) (h5 : ¬ w = 5) (h6 : ¬ w = 6) (h7 : ¬ w = 7) (h8 : ¬ w = 8) (h9 : ¬ w = 9) : w.toInt < 0 ∨ 9 < w.toInt := by
  simp only [i32_ext, Int32.reduceToInt] at h0 h1 h2 h3 h4 h5 h6 h7 h8 h9
  omega

set_option maxRecDepth 100000 in
set_option maxHeartbeats 400000 in
theorem c_X9_about (d : Nat) (S : Nat → Nat → Int32) (G : Nat → Nat → Int64) (s : sS) (hc : CS S s) (x what : Int32) : xR τ (d + 2) mX9_about [.ref 0, .int x, .int what] S G (some (.int (aAbout s x what))) S G := by
  obtain ⟨hpg, hho, hpp, htk, hgl, hsd, him, hno⟩ := hc
  refine xC.of okX9_about (Nat.le_of_ble_eq_true rfl) (L := [_, _, _, _, _]) rfl ?_
  by_cases hx : rg x (sP s)
  · obtain ⟨i, hi, rfl⟩ := rg_nI hx (by have := hpp.2.1; omega)
    have hi4 : i < 4 := by have := hpp.2.1; omega
    have hci : (nI i).toNatClampNeg = i := nI_clamp (by omega)
    obtain ⟨hkd, hkd5, hl, hg⟩ := hpp.2.2 i hi
    refine xA.aload_n (i := 0) rfl rfl rfl rfl ?_
    refine xA.iload_n (i := 1) rfl rfl rfl rfl ?_
    refine xA.callVr (As := [_]) rfl k9_134 okX9_personAt rfl rfl rfl rfl (Nat.le_of_ble_eq_true rfl) (c_X9_personAt (d + 1) _ G (sP s) hpp.1 hpp.2.1 i hi) rfl rfl ?_
    refine xA.astore_n (i := 3) (L' := [_, _, _, _, _]) rfl rfl (Nat.le_of_ble_eq_true rfl) rfl rfl ?_
    by_cases hz : lN' (sL s i) = 0
    · skip
      refine xA.aload_n (i := 3) rfl rfl rfl rfl ?_
      refine xA.ifnonnull (q := 13) rfl rfl ?_
      refine xA.aload_n (i := 3) rfl rfl rfl rfl ?_
      refine xA.callVr (As := []) rfl k9_152 okX5_lived (isP i hi4).1 rfl rfl rfl (Nat.le_of_ble_eq_true rfl) (c_X5_lived (d + 1) _ G (42 + 3 * i) (isP i hi4)) rfl rfl ?_
      refine xA.callVi (As := []) rfl k9_163 okX3_lastSpot (isP i hi4).2.1 rfl rfl rfl (Nat.le_of_ble_eq_true rfl) (c_X3_lastSpot0 d _ G (42 + 3 * i + 1) (isP i hi4).2 (by rw [hl.1, hz])) rfl rfl ?_
      refine xA.istore (L' := [_, _, _, _, _]) rfl (Nat.le_of_ble_eq_true rfl) rfl rfl ?_
      refine xA.iload_n (i := 2) rfl rfl rfl rfl ?_
      by_cases h23_0 : what = 0
      · subst h23_0
        refine xA.tsIn (q := 56) rfl (by decide) (by decide) rfl rfl ?_
        refine xA.aload_n (i := 3) rfl rfl rfl rfl ?_
        refine xA.callVi (As := []) rfl k9_142 okX5_kind (isP i hi4).1 rfl rfl rfl (Nat.le_of_ble_eq_true rfl) (c_X5_kind (d + 1) _ G (42 + 3 * i) (isP i hi4)) rfl rfl ?_
        refine xA.topi hkd ?_
        exact xA.iret rfl rfl rfl ⟨by rw [aAbout, if_pos hx, hci]; first | rfl | (rw [if_neg h23_0, if_neg h23_1, if_neg h23_2, if_neg h23_3, if_neg h23_4]; done) | (simp [hz]; done) | (simp [hz]; rfl), rfl⟩
      by_cases h23_1 : what = 1
      · subst h23_1
        refine xA.tsIn (q := 61) rfl (by decide) (by decide) rfl rfl ?_
        refine xA.aload_n (i := 3) rfl rfl rfl rfl ?_
        refine xA.callVr (As := []) rfl k9_152 okX5_lived (isP i hi4).1 rfl rfl rfl (Nat.le_of_ble_eq_true rfl) (c_X5_lived (d + 1) _ G (42 + 3 * i) (isP i hi4)) rfl rfl ?_
        refine xA.callVi (As := []) rfl k9_160 okX3_selves (isP i hi4).2.1 rfl rfl rfl (Nat.le_of_ble_eq_true rfl) (c_X3_selves (d + 1) _ G (42 + 3 * i + 1) (isP i hi4).2) rfl rfl ?_
        refine xA.topi hl.1 ?_
        exact xA.iret rfl rfl rfl ⟨by rw [aAbout, if_pos hx, hci]; first | rfl | (rw [if_neg h23_0, if_neg h23_1, if_neg h23_2, if_neg h23_3, if_neg h23_4]; done) | (simp [hz]; done) | (simp [hz]; rfl), rfl⟩
      by_cases h23_2 : what = 2
      · subst h23_2
        refine xA.tsIn (q := 69) rfl (by decide) (by decide) rfl rfl ?_
        refine xA.aload_n (i := 3) rfl rfl rfl rfl ?_
        refine xA.callVr (As := []) rfl k9_152 okX5_lived (isP i hi4).1 rfl rfl rfl (Nat.le_of_ble_eq_true rfl) (c_X5_lived (d + 1) _ G (42 + 3 * i) (isP i hi4)) rfl rfl ?_
        refine xA.callVi (As := []) rfl k9_166 okX3_throughs (isP i hi4).2.1 rfl rfl rfl (Nat.le_of_ble_eq_true rfl) (c_X3_throughs (d + 1) _ G (42 + 3 * i + 1) (isP i hi4).2) rfl rfl ?_
        refine xA.topi hl.2.1 ?_
        exact xA.iret rfl rfl rfl ⟨by rw [aAbout, if_pos hx, hci]; first | rfl | (rw [if_neg h23_0, if_neg h23_1, if_neg h23_2, if_neg h23_3, if_neg h23_4]; done) | (simp [hz]; done) | (simp [hz]; rfl), rfl⟩
      by_cases h23_3 : what = 3
      · subst h23_3
        refine xA.tsIn (q := 77) rfl (by decide) (by decide) rfl rfl ?_
        refine xA.iload rfl rfl rfl ?_
        refine xA.callSi (As := [_]) rfl k9_169 okX9_minuteOf rfl rfl (Nat.le_of_ble_eq_true rfl) (c_X9_minuteOf (d + 1) _ G _) rfl rfl ?_
        refine xA.topi (show xmin (-1) = -1 from rfl) ?_
        exact xA.iret rfl rfl rfl ⟨by rw [aAbout, if_pos hx, hci]; first | rfl | (rw [if_neg h23_0, if_neg h23_1, if_neg h23_2, if_neg h23_3, if_neg h23_4]; done) | (simp [hz]; done) | (simp [hz]; rfl), rfl⟩
      by_cases h23_4 : what = 4
      · subst h23_4
        refine xA.tsIn (q := 83) rfl (by decide) (by decide) rfl rfl ?_
        refine xA.iload rfl rfl rfl ?_
        refine xA.callSi (As := [_]) rfl k9_172 okX9_roomOf rfl rfl (Nat.le_of_ble_eq_true rfl) (c_X9_roomOf (d + 1) _ G _) rfl rfl ?_
        refine xA.topi (show xroom (-1) = -1 from rfl) ?_
        exact xA.iret rfl rfl rfl ⟨by rw [aAbout, if_pos hx, hci]; first | rfl | (rw [if_neg h23_0, if_neg h23_1, if_neg h23_2, if_neg h23_3, if_neg h23_4]; done) | (simp [hz]; done) | (simp [hz]; rfl), rfl⟩
      refine xA.tsOut (q := 89) rfl (ts_out5 h23_0 h23_1 h23_2 h23_3 h23_4) rfl ?_
      refine xA.bipush (v := (-102)) rfl (by decide) rfl ?_
      exact xA.iret rfl rfl rfl ⟨by rw [aAbout, if_pos hx, hci]; first | rfl | (rw [if_neg h23_0, if_neg h23_1, if_neg h23_2, if_neg h23_3, if_neg h23_4]; done) | (simp [hz]; done) | (simp [hz]; rfl), rfl⟩
    · skip
      refine xA.aload_n (i := 3) rfl rfl rfl rfl ?_
      refine xA.ifnonnull (q := 13) rfl rfl ?_
      refine xA.aload_n (i := 3) rfl rfl rfl rfl ?_
      refine xA.callVr (As := []) rfl k9_152 okX5_lived (isP i hi4).1 rfl rfl rfl (Nat.le_of_ble_eq_true rfl) (c_X5_lived (d + 1) _ G (42 + 3 * i) (isP i hi4)) rfl rfl ?_
      refine xA.callVi (As := []) rfl k9_163 okX3_lastSpot (isP i hi4).2.1 rfl rfl rfl (Nat.le_of_ble_eq_true rfl) (c_X3_lastSpot d _ G (42 + 3 * i + 1) (isP i hi4).2 (lN' (sL s i) - 1) (lC_last hl hz) (by have := hg.1; omega)) rfl rfl ?_
      refine xA.istore (L' := [_, _, _, _, _]) rfl (Nat.le_of_ble_eq_true rfl) rfl rfl ?_
      refine xA.iload_n (i := 2) rfl rfl rfl rfl ?_
      by_cases h23_0 : what = 0
      · subst h23_0
        refine xA.tsIn (q := 56) rfl (by decide) (by decide) rfl rfl ?_
        refine xA.aload_n (i := 3) rfl rfl rfl rfl ?_
        refine xA.callVi (As := []) rfl k9_142 okX5_kind (isP i hi4).1 rfl rfl rfl (Nat.le_of_ble_eq_true rfl) (c_X5_kind (d + 1) _ G (42 + 3 * i) (isP i hi4)) rfl rfl ?_
        refine xA.topi hkd ?_
        exact xA.iret rfl rfl rfl ⟨by rw [aAbout, if_pos hx, hci]; first | rfl | (rw [if_neg h23_0, if_neg h23_1, if_neg h23_2, if_neg h23_3, if_neg h23_4]; done) | (simp [hz]; done) | (simp [hz]; rfl), rfl⟩
      by_cases h23_1 : what = 1
      · subst h23_1
        refine xA.tsIn (q := 61) rfl (by decide) (by decide) rfl rfl ?_
        refine xA.aload_n (i := 3) rfl rfl rfl rfl ?_
        refine xA.callVr (As := []) rfl k9_152 okX5_lived (isP i hi4).1 rfl rfl rfl (Nat.le_of_ble_eq_true rfl) (c_X5_lived (d + 1) _ G (42 + 3 * i) (isP i hi4)) rfl rfl ?_
        refine xA.callVi (As := []) rfl k9_160 okX3_selves (isP i hi4).2.1 rfl rfl rfl (Nat.le_of_ble_eq_true rfl) (c_X3_selves (d + 1) _ G (42 + 3 * i + 1) (isP i hi4).2) rfl rfl ?_
        refine xA.topi hl.1 ?_
        exact xA.iret rfl rfl rfl ⟨by rw [aAbout, if_pos hx, hci]; first | rfl | (rw [if_neg h23_0, if_neg h23_1, if_neg h23_2, if_neg h23_3, if_neg h23_4]; done) | (simp [hz]; done) | (simp [hz]; rfl), rfl⟩
      by_cases h23_2 : what = 2
      · subst h23_2
        refine xA.tsIn (q := 69) rfl (by decide) (by decide) rfl rfl ?_
        refine xA.aload_n (i := 3) rfl rfl rfl rfl ?_
        refine xA.callVr (As := []) rfl k9_152 okX5_lived (isP i hi4).1 rfl rfl rfl (Nat.le_of_ble_eq_true rfl) (c_X5_lived (d + 1) _ G (42 + 3 * i) (isP i hi4)) rfl rfl ?_
        refine xA.callVi (As := []) rfl k9_166 okX3_throughs (isP i hi4).2.1 rfl rfl rfl (Nat.le_of_ble_eq_true rfl) (c_X3_throughs (d + 1) _ G (42 + 3 * i + 1) (isP i hi4).2) rfl rfl ?_
        refine xA.topi hl.2.1 ?_
        exact xA.iret rfl rfl rfl ⟨by rw [aAbout, if_pos hx, hci]; first | rfl | (rw [if_neg h23_0, if_neg h23_1, if_neg h23_2, if_neg h23_3, if_neg h23_4]; done) | (simp [hz]; done) | (simp [hz]; rfl), rfl⟩
      by_cases h23_3 : what = 3
      · subst h23_3
        refine xA.tsIn (q := 77) rfl (by decide) (by decide) rfl rfl ?_
        refine xA.iload rfl rfl rfl ?_
        refine xA.callSi (As := [_]) rfl k9_169 okX9_minuteOf rfl rfl (Nat.le_of_ble_eq_true rfl) (c_X9_minuteOf (d + 1) _ G _) rfl rfl ?_
        refine xA.topi (lC_xmin hl hg.2.1 (by omega)) ?_
        exact xA.iret rfl rfl rfl ⟨by rw [aAbout, if_pos hx, hci]; first | rfl | (rw [if_neg h23_0, if_neg h23_1, if_neg h23_2, if_neg h23_3, if_neg h23_4]; done) | (simp [hz]; done) | (simp [hz]; rfl), rfl⟩
      by_cases h23_4 : what = 4
      · subst h23_4
        refine xA.tsIn (q := 83) rfl (by decide) (by decide) rfl rfl ?_
        refine xA.iload rfl rfl rfl ?_
        refine xA.callSi (As := [_]) rfl k9_172 okX9_roomOf rfl rfl (Nat.le_of_ble_eq_true rfl) (c_X9_roomOf (d + 1) _ G _) rfl rfl ?_
        refine xA.topi (lC_xroom hl hg.2.1 (by omega)) ?_
        exact xA.iret rfl rfl rfl ⟨by rw [aAbout, if_pos hx, hci]; first | rfl | (rw [if_neg h23_0, if_neg h23_1, if_neg h23_2, if_neg h23_3, if_neg h23_4]; done) | (simp [hz]; done) | (simp [hz]; rfl), rfl⟩
      refine xA.tsOut (q := 89) rfl (ts_out5 h23_0 h23_1 h23_2 h23_3 h23_4) rfl ?_
      refine xA.bipush (v := (-102)) rfl (by decide) rfl ?_
      exact xA.iret rfl rfl rfl ⟨by rw [aAbout, if_pos hx, hci]; first | rfl | (rw [if_neg h23_0, if_neg h23_1, if_neg h23_2, if_neg h23_3, if_neg h23_4]; done) | (simp [hz]; done) | (simp [hz]; rfl), rfl⟩
  · skip
    refine xA.aload_n (i := 0) rfl rfl rfl rfl ?_
    refine xA.iload_n (i := 1) rfl rfl rfl rfl ?_
    refine xA.callVr (As := [_]) rfl k9_134 okX9_personAt rfl rfl rfl rfl (Nat.le_of_ble_eq_true rfl) (c_X9_personAtN (d + 1) _ G (sP s) hpp.1 hpp.2.1 x hx) rfl rfl ?_
    refine xA.astoreN_n (i := 3) (L' := [_, _, _, _, _]) rfl rfl (Nat.le_of_ble_eq_true rfl) rfl rfl ?_
    refine xA.aloadN_n (i := 3) rfl rfl rfl rfl ?_
    refine xA.ifnonnullN rfl rfl ?_
    refine xA.bipush (v := (-101)) rfl (by decide) rfl ?_
    exact xA.iret rfl rfl rfl ⟨by rw [aAbout, if_neg (by first | exact hx | (rintro ⟨q, -⟩; exact hx q))], rfl⟩
set_option maxRecDepth 100000 in
set_option maxHeartbeats 400000 in
theorem c_X9_as (d : Nat) (S : Nat → Nat → Int32) (G : Nat → Nat → Int64) (s : sS) (hc : CS S s) (x k : Int32) : xR τ (d + 1) mX9_as [.ref 0, .int x, .int k] S G (some (.int (aAs s x k))) S G := by
  obtain ⟨hpg, hho, hpp, htk, hgl, hsd, him, hno⟩ := hc
  refine xC.of okX9_as (Nat.le_of_ble_eq_true rfl) (L := [_, _, _, _]) rfl ?_
  by_cases hx : rg x (sP s)
  · obtain ⟨i, hi, rfl⟩ := rg_nI hx (by have := hpp.2.1; omega)
    have hi4 : i < 4 := by have := hpp.2.1; omega
    have hci : (nI i).toNatClampNeg = i := nI_clamp (by omega)
    obtain ⟨hkd, hkd5, hl, hg⟩ := hpp.2.2 i hi
    refine xA.aload_n (i := 0) rfl rfl rfl rfl ?_
    refine xA.iload_n (i := 1) rfl rfl rfl rfl ?_
    refine xA.callVr (As := [_]) rfl k9_134 okX9_personAt rfl rfl rfl rfl (Nat.le_of_ble_eq_true rfl) (c_X9_personAt d _ G (sP s) hpp.1 hpp.2.1 i hi) rfl rfl ?_
    refine xA.astore_n (i := 3) (L' := [_, _, _, _]) rfl rfl (Nat.le_of_ble_eq_true rfl) rfl rfl ?_
    refine xA.aload_n (i := 3) rfl rfl rfl rfl ?_
    refine xA.ifnonnull (q := 13) rfl rfl ?_
    refine xA.iload_n (i := 2) rfl rfl rfl rfl ?_
    refine xA.callSi (As := [_]) rfl k9_131 okX9_isKind rfl rfl (Nat.le_of_ble_eq_true rfl) (c_X9_isKind d _ G _) rfl rfl ?_
    refine xA.if_ne (tgt := 23) rfl rfl rfl (fun h17 => ?_) (fun h17 => ?_)
    · rw [xb_ne0] at h17
      refine xA.aload_n (i := 3) rfl rfl rfl rfl ?_
      refine xA.callVi (As := []) rfl k9_142 okX5_kind (isP i hi4).1 rfl rfl rfl (Nat.le_of_ble_eq_true rfl) (c_X5_kind d _ G (42 + 3 * i) (isP i hi4)) rfl rfl ?_
      refine xA.topi hkd ?_
      refine xA.iload_n (i := 2) rfl rfl rfl rfl ?_
      refine xA.callSi (As := [_, _]) rfl k9_175 okX9_isOfKind rfl rfl (Nat.le_of_ble_eq_true rfl) (c_X9_isOfKind d _ G _ _) rfl rfl ?_
      refine xA.if_eq (tgt := 38) rfl rfl rfl (fun h31 => ?_) (fun h31 => ?_)
      · rw [xb_eq0] at h31
        refine xA.iconst (v := (-1)) rfl (by decide) rfl ?_
        exact xA.iret rfl rfl rfl ⟨by rw [aAs, if_pos hx, hci]; first | (rw [if_neg h17]; done) | (rw [if_pos h17, if_pos h31]; done) | (rw [if_pos h17, if_neg h31]; done), rfl⟩
      · rw [xb_ne0] at h31
        refine xA.iload_n (i := 1) rfl rfl rfl rfl ?_
        refine xA.goto (q := 39) rfl rfl ?_
        exact xA.iret rfl rfl rfl ⟨by rw [aAs, if_pos hx, hci]; first | (rw [if_neg h17]; done) | (rw [if_pos h17, if_pos h31]; done) | (rw [if_pos h17, if_neg h31]; done), rfl⟩
    · rw [xb_eq0] at h17
      refine xA.bipush (v := (-102)) rfl (by decide) rfl ?_
      exact xA.iret rfl rfl rfl ⟨by rw [aAs, if_pos hx, hci]; first | (rw [if_neg h17]; done) | (rw [if_pos h17, if_pos h31]; done) | (rw [if_pos h17, if_neg h31]; done), rfl⟩
  · skip
    refine xA.aload_n (i := 0) rfl rfl rfl rfl ?_
    refine xA.iload_n (i := 1) rfl rfl rfl rfl ?_
    refine xA.callVr (As := [_]) rfl k9_134 okX9_personAt rfl rfl rfl rfl (Nat.le_of_ble_eq_true rfl) (c_X9_personAtN d _ G (sP s) hpp.1 hpp.2.1 x hx) rfl rfl ?_
    refine xA.astoreN_n (i := 3) (L' := [_, _, _, _]) rfl rfl (Nat.le_of_ble_eq_true rfl) rfl rfl ?_
    refine xA.aloadN_n (i := 3) rfl rfl rfl rfl ?_
    refine xA.ifnonnullN rfl rfl ?_
    refine xA.bipush (v := (-101)) rfl (by decide) rfl ?_
    exact xA.iret rfl rfl rfl ⟨by rw [aAs, if_neg (by first | exact hx | (rintro ⟨q, -⟩; exact hx q))], rfl⟩
set_option maxRecDepth 100000 in
set_option maxHeartbeats 400000 in
theorem c_X9_self (d : Nat) (S : Nat → Nat → Int32) (G : Nat → Nat → Int64) (s : sS) (hc : CS S s) (x q what : Int32) : xR τ (d + 1) mX9_self [.ref 0, .int x, .int q, .int what] S G (some (.int (aSelf s x q what))) S G := by
  obtain ⟨hpg, hho, hpp, htk, hgl, hsd, him, hno⟩ := hc
  refine xC.of okX9_self (Nat.le_of_ble_eq_true rfl) (L := [_, _, _, _, _, _]) rfl ?_
  by_cases hx : rg x (sP s)
  · obtain ⟨i, hi, rfl⟩ := rg_nI hx (by have := hpp.2.1; omega)
    have hi4 : i < 4 := by have := hpp.2.1; omega
    have hci : (nI i).toNatClampNeg = i := nI_clamp (by omega)
    obtain ⟨hkd, hkd5, hl, hg⟩ := hpp.2.2 i hi
    refine xA.aload_n (i := 0) rfl rfl rfl rfl ?_
    refine xA.iload_n (i := 1) rfl rfl rfl rfl ?_
    refine xA.callVr (As := [_]) rfl k9_134 okX9_personAt rfl rfl rfl rfl (Nat.le_of_ble_eq_true rfl) (c_X9_personAt d _ G (sP s) hpp.1 hpp.2.1 i hi) rfl rfl ?_
    refine xA.astore (L' := [_, _, _, _, _, _]) rfl (Nat.le_of_ble_eq_true rfl) rfl rfl ?_
    refine xA.aload rfl rfl rfl ?_
    refine xA.ifnull rfl rfl ?_
    refine xA.iload_n (i := 2) rfl rfl rfl rfl ?_
    refine xA.if_lt (tgt := 28) rfl rfl rfl (fun h13 => ?_) (fun h13 => ?_)
    · refine xA.bipush (v := (-101)) rfl (by decide) rfl ?_
      exact xA.iret rfl rfl rfl ⟨by rw [aSelf, hci, if_neg]; rintro ⟨-, q1, q2⟩; first | (rw [Int32.lt_iff_toInt_lt, Int32.toInt_zero] at h13; omega) | (rw [Int32.lt_iff_toInt_lt, nI_toInt (by have := hg.1; omega)] at h25; omega), rfl⟩
    · refine xA.iload_n (i := 2) rfl rfl rfl rfl ?_
      refine xA.aload rfl rfl rfl ?_
      refine xA.callVr (As := []) rfl k9_152 okX5_lived (isP i hi4).1 rfl rfl rfl (Nat.le_of_ble_eq_true rfl) (c_X5_lived d _ G (42 + 3 * i) (isP i hi4)) rfl rfl ?_
      refine xA.callVi (As := []) rfl k9_160 okX3_selves (isP i hi4).2.1 rfl rfl rfl (Nat.le_of_ble_eq_true rfl) (c_X3_selves d _ G (42 + 3 * i + 1) (isP i hi4).2) rfl rfl ?_
      refine xA.topi hl.1 ?_
      refine xA.icmp_lt (tgt := 31) rfl rfl rfl (fun h25 => ?_) (fun h25 => ?_)
      · have hq : rg q (lN' (sL s i)) := by
          rw [Int32.lt_iff_toInt_lt, nI_toInt (by have := hg.1; omega)] at h25
          rw [Int32.lt_iff_toInt_lt, Int32.toInt_zero] at h13
          exact ⟨by omega, by omega⟩
        obtain ⟨j, hj, rfl⟩ := rg_nI hq (by have := hg.1; omega)
        have hcj : (nI j).toNatClampNeg = j := nI_clamp (by have := hg.1; omega)
        refine xA.aload rfl rfl rfl ?_
        refine xA.callVr (As := []) rfl k9_152 okX5_lived (isP i hi4).1 rfl rfl rfl (Nat.le_of_ble_eq_true rfl) (c_X5_lived d _ G (42 + 3 * i) (isP i hi4)) rfl rfl ?_
        refine xA.iload_n (i := 2) rfl rfl rfl rfl ?_
        refine xA.callVi (As := [_]) rfl k9_178 okX3_spotAt (isP i hi4).2.1 rfl rfl rfl (Nat.le_of_ble_eq_true rfl) (c_X3_spotAt d _ G (42 + 3 * i + 1) (isP i hi4).2 _ j hl.1 hj hg.1) rfl rfl ?_
        refine xA.istore (L' := [_, _, _, _, _, _]) rfl (Nat.le_of_ble_eq_true rfl) rfl rfl ?_
        refine xA.iload_n (i := 3) rfl rfl rfl rfl ?_
        refine xA.if_ne (tgt := 52) rfl rfl rfl (fun h43 => ?_) (fun h43 => ?_)
        · refine xA.iload_n (i := 3) rfl rfl rfl rfl ?_
          refine xA.iconst (v := 1) rfl (by decide) rfl ?_
          refine xA.icmp_ne (tgt := 65) rfl rfl rfl (fun h54 => ?_) (fun h54 => ?_)
          · refine xA.bipush (v := (-102)) rfl (by decide) rfl ?_
            exact xA.iret rfl rfl rfl ⟨by rw [aSelf, hci, if_pos ⟨hx, hq⟩, hcj]; first | (rw [if_pos h43]; done) | (rw [if_neg h43, if_pos h54]; done) | (rw [if_neg h43, if_neg h54]; done), rfl⟩
          · refine xA.iload rfl rfl rfl ?_
            refine xA.callSi (As := [_]) rfl k9_172 okX9_roomOf rfl rfl (Nat.le_of_ble_eq_true rfl) (c_X9_roomOf d _ G _) rfl rfl ?_
            refine xA.topi (lC_xroom hl hg.2.1 hj) ?_
            refine xA.goto (q := 67) rfl rfl ?_
            exact xA.iret rfl rfl rfl ⟨by rw [aSelf, hci, if_pos ⟨hx, hq⟩, hcj]; first | (rw [if_pos h43]; done) | (rw [if_neg h43, if_pos h54]; done) | (rw [if_neg h43, if_neg h54]; done), rfl⟩
        · refine xA.iload rfl rfl rfl ?_
          refine xA.callSi (As := [_]) rfl k9_169 okX9_minuteOf rfl rfl (Nat.le_of_ble_eq_true rfl) (c_X9_minuteOf d _ G _) rfl rfl ?_
          refine xA.topi (lC_xmin hl hg.2.1 hj) ?_
          exact xA.iret rfl rfl rfl ⟨by rw [aSelf, hci, if_pos ⟨hx, hq⟩, hcj]; first | (rw [if_pos h43]; done) | (rw [if_neg h43, if_pos h54]; done) | (rw [if_neg h43, if_neg h54]; done), rfl⟩
      · refine xA.bipush (v := (-101)) rfl (by decide) rfl ?_
        exact xA.iret rfl rfl rfl ⟨by rw [aSelf, hci, if_neg]; rintro ⟨-, q1, q2⟩; first | (rw [Int32.lt_iff_toInt_lt, Int32.toInt_zero] at h13; omega) | (rw [Int32.lt_iff_toInt_lt, nI_toInt (by have := hg.1; omega)] at h25; omega), rfl⟩
  · skip
    refine xA.aload_n (i := 0) rfl rfl rfl rfl ?_
    refine xA.iload_n (i := 1) rfl rfl rfl rfl ?_
    refine xA.callVr (As := [_]) rfl k9_134 okX9_personAt rfl rfl rfl rfl (Nat.le_of_ble_eq_true rfl) (c_X9_personAtN d _ G (sP s) hpp.1 hpp.2.1 x hx) rfl rfl ?_
    refine xA.astoreN (L' := [_, _, _, _, _, _]) rfl (Nat.le_of_ble_eq_true rfl) rfl rfl ?_
    refine xA.aloadN rfl rfl rfl ?_
    refine xA.ifnullN (q := 28) rfl rfl ?_
    refine xA.bipush (v := (-101)) rfl (by decide) rfl ?_
    exact xA.iret rfl rfl rfl ⟨by rw [aSelf, if_neg (by first | exact hx | (rintro ⟨q, -⟩; exact hx q))], rfl⟩
set_option maxRecDepth 100000 in
set_option maxHeartbeats 400000 in
theorem c_X9_there (d : Nat) (S : Nat → Nat → Int32) (G : Nat → Nat → Int64) (s : sS) (hc : CS S s) (x m r : Int32) : xR τ (d + 2) mX9_there [.ref 0, .int x, .int m, .int r] S G (some (.int (aThere s x m r))) S G := by
  obtain ⟨hpg, hho, hpp, htk, hgl, hsd, him, hno⟩ := hc
  refine xC.of okX9_there (Nat.le_of_ble_eq_true rfl) (L := [_, _, _, _, _]) rfl ?_
  by_cases hx : rg x (sP s)
  · obtain ⟨i, hi, rfl⟩ := rg_nI hx (by have := hpp.2.1; omega)
    have hi4 : i < 4 := by have := hpp.2.1; omega
    have hci : (nI i).toNatClampNeg = i := nI_clamp (by omega)
    obtain ⟨hkd, hkd5, hl, hg⟩ := hpp.2.2 i hi
    refine xA.aload_n (i := 0) rfl rfl rfl rfl ?_
    refine xA.iload_n (i := 1) rfl rfl rfl rfl ?_
    refine xA.callVr (As := [_]) rfl k9_134 okX9_personAt rfl rfl rfl rfl (Nat.le_of_ble_eq_true rfl) (c_X9_personAt (d + 1) _ G (sP s) hpp.1 hpp.2.1 i hi) rfl rfl ?_
    refine xA.astore (L' := [_, _, _, _, _]) rfl (Nat.le_of_ble_eq_true rfl) rfl rfl ?_
    refine xA.aload rfl rfl rfl ?_
    refine xA.ifnull rfl rfl ?_
    refine xA.iload_n (i := 3) rfl rfl rfl rfl ?_
    refine xA.callSi (As := [_]) rfl k9_116 okX9_isRoom rfl rfl (Nat.le_of_ble_eq_true rfl) (c_X9_isRoom (d + 1) _ G _) rfl rfl ?_
    refine xA.if_ne (tgt := 22) rfl rfl rfl (fun h16 => ?_) (fun h16 => ?_)
    · rw [xb_ne0] at h16
      refine xA.iload_n (i := 2) rfl rfl rfl rfl ?_
      refine xA.callSi (As := [_]) rfl k9_181 okX9_isMinute rfl rfl (Nat.le_of_ble_eq_true rfl) (c_X9_isMinute (d + 1) _ G _) rfl rfl ?_
      refine xA.if_ne (tgt := 32) rfl rfl rfl (fun h26 => ?_) (fun h26 => ?_)
      · rw [xb_ne0] at h26
        refine xA.aload rfl rfl rfl ?_
        refine xA.callVr (As := []) rfl k9_152 okX5_lived (isP i hi4).1 rfl rfl rfl (Nat.le_of_ble_eq_true rfl) (c_X5_lived (d + 1) _ G (42 + 3 * i) (isP i hi4)) rfl rfl ?_
        refine xA.iload_n (i := 2) rfl rfl rfl rfl ?_
        refine xA.iload_n (i := 3) rfl rfl rfl rfl ?_
        refine xA.callSi (As := [_, _]) rfl k9_184 okX9_spotOf rfl rfl (Nat.le_of_ble_eq_true rfl) (c_X9_spotOf (d + 1) _ G _ _) rfl rfl ?_
        refine xA.callVi (As := [_]) rfl k9_187 okX3_selvesAt (isP i hi4).2.1 rfl rfl rfl (Nat.le_of_ble_eq_true rfl) (c_X3_selvesAt d _ G (42 + 3 * i + 1) (isP i hi4).2 _ hl.1 hg.1 _) rfl rfl ?_
        refine xA.topi (congrArg nI (lC_at hl _)) ?_
        exact xA.iret rfl rfl rfl ⟨by rw [aThere, hci]; first | (rw [if_neg (fun q => h16 q.2)]; done) | (rw [if_pos ⟨hx, h16⟩, if_neg h26]; done) | (rw [if_pos ⟨hx, h16⟩, if_pos h26]; done), rfl⟩
      · rw [xb_eq0] at h26
        refine xA.bipush (v := (-102)) rfl (by decide) rfl ?_
        exact xA.iret rfl rfl rfl ⟨by rw [aThere, hci]; first | (rw [if_neg (fun q => h16 q.2)]; done) | (rw [if_pos ⟨hx, h16⟩, if_neg h26]; done) | (rw [if_pos ⟨hx, h16⟩, if_pos h26]; done), rfl⟩
    · rw [xb_eq0] at h16
      refine xA.bipush (v := (-101)) rfl (by decide) rfl ?_
      exact xA.iret rfl rfl rfl ⟨by rw [aThere, hci]; first | (rw [if_neg (fun q => h16 q.2)]; done) | (rw [if_pos ⟨hx, h16⟩, if_neg h26]; done) | (rw [if_pos ⟨hx, h16⟩, if_pos h26]; done), rfl⟩
  · skip
    refine xA.aload_n (i := 0) rfl rfl rfl rfl ?_
    refine xA.iload_n (i := 1) rfl rfl rfl rfl ?_
    refine xA.callVr (As := [_]) rfl k9_134 okX9_personAt rfl rfl rfl rfl (Nat.le_of_ble_eq_true rfl) (c_X9_personAtN (d + 1) _ G (sP s) hpp.1 hpp.2.1 x hx) rfl rfl ?_
    refine xA.astoreN (L' := [_, _, _, _, _]) rfl (Nat.le_of_ble_eq_true rfl) rfl rfl ?_
    refine xA.aloadN rfl rfl rfl ?_
    refine xA.ifnullN (q := 19) rfl rfl ?_
    refine xA.bipush (v := (-101)) rfl (by decide) rfl ?_
    exact xA.iret rfl rfl rfl ⟨by rw [aThere, if_neg (by first | exact hx | (rintro ⟨q, -⟩; exact hx q))], rfl⟩
set_option maxRecDepth 100000 in
set_option maxHeartbeats 400000 in
theorem c_X9_most (d : Nat) (S : Nat → Nat → Int32) (G : Nat → Nat → Int64) (s : sS) (hc : CS S s) (x what : Int32) : xR τ (d + 3) mX9_most [.ref 0, .int x, .int what] S G (some (.int (aMost s x what))) S G := by
  obtain ⟨hpg, hho, hpp, htk, hgl, hsd, him, hno⟩ := hc
  refine xC.of okX9_most (Nat.le_of_ble_eq_true rfl) (L := [_, _, _, _, _]) rfl ?_
  by_cases hx : rg x (sP s)
  · obtain ⟨i, hi, rfl⟩ := rg_nI hx (by have := hpp.2.1; omega)
    have hi4 : i < 4 := by have := hpp.2.1; omega
    have hci : (nI i).toNatClampNeg = i := nI_clamp (by omega)
    obtain ⟨hkd, hkd5, hl, hg⟩ := hpp.2.2 i hi
    refine xA.aload_n (i := 0) rfl rfl rfl rfl ?_
    refine xA.iload_n (i := 1) rfl rfl rfl rfl ?_
    refine xA.callVr (As := [_]) rfl k9_134 okX9_personAt rfl rfl rfl rfl (Nat.le_of_ble_eq_true rfl) (c_X9_personAt (d + 2) _ G (sP s) hpp.1 hpp.2.1 i hi) rfl rfl ?_
    refine xA.astore_n (i := 3) (L' := [_, _, _, _, _]) rfl rfl (Nat.le_of_ble_eq_true rfl) rfl rfl ?_
    refine xA.aload_n (i := 3) rfl rfl rfl rfl ?_
    refine xA.ifnonnull (q := 13) rfl rfl ?_
    refine xA.iload_n (i := 2) rfl rfl rfl rfl ?_
    refine xA.if_eq (tgt := 25) rfl rfl rfl (fun h14 => ?_) (fun h14 => ?_)
    · refine xA.aload_n (i := 3) rfl rfl rfl rfl ?_
      refine xA.callVr (As := []) rfl k9_152 okX5_lived (isP i hi4).1 rfl rfl rfl (Nat.le_of_ble_eq_true rfl) (c_X5_lived (d + 2) _ G (42 + 3 * i) (isP i hi4)) rfl rfl ?_
      refine xA.callVi (As := []) rfl k9_194 okX3_fullestMinute (isP i hi4).2.1 rfl rfl rfl (Nat.le_of_ble_eq_true rfl) (c_X3_fullestMinute d _ G (42 + 3 * i + 1) (isP i hi4).2 _ hl.1 hg.1) rfl rfl ?_
      refine xA.topi (lC_fm hl hg.2.1) ?_
      refine xA.istore (L' := [_, _, _, _, _]) rfl (Nat.le_of_ble_eq_true rfl) rfl rfl ?_
      refine xA.iload_n (i := 2) rfl rfl rfl rfl ?_
      refine xA.iconst (v := 1) rfl (by decide) rfl ?_
      refine xA.icmp_ne (tgt := 44) rfl rfl rfl (fun h36 => ?_) (fun h36 => ?_)
      · refine xA.aload_n (i := 3) rfl rfl rfl rfl ?_
        refine xA.callVr (As := []) rfl k9_152 okX5_lived (isP i hi4).1 rfl rfl rfl (Nat.le_of_ble_eq_true rfl) (c_X5_lived (d + 2) _ G (42 + 3 * i) (isP i hi4)) rfl rfl ?_
        refine xA.iload rfl rfl rfl ?_
        refine xA.callVi (As := [_]) rfl k9_197 okX3_selvesIn (isP i hi4).2.1 rfl rfl rfl (Nat.le_of_ble_eq_true rfl) (c_X3_selvesIn (d + 1) _ G (42 + 3 * i + 1) (isP i hi4).2 _ hl.1 hg.1 _) rfl rfl ?_
        refine xA.topi (congrArg nI (lC_in hl hg.2.1 _)) ?_
        exact xA.iret rfl rfl rfl ⟨by rw [aMost, if_pos hx, hci]; first | (rw [if_neg (by rintro (q | q); exact h14 q; exact h19 q)]; done) | (rw [if_pos (Or.inl h14), if_neg h36]; done) | (rw [if_pos (Or.inl h14), if_pos h36]; done) | (rw [if_pos (Or.inr h19), if_pos h36]; done) | (rw [if_pos (Or.inr h19), if_neg h36]; done), rfl⟩
      · refine xA.iload rfl rfl rfl ?_
        refine xA.goto (q := 53) rfl rfl ?_
        exact xA.iret rfl rfl rfl ⟨by rw [aMost, if_pos hx, hci]; first | (rw [if_neg (by rintro (q | q); exact h14 q; exact h19 q)]; done) | (rw [if_pos (Or.inl h14), if_neg h36]; done) | (rw [if_pos (Or.inl h14), if_pos h36]; done) | (rw [if_pos (Or.inr h19), if_pos h36]; done) | (rw [if_pos (Or.inr h19), if_neg h36]; done), rfl⟩
    · refine xA.iload_n (i := 2) rfl rfl rfl rfl ?_
      refine xA.iconst (v := 1) rfl (by decide) rfl ?_
      refine xA.icmp_eq (tgt := 25) rfl rfl rfl (fun h19 => ?_) (fun h19 => ?_)
      · refine xA.aload_n (i := 3) rfl rfl rfl rfl ?_
        refine xA.callVr (As := []) rfl k9_152 okX5_lived (isP i hi4).1 rfl rfl rfl (Nat.le_of_ble_eq_true rfl) (c_X5_lived (d + 2) _ G (42 + 3 * i) (isP i hi4)) rfl rfl ?_
        refine xA.callVi (As := []) rfl k9_194 okX3_fullestMinute (isP i hi4).2.1 rfl rfl rfl (Nat.le_of_ble_eq_true rfl) (c_X3_fullestMinute d _ G (42 + 3 * i + 1) (isP i hi4).2 _ hl.1 hg.1) rfl rfl ?_
        refine xA.topi (lC_fm hl hg.2.1) ?_
        refine xA.istore (L' := [_, _, _, _, _]) rfl (Nat.le_of_ble_eq_true rfl) rfl rfl ?_
        refine xA.iload_n (i := 2) rfl rfl rfl rfl ?_
        refine xA.iconst (v := 1) rfl (by decide) rfl ?_
        refine xA.icmp_ne (tgt := 44) rfl rfl rfl (fun h36 => ?_) (fun h36 => ?_)
        · refine xA.aload_n (i := 3) rfl rfl rfl rfl ?_
          refine xA.callVr (As := []) rfl k9_152 okX5_lived (isP i hi4).1 rfl rfl rfl (Nat.le_of_ble_eq_true rfl) (c_X5_lived (d + 2) _ G (42 + 3 * i) (isP i hi4)) rfl rfl ?_
          refine xA.iload rfl rfl rfl ?_
          refine xA.callVi (As := [_]) rfl k9_197 okX3_selvesIn (isP i hi4).2.1 rfl rfl rfl (Nat.le_of_ble_eq_true rfl) (c_X3_selvesIn (d + 1) _ G (42 + 3 * i + 1) (isP i hi4).2 _ hl.1 hg.1 _) rfl rfl ?_
          refine xA.topi (congrArg nI (lC_in hl hg.2.1 _)) ?_
          exact xA.iret rfl rfl rfl ⟨by rw [aMost, if_pos hx, hci]; first | (rw [if_neg (by rintro (q | q); exact h14 q; exact h19 q)]; done) | (rw [if_pos (Or.inl h14), if_neg h36]; done) | (rw [if_pos (Or.inl h14), if_pos h36]; done) | (rw [if_pos (Or.inr h19), if_pos h36]; done) | (rw [if_pos (Or.inr h19), if_neg h36]; done), rfl⟩
        · refine xA.iload rfl rfl rfl ?_
          refine xA.goto (q := 53) rfl rfl ?_
          exact xA.iret rfl rfl rfl ⟨by rw [aMost, if_pos hx, hci]; first | (rw [if_neg (by rintro (q | q); exact h14 q; exact h19 q)]; done) | (rw [if_pos (Or.inl h14), if_neg h36]; done) | (rw [if_pos (Or.inl h14), if_pos h36]; done) | (rw [if_pos (Or.inr h19), if_pos h36]; done) | (rw [if_pos (Or.inr h19), if_neg h36]; done), rfl⟩
      · refine xA.bipush (v := (-102)) rfl (by decide) rfl ?_
        exact xA.iret rfl rfl rfl ⟨by rw [aMost, if_pos hx, hci]; first | (rw [if_neg (by rintro (q | q); exact h14 q; exact h19 q)]; done) | (rw [if_pos (Or.inl h14), if_neg h36]; done) | (rw [if_pos (Or.inl h14), if_pos h36]; done) | (rw [if_pos (Or.inr h19), if_pos h36]; done) | (rw [if_pos (Or.inr h19), if_neg h36]; done), rfl⟩
  · skip
    refine xA.aload_n (i := 0) rfl rfl rfl rfl ?_
    refine xA.iload_n (i := 1) rfl rfl rfl rfl ?_
    refine xA.callVr (As := [_]) rfl k9_134 okX9_personAt rfl rfl rfl rfl (Nat.le_of_ble_eq_true rfl) (c_X9_personAtN (d + 2) _ G (sP s) hpp.1 hpp.2.1 x hx) rfl rfl ?_
    refine xA.astoreN_n (i := 3) (L' := [_, _, _, _, _]) rfl rfl (Nat.le_of_ble_eq_true rfl) rfl rfl ?_
    refine xA.aloadN_n (i := 3) rfl rfl rfl rfl ?_
    refine xA.ifnonnullN rfl rfl ?_
    refine xA.bipush (v := (-101)) rfl (by decide) rfl ?_
    exact xA.iret rfl rfl rfl ⟨by rw [aMost, if_neg (by first | exact hx | (rintro ⟨q, -⟩; exact hx q))], rfl⟩
set_option maxRecDepth 100000 in
set_option maxHeartbeats 400000 in
theorem c_X9_done (d : Nat) (S : Nat → Nat → Int32) (G : Nat → Nat → Int64) (s : sS) (hc : CS S s) (x : Int32) : xR τ (d + 3) mX9_done [.ref 0, .int x] S G (some (.int (aDone s x))) S G := by
  obtain ⟨hpg, hho, hpp, htk, hgl, hsd, him, hno⟩ := hc
  refine xC.of okX9_done (Nat.le_of_ble_eq_true rfl) (L := [_, _, _]) rfl ?_
  by_cases hx : rg x (sP s)
  · obtain ⟨i, hi, rfl⟩ := rg_nI hx (by have := hpp.2.1; omega)
    have hi4 : i < 4 := by have := hpp.2.1; omega
    have hci : (nI i).toNatClampNeg = i := nI_clamp (by omega)
    obtain ⟨hkd, hkd5, hl, hg⟩ := hpp.2.2 i hi
    refine xA.aload_n (i := 0) rfl rfl rfl rfl ?_
    refine xA.iload_n (i := 1) rfl rfl rfl rfl ?_
    refine xA.callVr (As := [_]) rfl k9_134 okX9_personAt rfl rfl rfl rfl (Nat.le_of_ble_eq_true rfl) (c_X9_personAt (d + 2) _ G (sP s) hpp.1 hpp.2.1 i hi) rfl rfl ?_
    refine xA.astore_n (i := 2) (L' := [_, _, _]) rfl rfl (Nat.le_of_ble_eq_true rfl) rfl rfl ?_
    refine xA.aload_n (i := 2) rfl rfl rfl rfl ?_
    refine xA.ifnonnull (q := 15) rfl rfl ?_
    refine xA.aload_n (i := 0) rfl rfl rfl rfl ?_
    refine xA.getR rfl f9_42 rfl rfl rfl rfl ?_
    refine xA.aload_n (i := 2) rfl rfl rfl rfl ?_
    refine xA.callVr (As := []) rfl k9_152 okX5_lived (isP i hi4).1 rfl rfl rfl (Nat.le_of_ble_eq_true rfl) (c_X5_lived (d + 2) _ G (42 + 3 * i) (isP i hi4)) rfl rfl ?_
    refine xA.callVi (As := [_]) rfl k9_211 okX7_doneBy rfl rfl rfl rfl (Nat.le_of_ble_eq_true rfl) (c_X7_doneBy d _ G 12 iT12 _ htk.1 htk.2.1 (42 + 3 * i + 1) (isP i hi4).2 _ hl.1 hg.1) rfl rfl ?_
    refine xA.topi (lC_done htk hl hg.2.1) ?_
    exact xA.iret rfl rfl rfl ⟨by rw [aDone, if_pos hx, hci], rfl⟩
  · skip
    refine xA.aload_n (i := 0) rfl rfl rfl rfl ?_
    refine xA.iload_n (i := 1) rfl rfl rfl rfl ?_
    refine xA.callVr (As := [_]) rfl k9_134 okX9_personAt rfl rfl rfl rfl (Nat.le_of_ble_eq_true rfl) (c_X9_personAtN (d + 2) _ G (sP s) hpp.1 hpp.2.1 x hx) rfl rfl ?_
    refine xA.astoreN_n (i := 2) (L' := [_, _, _]) rfl rfl (Nat.le_of_ble_eq_true rfl) rfl rfl ?_
    refine xA.aloadN_n (i := 2) rfl rfl rfl rfl ?_
    refine xA.ifnonnullN rfl rfl ?_
    refine xA.bipush (v := (-101)) rfl (by decide) rfl ?_
    refine xA.goto (q := 26) rfl rfl ?_
    exact xA.iret rfl rfl rfl ⟨by rw [aDone, if_neg (by first | exact hx | (rintro ⟨q, -⟩; exact hx q))], rfl⟩
set_option maxRecDepth 100000 in
set_option maxHeartbeats 400000 in
theorem c_X9_met (d : Nat) (S : Nat → Nat → Int32) (G : Nat → Nat → Int64) (s : sS) (hc : CS S s) (x : Int32) : xR τ (d + 4) mX9_met [.ref 0, .int x] S G (some (.int (aMet s x))) S G := by
  obtain ⟨hpg, hho, hpp, htk, hgl, hsd, him, hno⟩ := hc
  refine xC.of okX9_met (Nat.le_of_ble_eq_true rfl) (L := [_, _, _]) rfl ?_
  by_cases hx : rg x (sP s)
  · obtain ⟨i, hi, rfl⟩ := rg_nI hx (by have := hpp.2.1; omega)
    have hi4 : i < 4 := by have := hpp.2.1; omega
    have hci : (nI i).toNatClampNeg = i := nI_clamp (by omega)
    obtain ⟨hkd, hkd5, hl, hg⟩ := hpp.2.2 i hi
    refine xA.aload_n (i := 0) rfl rfl rfl rfl ?_
    refine xA.iload_n (i := 1) rfl rfl rfl rfl ?_
    refine xA.callVr (As := [_]) rfl k9_134 okX9_personAt rfl rfl rfl rfl (Nat.le_of_ble_eq_true rfl) (c_X9_personAt (d + 3) _ G (sP s) hpp.1 hpp.2.1 i hi) rfl rfl ?_
    refine xA.astore_n (i := 2) (L' := [_, _, _]) rfl rfl (Nat.le_of_ble_eq_true rfl) rfl rfl ?_
    refine xA.aload_n (i := 2) rfl rfl rfl rfl ?_
    refine xA.ifnonnull (q := 15) rfl rfl ?_
    refine xA.aload_n (i := 2) rfl rfl rfl rfl ?_
    refine xA.aload_n (i := 0) rfl rfl rfl rfl ?_
    refine xA.getR rfl f9_19 rfl rfl rfl rfl ?_
    refine xA.callVi (As := [_]) rfl k9_190 okX5_firstMeeting (isP i hi4).1 rfl rfl rfl (Nat.le_of_ble_eq_true rfl) (c_X5_firstMeeting d _ G (42 + 3 * i) (isP i hi4) iH3 _ hl.1 hg.1 (lC_ok hl hg.2.1)) rfl rfl ?_
    have hhr : 0 < sHr s := by
      rcases Nat.eq_zero_or_pos (sHr s) with z | z
      · have := (hno z).1; omega
      · exact z
    refine xA.topi (lC_met (hho.2.2.2 hhr).1 hkd5 hkd hl hg.2.1) ?_
    exact xA.iret rfl rfl rfl ⟨by rw [aMet, if_pos hx, hci], rfl⟩
  · skip
    refine xA.aload_n (i := 0) rfl rfl rfl rfl ?_
    refine xA.iload_n (i := 1) rfl rfl rfl rfl ?_
    refine xA.callVr (As := [_]) rfl k9_134 okX9_personAt rfl rfl rfl rfl (Nat.le_of_ble_eq_true rfl) (c_X9_personAtN (d + 3) _ G (sP s) hpp.1 hpp.2.1 x hx) rfl rfl ?_
    refine xA.astoreN_n (i := 2) (L' := [_, _, _]) rfl rfl (Nat.le_of_ble_eq_true rfl) rfl rfl ?_
    refine xA.aloadN_n (i := 2) rfl rfl rfl rfl ?_
    refine xA.ifnonnullN rfl rfl ?_
    refine xA.bipush (v := (-101)) rfl (by decide) rfl ?_
    refine xA.goto (q := 23) rfl rfl ?_
    exact xA.iret rfl rfl rfl ⟨by rw [aMet, if_neg (by first | exact hx | (rintro ⟨q, -⟩; exact hx q))], rfl⟩
end
section
variable {τ : List xSh}
/-! ===== the class's methods that ask, of two, of all ===== -/
set_option maxRecDepth 100000 in
set_option maxHeartbeats 400000 in
theorem c_X9_meet (d : Nat) (S : Nat → Nat → Int32) (G : Nat → Nat → Int64) (s : sS) (hc : CS S s) (a b : Int32) : xR τ (d + 3) mX9_meet [.ref 0, .int a, .int b] S G (some (.int (aMeet s a b))) S G := by
  obtain ⟨hpg, hho, hpp, htk, hgl, hsd, him, hno⟩ := hc
  refine xC.of okX9_meet (Nat.le_of_ble_eq_true rfl) (L := [_, _, _, _, _]) rfl ?_
  by_cases ha : rg a (sP s)
  · skip
    refine xA.aload_n (i := 0) rfl rfl rfl rfl ?_
    by_cases hb : rg b (sP s)
    · obtain ⟨i, hi, rfl⟩ := rg_nI ha (by have := hpp.2.1; omega)
      have hi4 : i < 4 := by have := hpp.2.1; omega
      have uc : (nI i).toNatClampNeg = i := nI_clamp (by omega)
      obtain ⟨uk, uk5, ul, ug⟩ := hpp.2.2 i hi
      obtain ⟨j, hj, rfl⟩ := rg_nI hb (by have := hpp.2.1; omega)
      have hj4 : j < 4 := by have := hpp.2.1; omega
      have wc : (nI j).toNatClampNeg = j := nI_clamp (by omega)
      obtain ⟨wk, wk5, wl, wg⟩ := hpp.2.2 j hj
      refine xA.iload_n (i := 1) rfl rfl rfl rfl ?_
      refine xA.callVr (As := [_]) rfl k9_134 okX9_personAt rfl rfl rfl rfl (Nat.le_of_ble_eq_true rfl) (c_X9_personAt (d + 2) _ G (sP s) hpp.1 hpp.2.1 i hi) rfl rfl ?_
      refine xA.astore_n (i := 3) (L' := [_, _, _, _, _]) rfl rfl (Nat.le_of_ble_eq_true rfl) rfl rfl ?_
      refine xA.aload_n (i := 0) rfl rfl rfl rfl ?_
      refine xA.iload_n (i := 2) rfl rfl rfl rfl ?_
      refine xA.callVr (As := [_]) rfl k9_134 okX9_personAt rfl rfl rfl rfl (Nat.le_of_ble_eq_true rfl) (c_X9_personAt (d + 2) _ G (sP s) hpp.1 hpp.2.1 j hj) rfl rfl ?_
      refine xA.astore (L' := [_, _, _, _, _]) rfl (Nat.le_of_ble_eq_true rfl) rfl rfl ?_
      refine xA.aload_n (i := 3) rfl rfl rfl rfl ?_
      refine xA.ifnull rfl rfl ?_
      refine xA.aload rfl rfl rfl ?_
      refine xA.ifnull rfl rfl ?_
      refine xA.iload_n (i := 1) rfl rfl rfl rfl ?_
      refine xA.iload_n (i := 2) rfl rfl rfl rfl ?_
      refine xA.icmp_ne (tgt := 30) rfl rfl rfl (fun h24 => ?_) (fun h24 => ?_)
      · refine xA.aload_n (i := 3) rfl rfl rfl rfl ?_
        refine xA.callVr (As := []) rfl k9_152 okX5_lived (isP i hi4).1 rfl rfl rfl (Nat.le_of_ble_eq_true rfl) (c_X5_lived (d + 2) _ G (42 + 3 * i) (isP i hi4)) rfl rfl ?_
        refine xA.aload rfl rfl rfl ?_
        refine xA.callVr (As := []) rfl k9_152 okX5_lived (isP j hj4).1 rfl rfl rfl (Nat.le_of_ble_eq_true rfl) (c_X5_lived (d + 2) _ G (42 + 3 * j) (isP j hj4)) rfl rfl ?_
        refine xA.callVi (As := [_]) rfl k9_200 okX3_firstMinuteWith (isP i hi4).2.1 rfl rfl rfl (Nat.le_of_ble_eq_true rfl) (c_X3_firstMinuteWith d _ G (42 + 3 * i + 1) (isP i hi4).2 _ ul.1 ug.1 (42 + 3 * j + 1) (isP j hj4).2 _ wl.1 wg.1) rfl rfl ?_
        refine xA.topi (lC_meet ul ug.2.1 wl) ?_
        exact xA.iret rfl rfl rfl ⟨by rw [aMeet, if_pos ⟨ha, hb, h24⟩, uc, wc], rfl⟩
      · refine xA.bipush (v := (-101)) rfl (by decide) rfl ?_
        exact xA.iret rfl rfl rfl ⟨by rw [aMeet, if_neg (fun q => q.2.2 h24)], rfl⟩
    · obtain ⟨i, hi, rfl⟩ := rg_nI ha (by have := hpp.2.1; omega)
      have hi4 : i < 4 := by have := hpp.2.1; omega
      have uc : (nI i).toNatClampNeg = i := nI_clamp (by omega)
      obtain ⟨uk, uk5, ul, ug⟩ := hpp.2.2 i hi
      refine xA.iload_n (i := 1) rfl rfl rfl rfl ?_
      refine xA.callVr (As := [_]) rfl k9_134 okX9_personAt rfl rfl rfl rfl (Nat.le_of_ble_eq_true rfl) (c_X9_personAt (d + 2) _ G (sP s) hpp.1 hpp.2.1 i hi) rfl rfl ?_
      refine xA.astore_n (i := 3) (L' := [_, _, _, _, _]) rfl rfl (Nat.le_of_ble_eq_true rfl) rfl rfl ?_
      refine xA.aload_n (i := 0) rfl rfl rfl rfl ?_
      refine xA.iload_n (i := 2) rfl rfl rfl rfl ?_
      refine xA.callVr (As := [_]) rfl k9_134 okX9_personAt rfl rfl rfl rfl (Nat.le_of_ble_eq_true rfl) (c_X9_personAtN (d + 2) _ G (sP s) hpp.1 hpp.2.1 b hb) rfl rfl ?_
      refine xA.astoreN (L' := [_, _, _, _, _]) rfl (Nat.le_of_ble_eq_true rfl) rfl rfl ?_
      refine xA.aload_n (i := 3) rfl rfl rfl rfl ?_
      refine xA.ifnull rfl rfl ?_
      refine xA.aloadN rfl rfl rfl ?_
      refine xA.ifnullN (q := 27) rfl rfl ?_
      refine xA.bipush (v := (-101)) rfl (by decide) rfl ?_
      exact xA.iret rfl rfl rfl ⟨by rw [aMeet, if_neg (by rintro ⟨q1, q2, q3⟩; exact hb q2)], rfl⟩
  · skip
    refine xA.aload_n (i := 0) rfl rfl rfl rfl ?_
    by_cases hb : rg b (sP s)
    · obtain ⟨j, hj, rfl⟩ := rg_nI hb (by have := hpp.2.1; omega)
      have hj4 : j < 4 := by have := hpp.2.1; omega
      have wc : (nI j).toNatClampNeg = j := nI_clamp (by omega)
      obtain ⟨wk, wk5, wl, wg⟩ := hpp.2.2 j hj
      refine xA.iload_n (i := 1) rfl rfl rfl rfl ?_
      refine xA.callVr (As := [_]) rfl k9_134 okX9_personAt rfl rfl rfl rfl (Nat.le_of_ble_eq_true rfl) (c_X9_personAtN (d + 2) _ G (sP s) hpp.1 hpp.2.1 a ha) rfl rfl ?_
      refine xA.astoreN_n (i := 3) (L' := [_, _, _, _, _]) rfl rfl (Nat.le_of_ble_eq_true rfl) rfl rfl ?_
      refine xA.aload_n (i := 0) rfl rfl rfl rfl ?_
      refine xA.iload_n (i := 2) rfl rfl rfl rfl ?_
      refine xA.callVr (As := [_]) rfl k9_134 okX9_personAt rfl rfl rfl rfl (Nat.le_of_ble_eq_true rfl) (c_X9_personAt (d + 2) _ G (sP s) hpp.1 hpp.2.1 j hj) rfl rfl ?_
      refine xA.astore (L' := [_, _, _, _, _]) rfl (Nat.le_of_ble_eq_true rfl) rfl rfl ?_
      refine xA.aloadN_n (i := 3) rfl rfl rfl rfl ?_
      refine xA.ifnullN (q := 27) rfl rfl ?_
      refine xA.bipush (v := (-101)) rfl (by decide) rfl ?_
      exact xA.iret rfl rfl rfl ⟨by rw [aMeet, if_neg (by rintro ⟨q1, q2, q3⟩; exact ha q1)], rfl⟩
    · skip
      refine xA.iload_n (i := 1) rfl rfl rfl rfl ?_
      refine xA.callVr (As := [_]) rfl k9_134 okX9_personAt rfl rfl rfl rfl (Nat.le_of_ble_eq_true rfl) (c_X9_personAtN (d + 2) _ G (sP s) hpp.1 hpp.2.1 a ha) rfl rfl ?_
      refine xA.astoreN_n (i := 3) (L' := [_, _, _, _, _]) rfl rfl (Nat.le_of_ble_eq_true rfl) rfl rfl ?_
      refine xA.aload_n (i := 0) rfl rfl rfl rfl ?_
      refine xA.iload_n (i := 2) rfl rfl rfl rfl ?_
      refine xA.callVr (As := [_]) rfl k9_134 okX9_personAt rfl rfl rfl rfl (Nat.le_of_ble_eq_true rfl) (c_X9_personAtN (d + 2) _ G (sP s) hpp.1 hpp.2.1 b hb) rfl rfl ?_
      refine xA.astoreN (L' := [_, _, _, _, _]) rfl (Nat.le_of_ble_eq_true rfl) rfl rfl ?_
      refine xA.aloadN_n (i := 3) rfl rfl rfl rfl ?_
      refine xA.ifnullN (q := 27) rfl rfl ?_
      refine xA.bipush (v := (-101)) rfl (by decide) rfl ?_
      exact xA.iret rfl rfl rfl ⟨by rw [aMeet, if_neg (by rintro ⟨q1, q2, q3⟩; exact ha q1)], rfl⟩
theorem glC_pair {S : Nat → Nat → Int32} {k q r : Nat} {g : gS} {l v : lS} (hg : glC S k g) (hl : lC S q l) (hv : lC S r v) : prI (fun x => (if 0 < cnS S q (lN' l) (S (k + 1) x) then (1 : Int32) else 0) + (if 0 < cnS S r (lN' v) (S (k + 1) x) then 1 else 0)) g.1 = pairN g l v :=
  prI_congr fun i hi => by rw [(hg.2.2 i hi).1, cnS_at hl, cnS_at hv]
theorem glC_all {S : Nat → Nat → Int32} {k q : Nat} {g : gS} {l : lS} (hg : glC S k g) (hl : lC S q l) : (cn (fun x => decide (cnS S q (lN' l) (S (k + 1) x) = 0)) g.1 = 0) ↔ allN g l = true := by
  rw [allN, decide_eq_true_eq, cn_congr (g := fun x => decide (atN l (nI (g.2 x)) = 0)) (fun i hi => by rw [(hg.2.2 i hi).1, cnS_at hl])]
theorem bt_nI10 : ∀ x, x < 1024 → ∀ b, b < 10 → (bt (nI x) (nI b) ↔ x.testBit b = true) := by decide +kernel
theorem lkS_le (u : Nat → Nat) (B : Nat) (h : ∀ i, u i ≤ B) (n : Nat) : (lkS u n).2 ≤ B := by
  induction n with
  | zero => exact Nat.zero_le _
  | succ n ih => rw [lkS]; split <;> simp [h, ih]

set_option maxRecDepth 100000 in
set_option maxHeartbeats 400000 in
theorem c_X9_pair (d : Nat) (S : Nat → Nat → Int32) (G : Nat → Nat → Int64) (s : sS) (hc : CS S s) (a b : Int32) : xR τ (d + 3) mX9_pair [.ref 0, .int a, .int b] S G (some (.int (aPair s a b))) S G := by
  obtain ⟨hpg, hho, hpp, htk, hgl, hsd, him, hno⟩ := hc
  refine xC.of okX9_pair (Nat.le_of_ble_eq_true rfl) (L := [_, _, _, _, _]) rfl ?_
  by_cases ha : rg a (sP s)
  · skip
    refine xA.aload_n (i := 0) rfl rfl rfl rfl ?_
    by_cases hb : rg b (sP s)
    · obtain ⟨i, hi, rfl⟩ := rg_nI ha (by have := hpp.2.1; omega)
      have hi4 : i < 4 := by have := hpp.2.1; omega
      have uc : (nI i).toNatClampNeg = i := nI_clamp (by omega)
      obtain ⟨uk, uk5, ul, ug⟩ := hpp.2.2 i hi
      obtain ⟨j, hj, rfl⟩ := rg_nI hb (by have := hpp.2.1; omega)
      have hj4 : j < 4 := by have := hpp.2.1; omega
      have wc : (nI j).toNatClampNeg = j := nI_clamp (by omega)
      obtain ⟨wk, wk5, wl, wg⟩ := hpp.2.2 j hj
      refine xA.iload_n (i := 1) rfl rfl rfl rfl ?_
      refine xA.callVr (As := [_]) rfl k9_134 okX9_personAt rfl rfl rfl rfl (Nat.le_of_ble_eq_true rfl) (c_X9_personAt (d + 2) _ G (sP s) hpp.1 hpp.2.1 i hi) rfl rfl ?_
      refine xA.astore_n (i := 3) (L' := [_, _, _, _, _]) rfl rfl (Nat.le_of_ble_eq_true rfl) rfl rfl ?_
      refine xA.aload_n (i := 0) rfl rfl rfl rfl ?_
      refine xA.iload_n (i := 2) rfl rfl rfl rfl ?_
      refine xA.callVr (As := [_]) rfl k9_134 okX9_personAt rfl rfl rfl rfl (Nat.le_of_ble_eq_true rfl) (c_X9_personAt (d + 2) _ G (sP s) hpp.1 hpp.2.1 j hj) rfl rfl ?_
      refine xA.astore (L' := [_, _, _, _, _]) rfl (Nat.le_of_ble_eq_true rfl) rfl rfl ?_
      refine xA.aload_n (i := 3) rfl rfl rfl rfl ?_
      refine xA.ifnull rfl rfl ?_
      refine xA.aload rfl rfl rfl ?_
      refine xA.ifnull rfl rfl ?_
      refine xA.iload_n (i := 1) rfl rfl rfl rfl ?_
      refine xA.iload_n (i := 2) rfl rfl rfl rfl ?_
      refine xA.icmp_ne (tgt := 30) rfl rfl rfl (fun h24 => ?_) (fun h24 => ?_)
      · refine xA.aload_n (i := 0) rfl rfl rfl rfl ?_
        refine xA.getR rfl f9_49 rfl rfl rfl rfl ?_
        refine xA.aload_n (i := 3) rfl rfl rfl rfl ?_
        refine xA.callVr (As := []) rfl k9_152 okX5_lived (isP i hi4).1 rfl rfl rfl (Nat.le_of_ble_eq_true rfl) (c_X5_lived (d + 2) _ G (42 + 3 * i) (isP i hi4)) rfl rfl ?_
        refine xA.aload rfl rfl rfl ?_
        refine xA.callVr (As := []) rfl k9_152 okX5_lived (isP j hj4).1 rfl rfl rfl (Nat.le_of_ble_eq_true rfl) (c_X5_lived (d + 2) _ G (42 + 3 * j) (isP j hj4)) rfl rfl ?_
        refine xA.callVi (As := [_, _]) rfl k9_240 okX0_waysBetween rfl rfl rfl rfl (Nat.le_of_ble_eq_true rfl) (c_X0_waysBetween d _ G 16 iG16 _ hgl.1 hgl.2.1 (42 + 3 * i + 1) (isP i hi4).2 _ ul.1 ug.1 (42 + 3 * j + 1) (isP j hj4).2 _ wl.1 wg.1) rfl rfl ?_
        refine xA.topi (glC_pair hgl ul wl) ?_
        exact xA.iret rfl rfl rfl ⟨by rw [aPair, if_pos ⟨ha, hb, h24⟩, uc, wc], rfl⟩
      · refine xA.bipush (v := (-101)) rfl (by decide) rfl ?_
        exact xA.iret rfl rfl rfl ⟨by rw [aPair, if_neg (fun q => q.2.2 h24)], rfl⟩
    · obtain ⟨i, hi, rfl⟩ := rg_nI ha (by have := hpp.2.1; omega)
      have hi4 : i < 4 := by have := hpp.2.1; omega
      have uc : (nI i).toNatClampNeg = i := nI_clamp (by omega)
      obtain ⟨uk, uk5, ul, ug⟩ := hpp.2.2 i hi
      refine xA.iload_n (i := 1) rfl rfl rfl rfl ?_
      refine xA.callVr (As := [_]) rfl k9_134 okX9_personAt rfl rfl rfl rfl (Nat.le_of_ble_eq_true rfl) (c_X9_personAt (d + 2) _ G (sP s) hpp.1 hpp.2.1 i hi) rfl rfl ?_
      refine xA.astore_n (i := 3) (L' := [_, _, _, _, _]) rfl rfl (Nat.le_of_ble_eq_true rfl) rfl rfl ?_
      refine xA.aload_n (i := 0) rfl rfl rfl rfl ?_
      refine xA.iload_n (i := 2) rfl rfl rfl rfl ?_
      refine xA.callVr (As := [_]) rfl k9_134 okX9_personAt rfl rfl rfl rfl (Nat.le_of_ble_eq_true rfl) (c_X9_personAtN (d + 2) _ G (sP s) hpp.1 hpp.2.1 b hb) rfl rfl ?_
      refine xA.astoreN (L' := [_, _, _, _, _]) rfl (Nat.le_of_ble_eq_true rfl) rfl rfl ?_
      refine xA.aload_n (i := 3) rfl rfl rfl rfl ?_
      refine xA.ifnull rfl rfl ?_
      refine xA.aloadN rfl rfl rfl ?_
      refine xA.ifnullN (q := 27) rfl rfl ?_
      refine xA.bipush (v := (-101)) rfl (by decide) rfl ?_
      exact xA.iret rfl rfl rfl ⟨by rw [aPair, if_neg (by rintro ⟨q1, q2, q3⟩; exact hb q2)], rfl⟩
  · skip
    refine xA.aload_n (i := 0) rfl rfl rfl rfl ?_
    by_cases hb : rg b (sP s)
    · obtain ⟨j, hj, rfl⟩ := rg_nI hb (by have := hpp.2.1; omega)
      have hj4 : j < 4 := by have := hpp.2.1; omega
      have wc : (nI j).toNatClampNeg = j := nI_clamp (by omega)
      obtain ⟨wk, wk5, wl, wg⟩ := hpp.2.2 j hj
      refine xA.iload_n (i := 1) rfl rfl rfl rfl ?_
      refine xA.callVr (As := [_]) rfl k9_134 okX9_personAt rfl rfl rfl rfl (Nat.le_of_ble_eq_true rfl) (c_X9_personAtN (d + 2) _ G (sP s) hpp.1 hpp.2.1 a ha) rfl rfl ?_
      refine xA.astoreN_n (i := 3) (L' := [_, _, _, _, _]) rfl rfl (Nat.le_of_ble_eq_true rfl) rfl rfl ?_
      refine xA.aload_n (i := 0) rfl rfl rfl rfl ?_
      refine xA.iload_n (i := 2) rfl rfl rfl rfl ?_
      refine xA.callVr (As := [_]) rfl k9_134 okX9_personAt rfl rfl rfl rfl (Nat.le_of_ble_eq_true rfl) (c_X9_personAt (d + 2) _ G (sP s) hpp.1 hpp.2.1 j hj) rfl rfl ?_
      refine xA.astore (L' := [_, _, _, _, _]) rfl (Nat.le_of_ble_eq_true rfl) rfl rfl ?_
      refine xA.aloadN_n (i := 3) rfl rfl rfl rfl ?_
      refine xA.ifnullN (q := 27) rfl rfl ?_
      refine xA.bipush (v := (-101)) rfl (by decide) rfl ?_
      exact xA.iret rfl rfl rfl ⟨by rw [aPair, if_neg (by rintro ⟨q1, q2, q3⟩; exact ha q1)], rfl⟩
    · skip
      refine xA.iload_n (i := 1) rfl rfl rfl rfl ?_
      refine xA.callVr (As := [_]) rfl k9_134 okX9_personAt rfl rfl rfl rfl (Nat.le_of_ble_eq_true rfl) (c_X9_personAtN (d + 2) _ G (sP s) hpp.1 hpp.2.1 a ha) rfl rfl ?_
      refine xA.astoreN_n (i := 3) (L' := [_, _, _, _, _]) rfl rfl (Nat.le_of_ble_eq_true rfl) rfl rfl ?_
      refine xA.aload_n (i := 0) rfl rfl rfl rfl ?_
      refine xA.iload_n (i := 2) rfl rfl rfl rfl ?_
      refine xA.callVr (As := [_]) rfl k9_134 okX9_personAt rfl rfl rfl rfl (Nat.le_of_ble_eq_true rfl) (c_X9_personAtN (d + 2) _ G (sP s) hpp.1 hpp.2.1 b hb) rfl rfl ?_
      refine xA.astoreN (L' := [_, _, _, _, _]) rfl (Nat.le_of_ble_eq_true rfl) rfl rfl ?_
      refine xA.aloadN_n (i := 3) rfl rfl rfl rfl ?_
      refine xA.ifnullN (q := 27) rfl rfl ?_
      refine xA.bipush (v := (-101)) rfl (by decide) rfl ?_
      exact xA.iret rfl rfl rfl ⟨by rw [aPair, if_neg (by rintro ⟨q1, q2, q3⟩; exact ha q1)], rfl⟩
set_option maxRecDepth 100000 in
set_option maxHeartbeats 400000 in
theorem c_X9_usersOf (d : Nat) (S : Nat → Nat → Int32) (G : Nat → Nat → Int64) (s : sS) (hc : CS S s) (j : Nat) (hj : j < 10) : xR τ (d + 1) mX9_usersOf [.ref 0, .int (nI j)] S G (some (.int (nI (usersN s j)))) S G := by
  obtain ⟨hpg, hho, hpp, htk, hgl, hsd, him, hno⟩ := hc
  have hp4 := hpp.2.1
  refine xC.of okX9_usersOf (Nat.le_of_ble_eq_true rfl) (L := [_, _, _, _, _]) rfl ?_
  have loop : ∀ i, i ≤ (sP s) → ∀ x4 : Option Value, xA none (d + 1) mX9_usersOf 0 0 0 0 4 [some (.ref 0), some (.int (nI j)), some (.int (nI (cn (fun p => (lDb (sL s p)).testBit j) i))), some (.int (nI i)), x4] [] ((σF τ), S, G) (fun r' h' => r' = (some (.int (nI (usersN s j)))) ∧ h' = ((σF τ), S, G)) := by
    refine xloop (sP s) (fun i hi ih => ?_) ?_
    · skip
      intro x4
      refine xA.iload_n (i := 3) rfl rfl rfl rfl ?_
      refine xA.aload_n (i := 0) rfl rfl rfl rfl ?_
      refine xA.getI rfl f9_105 rfl rfl rfl ?_
      refine xA.topi (hpp.1) ?_
      refine xA.icmp_ge (tgt := 45) rfl rfl rfl (fun h9 => ?_) (fun h9 => ?_)
      · exact absurd h9 (nI_ge hi (by omega))
      · have hi4 : i < 4 := by omega
        obtain ⟨uk, uk5, ul, ug⟩ := hpp.2.2 i hi
        have hbt := bt_nI10 _ ug.2.2.2.1 j hj
        rw [← ul.2.2.1] at hbt
        refine xA.aload_n (i := 0) rfl rfl rfl rfl ?_
        refine xA.iload_n (i := 3) rfl rfl rfl rfl ?_
        refine xA.callVr (As := [_]) rfl k9_134 okX9_personAt rfl rfl rfl rfl (Nat.le_of_ble_eq_true rfl) (c_X9_personAt d _ G (sP s) hpp.1 hpp.2.1 i hi) rfl rfl ?_
        refine xA.astore (L' := [_, _, _, _, _]) rfl (Nat.le_of_ble_eq_true rfl) rfl rfl ?_
        refine xA.aload rfl rfl rfl ?_
        refine xA.ifnull rfl rfl ?_
        refine xA.aload rfl rfl rfl ?_
        refine xA.callVr (As := []) rfl k9_152 okX5_lived (isP i hi4).1 rfl rfl rfl (Nat.le_of_ble_eq_true rfl) (c_X5_lived d _ G (42 + 3 * i) (isP i hi4)) rfl rfl ?_
        refine xA.iload_n (i := 1) rfl rfl rfl rfl ?_
        refine xA.callVi (As := [_]) rfl k9_331 okX3_usesDoor (isP i hi4).2.1 rfl rfl rfl (Nat.le_of_ble_eq_true rfl) (c_X3_usesDoor d _ G (42 + 3 * i + 1) (isP i hi4).2 (nI j)) rfl rfl ?_
        refine xA.if_eq (tgt := 39) rfl rfl rfl (fun h33 => ?_) (fun h33 => ?_)
        · rw [xb_eq0] at h33
          refine xA.iinc (L' := [_, _, _, _, _]) rfl rfl (nI_1 i) rfl rfl ?_
          refine xA.goto (q := 4) rfl rfl ?_
          have ih := ih (some (.ref (42 + 3 * i)))
          first | (rw [cn, if_pos (hbt.mp h33)] at ih; exact ih) | (rw [cn, if_neg (fun q => h33 (hbt.mpr q)), Nat.add_zero] at ih; exact ih)
        · rw [xb_ne0] at h33
          refine xA.iinc (L' := [_, _, _, _, _]) rfl rfl (nI_1 _) rfl rfl ?_
          refine xA.iinc (L' := [_, _, _, _, _]) rfl rfl (nI_1 i) rfl rfl ?_
          refine xA.goto (q := 4) rfl rfl ?_
          have ih := ih (some (.ref (42 + 3 * i)))
          first | (rw [cn, if_pos (hbt.mp h33)] at ih; exact ih) | (rw [cn, if_neg (fun q => h33 (hbt.mpr q)), Nat.add_zero] at ih; exact ih)
    · skip
      intro x4
      refine xA.iload_n (i := 3) rfl rfl rfl rfl ?_
      refine xA.aload_n (i := 0) rfl rfl rfl rfl ?_
      refine xA.getI rfl f9_105 rfl rfl rfl ?_
      refine xA.topi (hpp.1) ?_
      refine xA.icmp_ge (tgt := 45) rfl rfl rfl (fun h9 => ?_) (fun h9 => ?_)
      · refine xA.iload_n (i := 2) rfl rfl rfl rfl ?_
        exact xA.iret rfl rfl rfl ⟨rfl, rfl⟩
      · exact absurd (nI_le (Nat.le_refl _) (by omega)) h9
  refine xA.iconst (v := 0) rfl (by decide) rfl ?_
  refine xA.istore_n (i := 2) (L' := [_, _, _, _, _]) rfl rfl (Nat.le_of_ble_eq_true rfl) rfl rfl ?_
  refine xA.iconst (v := 0) rfl (by decide) rfl ?_
  refine xA.istore_n (i := 3) (L' := [_, _, _, _, _]) rfl rfl (Nat.le_of_ble_eq_true rfl) rfl rfl ?_
  exact loop 0 (Nat.zero_le _) _
set_option maxRecDepth 100000 in
set_option maxHeartbeats 400000 in
theorem c_X9_locked (d : Nat) (S : Nat → Nat → Int32) (G : Nat → Nat → Int64) (s : sS) (hc : CS S s) : xR τ (d + 2) mX9_locked [.ref 0] S G (some (.int (aLocked s))) S G := by
  have hc0 := hc
  obtain ⟨hpg, hho, hpp, htk, hgl, hsd, him, hno⟩ := hc
  refine xC.of okX9_locked (Nat.le_of_ble_eq_true rfl) (L := [_, _, _, _, _]) rfl ?_
  refine xA.aload_n (i := 0) rfl rfl rfl rfl ?_
  refine xA.callVi (As := []) rfl k9_120 okX9_hasHouse rfl rfl rfl rfl (Nat.le_of_ble_eq_true rfl) (c_X9_hasHouse (d + 1) _ G) rfl rfl ?_
  refine xA.if_ne (tgt := 10) rfl rfl rfl (fun h4 => ?_) (fun h4 => ?_)
  · rw [xb_ne0] at h4
    have hhr : 0 < sHr s := by
      have := hho.1
      rw [this] at h4
      rw [Int32.lt_iff_toInt_lt, Int32.toInt_zero, nI_toInt (by have := hho.2.1; omega)] at h4
      omega
    have hsd3 := (hho.2.2.2 hhr).1
    have hnd10 := hsd3.2.1.2.1
    have loop : ∀ i, i ≤ hNd (sH s) → ∀ x4 : Option Value, xA none (d + 2) mX9_locked 0 0 0 0 16 [some (.ref 0), some (.int (lkS (usersN s) i).1), some (.int (nI (lkS (usersN s) i).2)), some (.int (nI i)), x4] [] ((σF τ), S, G) (fun r' h' => r' = (some (.int (aLocked s))) ∧ h' = ((σF τ), S, G)) := by
      refine xloop (hNd (sH s)) (fun i hi ih => ?_) ?_
      · intro x4
        refine xA.iload_n (i := 3) rfl rfl rfl rfl ?_
        refine xA.aload_n (i := 0) rfl rfl rfl rfl ?_
        refine xA.getR rfl f9_19 rfl rfl rfl rfl ?_
        refine xA.callVi (As := []) rfl k9_113 okX1_doors rfl rfl rfl rfl (Nat.le_of_ble_eq_true rfl) (c_X1_doors (d + 1) _ G 3 iH3) rfl rfl ?_
        refine xA.topi hsd3.1.2.1 ?_
        refine xA.icmp_ge (tgt := 51) rfl rfl rfl (fun h24 => ?_) (fun h24 => ?_)
        · exact absurd h24 (nI_ge hi (by omega))
        · refine xA.aload_n (i := 0) rfl rfl rfl rfl ?_
          refine xA.iload_n (i := 3) rfl rfl rfl rfl ?_
          refine xA.callVi (As := [_]) rfl k9_204 okX9_usersOf rfl rfl rfl rfl (Nat.le_of_ble_eq_true rfl) (c_X9_usersOf d _ G s hc0 i (by omega)) rfl rfl ?_
          refine xA.istore (L' := [_, _, _, _, _]) rfl (Nat.le_of_ble_eq_true rfl) rfl rfl ?_
          refine xA.iload rfl rfl rfl ?_
          refine xA.iload_n (i := 2) rfl rfl rfl rfl ?_
          have hb1 := lkS_le (usersN s) 4 (fun q => Nat.le_trans (cn_le _ _) hpp.2.1) i
          have hb2 : usersN s i ≤ 4 := Nat.le_trans (cn_le _ _) hpp.2.1
          refine xA.icmp_le (tgt := 45) rfl rfl rfl (fun h37 => ?_) (fun h37 => ?_)
          · refine xA.iinc (L' := [_, _, _, _, _]) rfl rfl (nI_1 i) rfl rfl ?_
            refine xA.goto (q := 16) rfl rfl ?_
            have ih := ih (some (.int (nI (usersN s i))))
            rw [lkS] at ih
            first | (rw [if_pos (by have := mt (nI_leI (a := usersN s i) (b := (lkS (usersN s) i).2) (by omega) (by omega)).mpr h37; omega)] at ih; exact ih) | (rw [if_neg (by have := (nI_leI (a := usersN s i) (b := (lkS (usersN s) i).2) (by omega) (by omega)).mp h37; omega)] at ih; exact ih)
          · refine xA.iload_n (i := 3) rfl rfl rfl rfl ?_
            refine xA.istore_n (i := 1) (L' := [_, _, _, _, _]) rfl rfl (Nat.le_of_ble_eq_true rfl) rfl rfl ?_
            refine xA.iload rfl rfl rfl ?_
            refine xA.istore_n (i := 2) (L' := [_, _, _, _, _]) rfl rfl (Nat.le_of_ble_eq_true rfl) rfl rfl ?_
            refine xA.iinc (L' := [_, _, _, _, _]) rfl rfl (nI_1 i) rfl rfl ?_
            refine xA.goto (q := 16) rfl rfl ?_
            have ih := ih (some (.int (nI (usersN s i))))
            rw [lkS] at ih
            first | (rw [if_pos (by have := mt (nI_leI (a := usersN s i) (b := (lkS (usersN s) i).2) (by omega) (by omega)).mpr h37; omega)] at ih; exact ih) | (rw [if_neg (by have := (nI_leI (a := usersN s i) (b := (lkS (usersN s) i).2) (by omega) (by omega)).mp h37; omega)] at ih; exact ih)
      · intro x4
        refine xA.iload_n (i := 3) rfl rfl rfl rfl ?_
        refine xA.aload_n (i := 0) rfl rfl rfl rfl ?_
        refine xA.getR rfl f9_19 rfl rfl rfl rfl ?_
        refine xA.callVi (As := []) rfl k9_113 okX1_doors rfl rfl rfl rfl (Nat.le_of_ble_eq_true rfl) (c_X1_doors (d + 1) _ G 3 iH3) rfl rfl ?_
        refine xA.topi hsd3.1.2.1 ?_
        refine xA.icmp_ge (tgt := 51) rfl rfl rfl (fun h24 => ?_) (fun h24 => ?_)
        · refine xA.iload_n (i := 1) rfl rfl rfl rfl ?_
          exact xA.iret rfl rfl rfl ⟨by rw [aLocked, if_neg (by omega)], rfl⟩
        · exact absurd (nI_le (Nat.le_refl _) (by omega)) h24
    refine xA.iconst (v := (-1)) rfl (by decide) rfl ?_
    refine xA.istore_n (i := 1) (L' := [_, _, _, _, _]) rfl rfl (Nat.le_of_ble_eq_true rfl) rfl rfl ?_
    refine xA.iconst (v := 0) rfl (by decide) rfl ?_
    refine xA.istore_n (i := 2) (L' := [_, _, _, _, _]) rfl rfl (Nat.le_of_ble_eq_true rfl) rfl rfl ?_
    refine xA.iconst (v := 0) rfl (by decide) rfl ?_
    refine xA.istore_n (i := 3) (L' := [_, _, _, _, _]) rfl rfl (Nat.le_of_ble_eq_true rfl) rfl rfl ?_
    exact loop 0 (Nat.zero_le _) _
  · rw [xb_eq0] at h4
    refine xA.bipush (v := (-103)) rfl (by decide) rfl ?_
    exact xA.iret rfl rfl rfl ⟨by rw [aLocked, if_pos (by rw [hho.1, Int32.lt_iff_toInt_lt, Int32.toInt_zero, nI_toInt (by have := hho.2.1; omega)] at h4; omega)], rfl⟩
set_option maxRecDepth 100000 in
set_option maxHeartbeats 400000 in
theorem c_X9_whose (d : Nat) (S : Nat → Nat → Int32) (G : Nat → Nat → Int64) (s : sS) (hc : CS S s) : xR τ (d + 3) mX9_whose [.ref 0] S G (some (.int (whoseN s))) S G := by
  obtain ⟨hpg, hho, hpp, htk, hgl, hsd, him, hno⟩ := hc
  have hp4 := hpp.2.1
  refine xC.of okX9_whose (Nat.le_of_ble_eq_true rfl) (L := [_, _, _, _]) rfl ?_
  have loop : ∀ i, i ≤ (sP s) → ∀ x3 : Option Value, xA none (d + 3) mX9_whose 0 0 0 0 4 [some (.ref 0), some (.int (orI (fun p => if allN (sGl s) (sL s p) = true then 1 <<< (nI p &&& 31) else (0 : Int32)) i)), some (.int (nI i)), x3] [] ((σF τ), S, G) (fun r' h' => r' = (some (.int (whoseN s))) ∧ h' = ((σF τ), S, G)) := by
    refine xloop (sP s) (fun i hi ih => ?_) ?_
    · skip
      intro x3
      refine xA.iload_n (i := 2) rfl rfl rfl rfl ?_
      refine xA.aload_n (i := 0) rfl rfl rfl rfl ?_
      refine xA.getI rfl f9_105 rfl rfl rfl ?_
      refine xA.topi (hpp.1) ?_
      refine xA.icmp_ge (tgt := 48) rfl rfl rfl (fun h9 => ?_) (fun h9 => ?_)
      · exact absurd h9 (nI_ge hi (by omega))
      · have hi4 : i < 4 := by omega
        obtain ⟨uk, uk5, ul, ug⟩ := hpp.2.2 i hi
        refine xA.aload_n (i := 0) rfl rfl rfl rfl ?_
        refine xA.iload_n (i := 2) rfl rfl rfl rfl ?_
        refine xA.callVr (As := [_]) rfl k9_134 okX9_personAt rfl rfl rfl rfl (Nat.le_of_ble_eq_true rfl) (c_X9_personAt (d + 2) _ G (sP s) hpp.1 hpp.2.1 i hi) rfl rfl ?_
        refine xA.astore_n (i := 3) (L' := [_, _, _, _]) rfl rfl (Nat.le_of_ble_eq_true rfl) rfl rfl ?_
        refine xA.aload_n (i := 3) rfl rfl rfl rfl ?_
        refine xA.ifnull rfl rfl ?_
        refine xA.aload_n (i := 0) rfl rfl rfl rfl ?_
        refine xA.getR rfl f9_49 rfl rfl rfl rfl ?_
        refine xA.aload_n (i := 3) rfl rfl rfl rfl ?_
        refine xA.callVr (As := []) rfl k9_152 okX5_lived (isP i hi4).1 rfl rfl rfl (Nat.le_of_ble_eq_true rfl) (c_X5_lived (d + 2) _ G (42 + 3 * i) (isP i hi4)) rfl rfl ?_
        refine xA.callVi (As := [_]) rfl k9_236 okX0_areAllOf rfl rfl rfl rfl (Nat.le_of_ble_eq_true rfl) (c_X0_areAllOf d _ G 16 iG16 _ hgl.1 hgl.2.1 (42 + 3 * i + 1) (isP i hi4).2 _ ul.1 ug.1) rfl rfl ?_
        refine xA.if_eq (tgt := 42) rfl rfl rfl (fun h33 => ?_) (fun h33 => ?_)
        · rw [xb_eq0] at h33
          refine xA.iinc (L' := [_, _, _, _]) rfl rfl (nI_1 i) rfl rfl ?_
          refine xA.goto (q := 4) rfl rfl ?_
          have ih := ih (some (.ref (42 + 3 * i)))
          first | (rw [orI, if_pos ((glC_all hgl ul).mp h33)] at ih; exact ih) | (rw [orI, if_neg (fun q => h33 ((glC_all hgl ul).mpr q)), Int32.or_zero] at ih; exact ih)
        · rw [xb_ne0] at h33
          refine xA.iload_n (i := 1) rfl rfl rfl rfl ?_
          refine xA.iconst (v := 1) rfl (by decide) rfl ?_
          refine xA.iload_n (i := 2) rfl rfl rfl rfl ?_
          refine xA.ishl rfl rfl ?_
          refine xA.ior rfl rfl ?_
          refine xA.istore_n (i := 1) (L' := [_, _, _, _]) rfl rfl (Nat.le_of_ble_eq_true rfl) rfl rfl ?_
          refine xA.iinc (L' := [_, _, _, _]) rfl rfl (nI_1 i) rfl rfl ?_
          refine xA.goto (q := 4) rfl rfl ?_
          have ih := ih (some (.ref (42 + 3 * i)))
          first | (rw [orI, if_pos ((glC_all hgl ul).mp h33)] at ih; exact ih) | (rw [orI, if_neg (fun q => h33 ((glC_all hgl ul).mpr q)), Int32.or_zero] at ih; exact ih)
    · skip
      intro x3
      refine xA.iload_n (i := 2) rfl rfl rfl rfl ?_
      refine xA.aload_n (i := 0) rfl rfl rfl rfl ?_
      refine xA.getI rfl f9_105 rfl rfl rfl ?_
      refine xA.topi (hpp.1) ?_
      refine xA.icmp_ge (tgt := 48) rfl rfl rfl (fun h9 => ?_) (fun h9 => ?_)
      · refine xA.iload_n (i := 1) rfl rfl rfl rfl ?_
        exact xA.iret rfl rfl rfl ⟨rfl, rfl⟩
      · exact absurd (nI_le (Nat.le_refl _) (by omega)) h9
  refine xA.iconst (v := 0) rfl (by decide) rfl ?_
  refine xA.istore_n (i := 1) (L' := [_, _, _, _]) rfl rfl (Nat.le_of_ble_eq_true rfl) rfl rfl ?_
  refine xA.iconst (v := 0) rfl (by decide) rfl ?_
  refine xA.istore_n (i := 2) (L' := [_, _, _, _]) rfl rfl (Nat.le_of_ble_eq_true rfl) rfl rfl ?_
  exact loop 0 (Nat.zero_le _) _
def aBetween (s : sS) (a b : Int32) : Int32 := if rg a 6 ∧ rg b 6 ∧ ¬ a = b then (if sHr s = 0 then -103 else (if hD (sH s) (a.toNatClampNeg * 6 + b.toNatClampNeg) = 0 then 0 else 1) + (if (hSr (sH s) a.toNatClampNeg).testBit b.toNatClampNeg = true then 2 else 0)) else -101
def aCount (s : sS) (w : Int32) : Int32 := if w = 0 then (if sHr s = 0 then 0 else nI (hNd (sH s))) else if w = 1 then (if sHr s = 0 then 0 else nI (hNs (sH s))) else if w = 2 then nI (sP s) else if w = 3 then nI (sTk s).1 else if w = 4 then nI (sGl s).1 else if w = 5 then nI (sN s) else if w = 6 then nI (sHr s) else if w = 7 then nI (sSd s) else if w = 8 then (if sHr s = 0 then 0 else nI (hBa (sH s))) else if w = 9 then (if sHr s = 0 then -1 else nI (hLo (sH s))) else -102
theorem hr_pos {S : Nat → Nat → Int32} {hr : Nat} {h : hS} (hho : hsC S hr h) : (0 : Int32) < S 0 11 ↔ ¬ hr = 0 := by
  rw [hho.1, Int32.lt_iff_toInt_lt, Int32.toInt_zero, nI_toInt (by have := hho.2.1; omega)]
  omega
theorem hsC.f {S : Nat → Nat → Int32} {hr : Nat} {h : hS} (hho : hsC S hr h) : S 3 2 = (if hr = 0 then 0 else nI (hNd h)) ∧ S 3 3 = (if hr = 0 then 0 else nI (hNs h)) ∧ S 3 5 = (if hr = 0 then 0 else nI (hBa h)) ∧ S 3 4 = (if hr = 0 then -1 else nI (hLo h)) := by
  by_cases z : hr = 0
  · simp only [z, if_true]; exact ⟨(hho.2.2.1 z).1, (hho.2.2.1 z).2.1, (hho.2.2.1 z).2.2.2, (hho.2.2.1 z).2.2.1⟩
  · simp only [z, if_false]
    have := hho.2.2.2 (by omega)
    exact ⟨this.1.1.2.1, this.1.1.2.2.1, this.1.1.2.2.2.2.1 this.1.2.2, this.1.1.2.2.2.1 (by have := this.1.2.2; omega)⟩

set_option maxRecDepth 100000 in
set_option maxHeartbeats 400000 in
theorem c_X9_between (d : Nat) (S : Nat → Nat → Int32) (G : Nat → Nat → Int64) (s : sS) (hc : CS S s) (a b : Int32) : xR τ (d + 2) mX9_between [.ref 0, .int a, .int b] S G (some (.int (aBetween s a b))) S G := by
  obtain ⟨hpg, hho, hpp, htk, hgl, hsd, him, hno⟩ := hc
  refine xC.of okX9_between (Nat.le_of_ble_eq_true rfl) (L := [_, _, _, _]) rfl ?_
  refine xA.iload_n (i := 1) rfl rfl rfl rfl ?_
  refine xA.callSi (As := [_]) rfl k9_116 okX9_isRoom rfl rfl (Nat.le_of_ble_eq_true rfl) (c_X9_isRoom (d + 1) _ G _) rfl rfl ?_
  refine xA.if_eq (tgt := 19) rfl rfl rfl (fun h4 => ?_) (fun h4 => ?_)
  · rw [xb_eq0] at h4
    refine xA.bipush (v := (-101)) rfl (by decide) rfl ?_
    exact xA.iret rfl rfl rfl ⟨by rw [aBetween, if_neg (by rintro ⟨q1, q2, q3⟩; first | exact h4 q1 | exact h11 q2 | exact q3 h16)], rfl⟩
  · rw [xb_ne0] at h4
    refine xA.iload_n (i := 2) rfl rfl rfl rfl ?_
    refine xA.callSi (As := [_]) rfl k9_116 okX9_isRoom rfl rfl (Nat.le_of_ble_eq_true rfl) (c_X9_isRoom (d + 1) _ G _) rfl rfl ?_
    refine xA.if_eq (tgt := 19) rfl rfl rfl (fun h11 => ?_) (fun h11 => ?_)
    · rw [xb_eq0] at h11
      refine xA.bipush (v := (-101)) rfl (by decide) rfl ?_
      exact xA.iret rfl rfl rfl ⟨by rw [aBetween, if_neg (by rintro ⟨q1, q2, q3⟩; first | exact h4 q1 | exact h11 q2 | exact q3 h16)], rfl⟩
    · rw [xb_ne0] at h11
      refine xA.iload_n (i := 1) rfl rfl rfl rfl ?_
      refine xA.iload_n (i := 2) rfl rfl rfl rfl ?_
      refine xA.icmp_ne (tgt := 22) rfl rfl rfl (fun h16 => ?_) (fun h16 => ?_)
      · refine xA.aload_n (i := 0) rfl rfl rfl rfl ?_
        refine xA.callVi (As := []) rfl k9_120 okX9_hasHouse rfl rfl rfl rfl (Nat.le_of_ble_eq_true rfl) (c_X9_hasHouse (d + 1) _ G) rfl rfl ?_
        refine xA.if_ne (tgt := 32) rfl rfl rfl (fun h26 => ?_) (fun h26 => ?_)
        · rw [xb_ne0] at h26
          obtain ⟨i, hi, rfl⟩ := rg_nI h4 (by omega)
          obtain ⟨j, hj, rfl⟩ := rg_nI h11 (by omega)
          have hci : (nI i).toNatClampNeg = i := nI_clamp (by omega)
          have hcj : (nI j).toNatClampNeg = j := nI_clamp (by omega)
          rw [hr_pos hho] at h26
          have hsd3 := (hho.2.2.2 (by omega)).1
          have eD : S (3 + 1) (i * 6 + j) = 0 ↔ hD (sH s) (i * 6 + j) = 0 := by
            rw [hsd3.1.2.2.2.2.2.2.1 _ (by omega)]; exact nI_eq (b := 0) (by have := hsd3.D (i * 6 + j) (by omega); omega) (by omega)
          have eS : bt (S (3 + 2) i) (nI j) ↔ (hSr (sH s) i).testBit j = true := by
            rw [hsd3.1.2.2.2.2.2.2.2 _ hi]; exact bt_nI _ (hsd3.2.1.2.2.2.2.2.2.2.2.1 i) j hj
          refine xA.aload_n (i := 0) rfl rfl rfl rfl ?_
          refine xA.getR rfl f9_19 rfl rfl rfl rfl ?_
          refine xA.iload_n (i := 1) rfl rfl rfl rfl ?_
          refine xA.iload_n (i := 2) rfl rfl rfl rfl ?_
          refine xA.callVi (As := [_, _]) rfl k9_123 okX1_doorBetween rfl rfl rfl rfl (Nat.le_of_ble_eq_true rfl) (c_X1_doorBetween d _ G 3 iH3 i j hi hj) rfl rfl ?_
          refine xA.iconst (v := (-1)) rfl (by decide) rfl ?_
          refine xA.icmp_ne (tgt := 49) rfl rfl rfl (fun h42 => ?_) (fun h42 => ?_)
          · rw [i32_sub1, eD] at h42
            refine xA.iconst (v := 1) rfl (by decide) rfl ?_
            refine xA.istore_n (i := 3) (L' := [_, _, _, _]) rfl rfl (Nat.le_of_ble_eq_true rfl) rfl rfl ?_
            refine xA.aload_n (i := 0) rfl rfl rfl rfl ?_
            refine xA.getR rfl f9_19 rfl rfl rfl rfl ?_
            refine xA.iload_n (i := 1) rfl rfl rfl rfl ?_
            refine xA.iload_n (i := 2) rfl rfl rfl rfl ?_
            refine xA.callVi (As := [_, _]) rfl k9_127 okX1_isSeenFrom rfl rfl rfl rfl (Nat.le_of_ble_eq_true rfl) (c_X1_isSeenFrom d _ G 3 iH3 i j hi hj) rfl rfl ?_
            refine xA.if_eq (tgt := 69) rfl rfl rfl (fun h60 => ?_) (fun h60 => ?_)
            · rw [xb_eq0] at h60
              refine xA.iload_n (i := 3) rfl rfl rfl rfl ?_
              exact xA.iret rfl rfl rfl ⟨by rw [aBetween, if_pos ⟨h4, h11, h16⟩, if_neg h26, hci, hcj]; first | (rw [if_pos h42, if_pos (eS.mp h60)] <;> rfl) | (rw [if_neg h42, if_pos (eS.mp h60)] <;> rfl) | (rw [if_pos h42, if_neg (fun q => h60 (eS.mpr q))] <;> rfl) | (rw [if_neg h42, if_neg (fun q => h60 (eS.mpr q))] <;> rfl), rfl⟩
            · rw [xb_ne0] at h60
              refine xA.iload_n (i := 3) rfl rfl rfl rfl ?_
              refine xA.iconst (v := 2) rfl (by decide) rfl ?_
              refine xA.iadd rfl rfl ?_
              refine xA.goto (q := 70) rfl rfl ?_
              exact xA.iret rfl rfl rfl ⟨by rw [aBetween, if_pos ⟨h4, h11, h16⟩, if_neg h26, hci, hcj]; first | (rw [if_pos h42, if_pos (eS.mp h60)] <;> rfl) | (rw [if_neg h42, if_pos (eS.mp h60)] <;> rfl) | (rw [if_pos h42, if_neg (fun q => h60 (eS.mpr q))] <;> rfl) | (rw [if_neg h42, if_neg (fun q => h60 (eS.mpr q))] <;> rfl), rfl⟩
          · rw [i32_sub1, eD] at h42
            refine xA.iconst (v := 0) rfl (by decide) rfl ?_
            refine xA.goto (q := 50) rfl rfl ?_
            refine xA.istore_n (i := 3) (L' := [_, _, _, _]) rfl rfl (Nat.le_of_ble_eq_true rfl) rfl rfl ?_
            refine xA.aload_n (i := 0) rfl rfl rfl rfl ?_
            refine xA.getR rfl f9_19 rfl rfl rfl rfl ?_
            refine xA.iload_n (i := 1) rfl rfl rfl rfl ?_
            refine xA.iload_n (i := 2) rfl rfl rfl rfl ?_
            refine xA.callVi (As := [_, _]) rfl k9_127 okX1_isSeenFrom rfl rfl rfl rfl (Nat.le_of_ble_eq_true rfl) (c_X1_isSeenFrom d _ G 3 iH3 i j hi hj) rfl rfl ?_
            refine xA.if_eq (tgt := 69) rfl rfl rfl (fun h60 => ?_) (fun h60 => ?_)
            · rw [xb_eq0] at h60
              refine xA.iload_n (i := 3) rfl rfl rfl rfl ?_
              exact xA.iret rfl rfl rfl ⟨by rw [aBetween, if_pos ⟨h4, h11, h16⟩, if_neg h26, hci, hcj]; first | (rw [if_pos h42, if_pos (eS.mp h60)] <;> rfl) | (rw [if_neg h42, if_pos (eS.mp h60)] <;> rfl) | (rw [if_pos h42, if_neg (fun q => h60 (eS.mpr q))] <;> rfl) | (rw [if_neg h42, if_neg (fun q => h60 (eS.mpr q))] <;> rfl), rfl⟩
            · rw [xb_ne0] at h60
              refine xA.iload_n (i := 3) rfl rfl rfl rfl ?_
              refine xA.iconst (v := 2) rfl (by decide) rfl ?_
              refine xA.iadd rfl rfl ?_
              refine xA.goto (q := 70) rfl rfl ?_
              exact xA.iret rfl rfl rfl ⟨by rw [aBetween, if_pos ⟨h4, h11, h16⟩, if_neg h26, hci, hcj]; first | (rw [if_pos h42, if_pos (eS.mp h60)] <;> rfl) | (rw [if_neg h42, if_pos (eS.mp h60)] <;> rfl) | (rw [if_pos h42, if_neg (fun q => h60 (eS.mpr q))] <;> rfl) | (rw [if_neg h42, if_neg (fun q => h60 (eS.mpr q))] <;> rfl), rfl⟩
        · rw [xb_eq0] at h26
          refine xA.bipush (v := (-103)) rfl (by decide) rfl ?_
          exact xA.iret rfl rfl rfl ⟨by rw [hr_pos hho] at h26; rw [aBetween, if_pos ⟨h4, h11, h16⟩, if_pos (by omega)], rfl⟩
      · refine xA.bipush (v := (-101)) rfl (by decide) rfl ?_
        exact xA.iret rfl rfl rfl ⟨by rw [aBetween, if_neg (by rintro ⟨q1, q2, q3⟩; first | exact h4 q1 | exact h11 q2 | exact q3 h16)], rfl⟩
set_option maxRecDepth 100000 in
set_option maxHeartbeats 400000 in
theorem c_X9_count (d : Nat) (S : Nat → Nat → Int32) (G : Nat → Nat → Int64) (s : sS) (hc : CS S s) (w : Int32) : xR τ (d + 1) mX9_count [.ref 0, .int w] S G (some (.int (aCount s w))) S G := by
  obtain ⟨hpg, hho, hpp, htk, hgl, hsd, him, hno⟩ := hc
  refine xC.of okX9_count (Nat.le_of_ble_eq_true rfl) (L := [_, _]) rfl ?_
  refine xA.iload_n (i := 1) rfl rfl rfl rfl ?_
  by_cases h1_0 : w = 0
  · subst h1_0
    refine xA.tsIn (q := 56) rfl (by decide) (by decide) rfl rfl ?_
    refine xA.aload_n (i := 0) rfl rfl rfl rfl ?_
    refine xA.getR rfl f9_19 rfl rfl rfl rfl ?_
    refine xA.callVi (As := []) rfl k9_113 okX1_doors rfl rfl rfl rfl (Nat.le_of_ble_eq_true rfl) (c_X1_doors d _ G 3 iH3) rfl rfl ?_
    refine xA.topi hho.f.1 ?_
    exact xA.iret rfl rfl rfl ⟨rfl, rfl⟩
  by_cases h1_1 : w = 1
  · subst h1_1
    refine xA.tsIn (q := 64) rfl (by decide) (by decide) rfl rfl ?_
    refine xA.aload_n (i := 0) rfl rfl rfl rfl ?_
    refine xA.getR rfl f9_19 rfl rfl rfl rfl ?_
    refine xA.callVi (As := []) rfl k9_270 okX1_sights rfl rfl rfl rfl (Nat.le_of_ble_eq_true rfl) (c_X1_sights d _ G 3 iH3) rfl rfl ?_
    refine xA.topi hho.f.2.1 ?_
    exact xA.iret rfl rfl rfl ⟨rfl, rfl⟩
  by_cases h1_2 : w = 2
  · subst h1_2
    refine xA.tsIn (q := 72) rfl (by decide) (by decide) rfl rfl ?_
    refine xA.aload_n (i := 0) rfl rfl rfl rfl ?_
    refine xA.getI rfl f9_105 rfl rfl rfl ?_
    refine xA.topi (hpp.1) ?_
    exact xA.iret rfl rfl rfl ⟨rfl, rfl⟩
  by_cases h1_3 : w = 3
  · subst h1_3
    refine xA.tsIn (q := 77) rfl (by decide) (by decide) rfl rfl ?_
    refine xA.aload_n (i := 0) rfl rfl rfl rfl ?_
    refine xA.getR rfl f9_42 rfl rfl rfl rfl ?_
    refine xA.callVi (As := []) rfl k9_214 okX7_size rfl rfl rfl rfl (Nat.le_of_ble_eq_true rfl) (c_X7_size d _ G 12 iT12) rfl rfl ?_
    refine xA.topi htk.1 ?_
    exact xA.iret rfl rfl rfl ⟨rfl, rfl⟩
  by_cases h1_4 : w = 4
  · subst h1_4
    refine xA.tsIn (q := 85) rfl (by decide) (by decide) rfl rfl ?_
    refine xA.aload_n (i := 0) rfl rfl rfl rfl ?_
    refine xA.getR rfl f9_49 rfl rfl rfl rfl ?_
    refine xA.callVi (As := []) rfl k9_235 okX0_size rfl rfl rfl rfl (Nat.le_of_ble_eq_true rfl) (c_X0_size d _ G 16 iG16) rfl rfl ?_
    refine xA.topi hgl.1 ?_
    exact xA.iret rfl rfl rfl ⟨rfl, rfl⟩
  by_cases h1_5 : w = 5
  · subst h1_5
    refine xA.tsIn (q := 93) rfl (by decide) (by decide) rfl rfl ?_
    refine xA.aload_n (i := 0) rfl rfl rfl rfl ?_
    refine xA.getR rfl f9_12 rfl rfl rfl rfl ?_
    refine xA.callVi (As := []) rfl k9_79 okX4_length rfl rfl rfl rfl (Nat.le_of_ble_eq_true rfl) (c_X4_length d _ G) rfl rfl ?_
    refine xA.topi hpg.1 ?_
    exact xA.iret rfl rfl rfl ⟨rfl, rfl⟩
  by_cases h1_6 : w = 6
  · subst h1_6
    refine xA.tsIn (q := 101) rfl (by decide) (by decide) rfl rfl ?_
    refine xA.aload_n (i := 0) rfl rfl rfl rfl ?_
    refine xA.getI rfl f9_101 rfl rfl rfl ?_
    refine xA.topi (hho.1) ?_
    exact xA.iret rfl rfl rfl ⟨rfl, rfl⟩
  by_cases h1_7 : w = 7
  · subst h1_7
    refine xA.tsIn (q := 106) rfl (by decide) (by decide) rfl rfl ?_
    refine xA.aload_n (i := 0) rfl rfl rfl rfl ?_
    refine xA.getI rfl f9_217 rfl rfl rfl ?_
    refine xA.topi (hsd.1) ?_
    exact xA.iret rfl rfl rfl ⟨rfl, rfl⟩
  by_cases h1_8 : w = 8
  · subst h1_8
    refine xA.tsIn (q := 111) rfl (by decide) (by decide) rfl rfl ?_
    refine xA.aload_n (i := 0) rfl rfl rfl rfl ?_
    refine xA.getR rfl f9_19 rfl rfl rfl rfl ?_
    refine xA.callVi (As := []) rfl k9_273 okX1_back rfl rfl rfl rfl (Nat.le_of_ble_eq_true rfl) (c_X1_back d _ G 3 iH3) rfl rfl ?_
    refine xA.topi hho.f.2.2.1 ?_
    exact xA.iret rfl rfl rfl ⟨rfl, rfl⟩
  by_cases h1_9 : w = 9
  · subst h1_9
    refine xA.tsIn (q := 119) rfl (by decide) (by decide) rfl rfl ?_
    refine xA.aload_n (i := 0) rfl rfl rfl rfl ?_
    refine xA.getR rfl f9_19 rfl rfl rfl rfl ?_
    refine xA.callVi (As := []) rfl k9_276 okX1_lowRoom rfl rfl rfl rfl (Nat.le_of_ble_eq_true rfl) (c_X1_lowRoom d _ G 3 iH3) rfl rfl ?_
    refine xA.topi hho.f.2.2.2 ?_
    exact xA.iret rfl rfl rfl ⟨rfl, rfl⟩
  refine xA.tsOut (q := 127) rfl (ts_out10 h1_0 h1_1 h1_2 h1_3 h1_4 h1_5 h1_6 h1_7 h1_8 h1_9) rfl ?_
  refine xA.bipush (v := (-102)) rfl (by decide) rfl ?_
  exact xA.iret rfl rfl rfl ⟨by simp only [aCount, h1_0, h1_1, h1_2, h1_3, h1_4, h1_5, h1_6, h1_7, h1_8, h1_9, if_false], rfl⟩
end
section
variable {τ : List xSh}
/-! ===== an operation of the class; letters ===== -/
/-- an operation of the class: what it answers, the state behind it; the reference's cells stay -/
def opC (τ : List xSh) (d : Nat) (M : xM) (args : List Value) (s : sS) (v : Value) (s' : sS) : Prop := ∀ S G, CS S s → xC d M args ((σF τ), S, G) 0 0 (fun r h' => ∃ S', h' = ((σF τ), S', G) ∧ r = some v ∧ CS S' s' ∧ ∀ j, 54 ≤ j → S' j = S j)
theorem opC.pure {d : Nat} {M : xM} {args : List Value} {s : sS} {v : Value} (h : ∀ S G, CS S s → xR τ d M args S G (some v) S G) : opC τ d M args s v s := fun S G hc => (h S G hc).mono (fun r h' q => ⟨S, q.2, q.1, hc, fun _ _ => rfl⟩)
theorem opC.upd {d : Nat} {M : xM} {args : List Value} {s s' : sS} {v : Value} (h : ∀ S G, CS S s → ∃ S', xR τ d M args S G (some v) S' G ∧ CS S' s' ∧ ∀ j, 54 ≤ j → S' j = S j) : opC τ d M args s v s' := fun S G hc => by
  obtain ⟨S', h1, h2, h3⟩ := h S G hc
  exact h1.mono (fun r h' q => ⟨S', q.2, q.1, h2, h3⟩)
theorem hsC.to {S S' : Nat → Nat → Int32} {hr : Nat} {h : hS} (hh : hsC S hr h) (h0 : S' 0 11 = S 0 11) (h3 : S' 3 = S 3) (h4 : S' 4 = S 4) (h5 : S' 5 = S 5) : hsC S' hr h :=
  ⟨h0.trans hh.1, hh.2.1, fun z => by rw [h3]; exact hh.2.2.1 z, fun z => ⟨(hh.2.2.2 z).1.to h3 h4 h5, (hh.2.2.2 z).2⟩⟩
theorem lC.to {S S' : Nat → Nat → Int32} {k : Nat} {l : lS} (hl : lC S k l) (h1 : S' k = S k) (h2 : S' (k + 1) = S (k + 1)) : lC S' k l := ⟨by rw [h1]; exact hl.1, by rw [h1]; exact hl.2.1, by rw [h1]; exact hl.2.2.1, fun i hi => by rw [h2]; exact hl.2.2.2 i hi⟩
theorem ppC.to {S S' : Nat → Nat → Int32} {h : hS} {P : Nat} {kd : Nat → Nat} {L : Nat → lS} (hp : ppC S h P kd L) (h0 : S' 0 10 = S 0 10) (h1 : ∀ j, 42 ≤ j → j < 54 → S' j = S j) : ppC S' h P kd L :=
  ⟨h0.trans hp.1, hp.2.1, fun p hpp => by
    have h4 := hp.2.1
    obtain ⟨a1, a2, a3, a4⟩ := hp.2.2 p hpp
    exact ⟨by rw [h1 _ (by omega) (by omega)]; exact a1, a2, a3.to (h1 _ (by omega) (by omega)) (h1 _ (by omega) (by omega)), a4⟩⟩
theorem tkC.to {S S' : Nat → Nat → Int32} {k : Nat} {t : tS} (ht : tkC S k t) (h0 : S' k = S k) (h1 : S' (k + 1) = S (k + 1)) (h2 : S' (k + 2) = S (k + 2)) (h3 : S' (k + 3) = S (k + 3)) : tkC S' k t := ⟨by rw [h0]; exact ht.1, ht.2.1, fun i hi => by rw [h1, h2, h3]; exact ht.2.2 i hi⟩
theorem glC.to {S S' : Nat → Nat → Int32} {k : Nat} {g : gS} (ht : glC S k g) (h0 : S' k = S k) (h1 : S' (k + 1) = S (k + 1)) : glC S' k g := ⟨by rw [h0]; exact ht.1, ht.2.1, fun i hi => by rw [h1]; exact ht.2.2 i hi⟩
theorem imC.to {S S' : Nat → Nat → Int32} {h : hS} {im : iS} (hi : imC S h im) (h1 : ∀ j, 18 ≤ j → j < 38 → S' j = S j) : imC S' h im :=
  ⟨by rw [h1 18 (by omega) (by omega)]; exact hi.1, hi.2.1, fun z => by
    obtain ⟨a1, a2, a3, a4, a5⟩ := hi.2.2 z
    exact ⟨by rw [h1 18 (by omega) (by omega)]; exact a1, a2, fun p hp => ⟨(a3 p hp).1.to (h1 _ (by omega) (by omega)) (h1 _ (by omega) (by omega)), (a3 p hp).2⟩, a4.to (h1 _ (by omega) (by omega)) (h1 _ (by omega) (by omega)) (h1 _ (by omega) (by omega)) (h1 _ (by omega) (by omega)), a5.to (h1 _ (by omega) (by omega)) (h1 _ (by omega) (by omega))⟩⟩
/-- the drafts, the search, the walk are nobody's -/
theorem CS.scr {S S' : Nat → Nat → Int32} {s : sS} (hc : CS S s) (h : ∀ j, ¬ (6 ≤ j ∧ j < 11) → ¬ (38 ≤ j ∧ j < 42) → S' j = S j) : CS S' s := by
  obtain ⟨hpg, hho, hpp, htk, hgl, hsd, him, hno⟩ := hc
  exact ⟨hpg.to (h 1 (by omega) (by omega)) (h 2 (by omega) (by omega)), hho.to (by rw [h 0 (by omega) (by omega)]) (h 3 (by omega) (by omega)) (h 4 (by omega) (by omega)) (h 5 (by omega) (by omega)), hpp.to (by rw [h 0 (by omega) (by omega)]) (fun j h1 h2 => h j (by omega) (by omega)), htk.to (h _ (by omega) (by omega)) (h _ (by omega) (by omega)) (h _ (by omega) (by omega)) (h _ (by omega) (by omega)), hgl.to (h _ (by omega) (by omega)) (h _ (by omega) (by omega)), ⟨by rw [h 0 (by omega) (by omega)]; exact hsd.1, hsd.2⟩, him.to (fun j h1 h2 => h j (by omega) (by omega)), hno⟩
/-- the page alone changes -/
theorem CS.page {S S' : Nat → Nat → Int32} {s : sS} (hc : CS S s) (pg : Nat → Nat) (n : Nat) (hp : pgC S' pg n) (h : ∀ j, ¬ (1 ≤ j ∧ j < 3) → S' j = S j) : CS S' (pg, n, s.2.2) := by
  obtain ⟨hpg, hho, hpp, htk, hgl, hsd, him, hno⟩ := hc
  exact ⟨hp, hho.to (by rw [h 0 (by omega)]) (h 3 (by omega)) (h 4 (by omega)) (h 5 (by omega)), hpp.to (by rw [h 0 (by omega)]) (fun j h1 h2 => h j (by omega)), htk.to (h _ (by omega)) (h _ (by omega)) (h _ (by omega)) (h _ (by omega)), hgl.to (h _ (by omega)) (h _ (by omega)), ⟨by rw [h 0 (by omega)]; exact hsd.1, hsd.2⟩, him.to (fun j h1 h2 => h j (by omega)), hno⟩
/-! bytes -/
def byN (w : Int64) (i : Nat) : Nat := (w.toUInt64.toNat >>> (8 * i)) % 256
theorem byN_lt (w : Int64) (i : Nat) : byN w i < 256 := Nat.mod_lt _ (by decide)
theorem by_and (u : UInt64) : (u.toInt64 &&& 255).toInt32 = nI (u.toNat % 256) := by
  have e : u.toInt64 &&& 255 = lN (u.toNat % 256) := by
    apply Int64.toBitVec_inj.mp
    apply BitVec.eq_of_toNat_eq
    rw [Int64.toBitVec_and, BitVec.toNat_and]
    have h1 : (u.toInt64).toBitVec.toNat = u.toNat := rfl
    have h2 : ((255 : Int64)).toBitVec.toNat = 2 ^ 8 - 1 := by decide
    rw [h1, h2, Nat.and_two_pow_sub_one_eq_mod]
    have h3 : u.toNat % 2 ^ 8 < 256 := Nat.mod_lt _ (by decide)
    show _ = (BitVec.ofNat 64 (u.toNat % 256)).toNat
    rw [BitVec.toNat_ofNat]
    omega
  rw [e]
  have h2 : u.toNat % 256 < 256 := Nat.mod_lt _ (by decide)
  rw [i32_ext, Int64.toInt_toInt32, lN_toInt (by omega), nI_toInt (by omega), Int.bmod_def]
  split <;> omega
theorem by_shift (w : Int64) : ∀ i, i < 8 → ((w.toUInt64 >>> ((8 * nI i).toInt64.toUInt64 &&& Int64.toUInt64 63)).toInt64 &&& 255).toInt32 = nI (byN w i) := by
  intro i hi
  rw [by_and, byN, UInt64.toNat_shiftRight]
  have e : ∀ i, i < 8 → ((8 * nI i).toInt64.toUInt64 &&& Int64.toUInt64 63).toNat % 64 = 8 * i := by decide +kernel
  rw [e i hi]

set_option maxRecDepth 100000 in
set_option maxHeartbeats 400000 in
theorem c_X4_byteOf (d : Nat) (S : Nat → Nat → Int32) (G : Nat → Nat → Int64) (w : Int64) (i : Nat) (hi : i < 8) : xR τ d mX4_byteOf [.long w, .int (nI i)] S G (some (.int (nI (byN w i)))) S G := by
  refine xC.of okX4_byteOf (Nat.le_of_ble_eq_true rfl) (L := [_, _, _]) rfl ?_
  refine xA.lload_n (i := 0) rfl rfl rfl rfl ?_
  refine xA.bipush (v := 8) rfl (by decide) rfl ?_
  refine xA.iload_n (i := 2) rfl rfl rfl rfl ?_
  refine xA.imul rfl rfl ?_
  refine xA.lushr rfl rfl ?_
  refine xA.ldc2 (v := 255) rfl w624 rfl ?_
  refine xA.land rfl rfl ?_
  refine xA.l2i rfl rfl ?_
  refine xA.topi (by_shift w i hi) ?_
  exact xA.iret rfl rfl rfl ⟨rfl, rfl⟩
/-- letters told: how many, whether a 0 came; none: they are none -/
def ltS (b : Nat → Nat) : Nat → Option (Nat × Bool)
  | 0 => some (0, false)
  | i + 1 => (ltS b i).bind (fun q => if 126 < b i ∨ (q.2 = true ∧ ¬ b i = 0) then none else some (q.1 + (if b i = 0 then 0 else 1), decide (b i = 0)))
theorem ltS_dead {b : Nat → Nat} {i n : Nat} (h : ltS b i = none) (hi : i ≤ n) : ltS b n = none := by
  have key : ∀ t, ltS b (i + t) = none := by
    intro t
    induction t with
    | zero => exact h
    | succ t ih => show (ltS b (i + t)).bind _ = none; rw [ih]; rfl
  have e : n = i + (n - i) := by omega
  rw [e]; exact key _
/-- so many letters, then none -/
theorem ltS_spec {b : Nat → Nat} : ∀ i q, ltS b i = some q → q.1 ≤ i ∧ (∀ j, j < q.1 → ¬ b j = 0 ∧ b j ≤ 126) ∧ (∀ j, q.1 ≤ j → j < i → b j = 0) ∧ (q.2 = true ↔ q.1 < i) := by
  intro i
  induction i with
  | zero => intro q h; cases h; exact ⟨Nat.le_refl 0, fun j hj => absurd hj (Nat.not_lt_zero _), fun j _ hj => absurd hj (Nat.not_lt_zero _), by simp⟩
  | succ i ih =>
    intro q h
    obtain ⟨p, hp, h2⟩ := Option.bind_eq_some_iff.mp h
    obtain ⟨a1, a2, a3, a4⟩ := ih p hp
    split at h2
    · cases h2
    · rename_i hb
      cases h2
      by_cases hz : b i = 0
      · simp only [hz, if_true, Nat.add_zero, decide_true, true_iff]
        refine ⟨by omega, a2, fun j h1 h2 => ?_, by omega⟩
        by_cases e : j = i
        · subst e; exact hz
        · exact a3 j h1 (by omega)
      · have hpf : ¬ p.2 = true := fun z => hb (Or.inr ⟨z, hz⟩)
        have hpi : p.1 = i := by
          have := mt a4.mpr hpf
          omega
        simp only [hz, if_false, decide_false, Bool.false_eq_true, false_iff]
        refine ⟨by omega, fun j hj => ?_, fun j h1 h2 => by omega, by omega⟩
        by_cases e : j = i
        · subst e; exact ⟨hz, by omega⟩
        · exact a2 j (by omega)
def wN (w : Int64) : Option Nat := (ltS (byN w) 8).map (fun q => q.1)

set_option maxRecDepth 100000 in
set_option maxHeartbeats 400000 in
theorem c_X4_lettersIn (d : Nat) (S : Nat → Nat → Int32) (G : Nat → Nat → Int64) (w : Int64) : xR τ (d + 1) mX4_lettersIn [.long w] S G (some (.int (oI (wN w)))) S G := by
  refine xC.of okX4_lettersIn (Nat.le_of_ble_eq_true rfl) (L := [_, _, _, _, _, _]) rfl ?_
  have loop : ∀ i, i ≤ 8 → ∀ q, ltS (byN w) i = some q → ∀ x5 : Option Value, xA none (d + 1) mX4_lettersIn 0 0 0 0 7 [some (.long w), none, some (.int (nI q.1)), some (.int (xb (q.2 = true))), some (.int (nI i)), x5] [] ((σF τ), S, G) (fun r' h' => r' = (some (.int (oI (wN w)))) ∧ h' = ((σF τ), S, G)) := by
    refine xloop 8 (fun i hi ih => ?_) ?_
    · intro q hq x5
      refine xA.iload rfl rfl rfl ?_
      refine xA.bipush (v := 8) rfl (by decide) rfl ?_
      refine xA.icmp_ge (tgt := 69) rfl rfl rfl (fun h11 => ?_) (fun h11 => ?_)
      · exact absurd h11 (nI_ge (b := 8) hi (by omega))
      · refine xA.lload_n (i := 0) rfl rfl rfl rfl ?_
        refine xA.iload rfl rfl rfl ?_
        refine xA.callSi (As := [_, _]) rfl k4_15 okX4_byteOf rfl rfl (Nat.le_of_ble_eq_true rfl) (c_X4_byteOf d _ G w i hi) rfl rfl ?_
        refine xA.istore (L' := [_, _, _, _, _, _]) rfl (Nat.le_of_ble_eq_true rfl) rfl rfl ?_
        refine xA.iload rfl rfl rfl ?_
        refine xA.bipush (v := 126) rfl (by decide) rfl ?_
        have hb := byN_lt w i
        refine xA.icmp_gt (tgt := 38) rfl rfl rfl (fun h26 => ?_) (fun h26 => ?_)
        · have e26 : 126 < byN w i := (nI_ltI (a := 126) (by omega) (by omega)).mp h26
          refine xA.iconst (v := (-1)) rfl (by decide) rfl ?_
          exact xA.iret rfl rfl rfl ⟨by rw [wN, ltS_dead (i := i + 1) (by rw [ltS, hq]; show (if 126 < byN w i ∨ (q.2 = true ∧ ¬ byN w i = 0) then _ else _) = none; rw [if_pos (by first | exact Or.inl e26 | exact Or.inr ⟨h30, e35⟩)]) (by omega)]; rfl, rfl⟩
        · have e26 : ¬ 126 < byN w i := mt (nI_ltI (a := 126) (by omega) (by omega)).mpr h26
          refine xA.iload_n (i := 3) rfl rfl rfl rfl ?_
          refine xA.if_eq (tgt := 40) rfl rfl rfl (fun h30 => ?_) (fun h30 => ?_)
          · rw [xb_eq0] at h30
            refine xA.iload rfl rfl rfl ?_
            refine xA.if_ne (tgt := 49) rfl rfl rfl (fun h42 => ?_) (fun h42 => ?_)
            · have e42 : ¬ byN w i = 0 := fun z => h42 (by rw [z]; rfl)
              refine xA.iconst (v := 0) rfl (by decide) rfl ?_
              refine xA.istore_n (i := 3) (L' := [_, _, _, _, _, _]) rfl rfl (Nat.le_of_ble_eq_true rfl) rfl rfl ?_
              refine xA.iload_n (i := 2) rfl rfl rfl rfl ?_
              refine xA.iload_n (i := 3) rfl rfl rfl rfl ?_
              refine xA.if_eq (tgt := 60) rfl rfl rfl (fun h53 => ?_) (fun h53 => ?_)
              · have e53 : ¬ byN w i = 0 := by first | exact e42 | exact absurd h53 (by decide)
                refine xA.iconst (v := 1) rfl (by decide) rfl ?_
                refine xA.iadd rfl rfl ?_
                refine xA.topi ((show _ = nI (q.1 + (if byN w i = 0 then 0 else 1)) from by first | (rw [if_pos e53]; exact nI_add _ 0) | (rw [if_neg e53]; exact nI_1 _))) ?_
                refine xA.istore_n (i := 2) (L' := [_, _, _, _, _, _]) rfl rfl (Nat.le_of_ble_eq_true rfl) rfl rfl ?_
                refine xA.iinc (L' := [_, _, _, _, _, _]) rfl rfl (nI_1 i) rfl rfl ?_
                refine xA.goto (q := 7) rfl rfl ?_
                have hn : ltS (byN w) (i + 1) = some (q.1 + (if byN w i = 0 then 0 else 1), decide (byN w i = 0)) := by
                  rw [ltS, hq]
                  show (if 126 < byN w i ∨ (q.2 = true ∧ ¬ byN w i = 0) then _ else _) = _
                  rw [if_neg (by rintro (z | ⟨z1, z2⟩); exact e26 z; first | exact h30 z1 | exact z2 e35)]
                have ih := ih _ hn (some (.int (nI (byN w i))))
                dsimp only at ih
                first
                | exact absurd e42 e53
                | exact absurd e53 e42
                | (rw [xb_t (decide_eq_true e53)] at ih; exact ih)
                | (rw [xb_f (by simpa using e53)] at ih; exact ih)
              · have e53 : byN w i = 0 := by first | exact e42 | exact absurd rfl h53
                refine xA.iconst (v := 0) rfl (by decide) rfl ?_
                refine xA.goto (q := 61) rfl rfl ?_
                refine xA.iadd rfl rfl ?_
                refine xA.topi ((show _ = nI (q.1 + (if byN w i = 0 then 0 else 1)) from by first | (rw [if_pos e53]; exact nI_add _ 0) | (rw [if_neg e53]; exact nI_1 _))) ?_
                refine xA.istore_n (i := 2) (L' := [_, _, _, _, _, _]) rfl rfl (Nat.le_of_ble_eq_true rfl) rfl rfl ?_
                refine xA.iinc (L' := [_, _, _, _, _, _]) rfl rfl (nI_1 i) rfl rfl ?_
                refine xA.goto (q := 7) rfl rfl ?_
                have hn : ltS (byN w) (i + 1) = some (q.1 + (if byN w i = 0 then 0 else 1), decide (byN w i = 0)) := by
                  rw [ltS, hq]
                  show (if 126 < byN w i ∨ (q.2 = true ∧ ¬ byN w i = 0) then _ else _) = _
                  rw [if_neg (by rintro (z | ⟨z1, z2⟩); exact e26 z; first | exact h30 z1 | exact z2 e35)]
                have ih := ih _ hn (some (.int (nI (byN w i))))
                dsimp only at ih
                first
                | exact absurd e42 e53
                | exact absurd e53 e42
                | (rw [xb_t (decide_eq_true e53)] at ih; exact ih)
                | (rw [xb_f (by simpa using e53)] at ih; exact ih)
            · have e42 : byN w i = 0 := (nI_eq (b := 0) (by omega) (by omega)).mp h42
              refine xA.iconst (v := 1) rfl (by decide) rfl ?_
              refine xA.goto (q := 50) rfl rfl ?_
              refine xA.istore_n (i := 3) (L' := [_, _, _, _, _, _]) rfl rfl (Nat.le_of_ble_eq_true rfl) rfl rfl ?_
              refine xA.iload_n (i := 2) rfl rfl rfl rfl ?_
              refine xA.iload_n (i := 3) rfl rfl rfl rfl ?_
              refine xA.if_eq (tgt := 60) rfl rfl rfl (fun h53 => ?_) (fun h53 => ?_)
              · have e53 : ¬ byN w i = 0 := by first | exact e42 | exact absurd h53 (by decide)
                refine xA.iconst (v := 1) rfl (by decide) rfl ?_
                refine xA.iadd rfl rfl ?_
                refine xA.topi ((show _ = nI (q.1 + (if byN w i = 0 then 0 else 1)) from by first | (rw [if_pos e53]; exact nI_add _ 0) | (rw [if_neg e53]; exact nI_1 _))) ?_
                refine xA.istore_n (i := 2) (L' := [_, _, _, _, _, _]) rfl rfl (Nat.le_of_ble_eq_true rfl) rfl rfl ?_
                refine xA.iinc (L' := [_, _, _, _, _, _]) rfl rfl (nI_1 i) rfl rfl ?_
                refine xA.goto (q := 7) rfl rfl ?_
                have hn : ltS (byN w) (i + 1) = some (q.1 + (if byN w i = 0 then 0 else 1), decide (byN w i = 0)) := by
                  rw [ltS, hq]
                  show (if 126 < byN w i ∨ (q.2 = true ∧ ¬ byN w i = 0) then _ else _) = _
                  rw [if_neg (by rintro (z | ⟨z1, z2⟩); exact e26 z; first | exact h30 z1 | exact z2 e35)]
                have ih := ih _ hn (some (.int (nI (byN w i))))
                dsimp only at ih
                first
                | exact absurd e42 e53
                | exact absurd e53 e42
                | (rw [xb_t (decide_eq_true e53)] at ih; exact ih)
                | (rw [xb_f (by simpa using e53)] at ih; exact ih)
              · have e53 : byN w i = 0 := by first | exact e42 | exact absurd rfl h53
                refine xA.iconst (v := 0) rfl (by decide) rfl ?_
                refine xA.goto (q := 61) rfl rfl ?_
                refine xA.iadd rfl rfl ?_
                refine xA.topi ((show _ = nI (q.1 + (if byN w i = 0 then 0 else 1)) from by first | (rw [if_pos e53]; exact nI_add _ 0) | (rw [if_neg e53]; exact nI_1 _))) ?_
                refine xA.istore_n (i := 2) (L' := [_, _, _, _, _, _]) rfl rfl (Nat.le_of_ble_eq_true rfl) rfl rfl ?_
                refine xA.iinc (L' := [_, _, _, _, _, _]) rfl rfl (nI_1 i) rfl rfl ?_
                refine xA.goto (q := 7) rfl rfl ?_
                have hn : ltS (byN w) (i + 1) = some (q.1 + (if byN w i = 0 then 0 else 1), decide (byN w i = 0)) := by
                  rw [ltS, hq]
                  show (if 126 < byN w i ∨ (q.2 = true ∧ ¬ byN w i = 0) then _ else _) = _
                  rw [if_neg (by rintro (z | ⟨z1, z2⟩); exact e26 z; first | exact h30 z1 | exact z2 e35)]
                have ih := ih _ hn (some (.int (nI (byN w i))))
                dsimp only at ih
                first
                | exact absurd e42 e53
                | exact absurd e53 e42
                | (rw [xb_t (decide_eq_true e53)] at ih; exact ih)
                | (rw [xb_f (by simpa using e53)] at ih; exact ih)
          · rw [xb_ne0] at h30
            refine xA.iload rfl rfl rfl ?_
            refine xA.if_eq (tgt := 40) rfl rfl rfl (fun h35 => ?_) (fun h35 => ?_)
            · have e35 : byN w i = 0 := (nI_eq (b := 0) (by omega) (by omega)).mp h35
              refine xA.iload rfl rfl rfl ?_
              refine xA.if_ne (tgt := 49) rfl rfl rfl (fun h42 => ?_) (fun h42 => ?_)
              · have e42 : ¬ byN w i = 0 := fun z => h42 (by rw [z]; rfl)
                refine xA.iconst (v := 0) rfl (by decide) rfl ?_
                refine xA.istore_n (i := 3) (L' := [_, _, _, _, _, _]) rfl rfl (Nat.le_of_ble_eq_true rfl) rfl rfl ?_
                refine xA.iload_n (i := 2) rfl rfl rfl rfl ?_
                refine xA.iload_n (i := 3) rfl rfl rfl rfl ?_
                refine xA.if_eq (tgt := 60) rfl rfl rfl (fun h53 => ?_) (fun h53 => ?_)
                · have e53 : ¬ byN w i = 0 := by first | exact e42 | exact absurd h53 (by decide)
                  refine xA.iconst (v := 1) rfl (by decide) rfl ?_
                  refine xA.iadd rfl rfl ?_
                  refine xA.topi ((show _ = nI (q.1 + (if byN w i = 0 then 0 else 1)) from by first | (rw [if_pos e53]; exact nI_add _ 0) | (rw [if_neg e53]; exact nI_1 _))) ?_
                  refine xA.istore_n (i := 2) (L' := [_, _, _, _, _, _]) rfl rfl (Nat.le_of_ble_eq_true rfl) rfl rfl ?_
                  refine xA.iinc (L' := [_, _, _, _, _, _]) rfl rfl (nI_1 i) rfl rfl ?_
                  refine xA.goto (q := 7) rfl rfl ?_
                  have hn : ltS (byN w) (i + 1) = some (q.1 + (if byN w i = 0 then 0 else 1), decide (byN w i = 0)) := by
                    rw [ltS, hq]
                    show (if 126 < byN w i ∨ (q.2 = true ∧ ¬ byN w i = 0) then _ else _) = _
                    rw [if_neg (by rintro (z | ⟨z1, z2⟩); exact e26 z; first | exact h30 z1 | exact z2 e35)]
                  have ih := ih _ hn (some (.int (nI (byN w i))))
                  dsimp only at ih
                  first
                  | exact absurd e42 e53
                  | exact absurd e53 e42
                  | (rw [xb_t (decide_eq_true e53)] at ih; exact ih)
                  | (rw [xb_f (by simpa using e53)] at ih; exact ih)
                · have e53 : byN w i = 0 := by first | exact e42 | exact absurd rfl h53
                  refine xA.iconst (v := 0) rfl (by decide) rfl ?_
                  refine xA.goto (q := 61) rfl rfl ?_
                  refine xA.iadd rfl rfl ?_
                  refine xA.topi ((show _ = nI (q.1 + (if byN w i = 0 then 0 else 1)) from by first | (rw [if_pos e53]; exact nI_add _ 0) | (rw [if_neg e53]; exact nI_1 _))) ?_
                  refine xA.istore_n (i := 2) (L' := [_, _, _, _, _, _]) rfl rfl (Nat.le_of_ble_eq_true rfl) rfl rfl ?_
                  refine xA.iinc (L' := [_, _, _, _, _, _]) rfl rfl (nI_1 i) rfl rfl ?_
                  refine xA.goto (q := 7) rfl rfl ?_
                  have hn : ltS (byN w) (i + 1) = some (q.1 + (if byN w i = 0 then 0 else 1), decide (byN w i = 0)) := by
                    rw [ltS, hq]
                    show (if 126 < byN w i ∨ (q.2 = true ∧ ¬ byN w i = 0) then _ else _) = _
                    rw [if_neg (by rintro (z | ⟨z1, z2⟩); exact e26 z; first | exact h30 z1 | exact z2 e35)]
                  have ih := ih _ hn (some (.int (nI (byN w i))))
                  dsimp only at ih
                  first
                  | exact absurd e42 e53
                  | exact absurd e53 e42
                  | (rw [xb_t (decide_eq_true e53)] at ih; exact ih)
                  | (rw [xb_f (by simpa using e53)] at ih; exact ih)
              · have e42 : byN w i = 0 := (nI_eq (b := 0) (by omega) (by omega)).mp h42
                refine xA.iconst (v := 1) rfl (by decide) rfl ?_
                refine xA.goto (q := 50) rfl rfl ?_
                refine xA.istore_n (i := 3) (L' := [_, _, _, _, _, _]) rfl rfl (Nat.le_of_ble_eq_true rfl) rfl rfl ?_
                refine xA.iload_n (i := 2) rfl rfl rfl rfl ?_
                refine xA.iload_n (i := 3) rfl rfl rfl rfl ?_
                refine xA.if_eq (tgt := 60) rfl rfl rfl (fun h53 => ?_) (fun h53 => ?_)
                · have e53 : ¬ byN w i = 0 := by first | exact e42 | exact absurd h53 (by decide)
                  refine xA.iconst (v := 1) rfl (by decide) rfl ?_
                  refine xA.iadd rfl rfl ?_
                  refine xA.topi ((show _ = nI (q.1 + (if byN w i = 0 then 0 else 1)) from by first | (rw [if_pos e53]; exact nI_add _ 0) | (rw [if_neg e53]; exact nI_1 _))) ?_
                  refine xA.istore_n (i := 2) (L' := [_, _, _, _, _, _]) rfl rfl (Nat.le_of_ble_eq_true rfl) rfl rfl ?_
                  refine xA.iinc (L' := [_, _, _, _, _, _]) rfl rfl (nI_1 i) rfl rfl ?_
                  refine xA.goto (q := 7) rfl rfl ?_
                  have hn : ltS (byN w) (i + 1) = some (q.1 + (if byN w i = 0 then 0 else 1), decide (byN w i = 0)) := by
                    rw [ltS, hq]
                    show (if 126 < byN w i ∨ (q.2 = true ∧ ¬ byN w i = 0) then _ else _) = _
                    rw [if_neg (by rintro (z | ⟨z1, z2⟩); exact e26 z; first | exact h30 z1 | exact z2 e35)]
                  have ih := ih _ hn (some (.int (nI (byN w i))))
                  dsimp only at ih
                  first
                  | exact absurd e42 e53
                  | exact absurd e53 e42
                  | (rw [xb_t (decide_eq_true e53)] at ih; exact ih)
                  | (rw [xb_f (by simpa using e53)] at ih; exact ih)
                · have e53 : byN w i = 0 := by first | exact e42 | exact absurd rfl h53
                  refine xA.iconst (v := 0) rfl (by decide) rfl ?_
                  refine xA.goto (q := 61) rfl rfl ?_
                  refine xA.iadd rfl rfl ?_
                  refine xA.topi ((show _ = nI (q.1 + (if byN w i = 0 then 0 else 1)) from by first | (rw [if_pos e53]; exact nI_add _ 0) | (rw [if_neg e53]; exact nI_1 _))) ?_
                  refine xA.istore_n (i := 2) (L' := [_, _, _, _, _, _]) rfl rfl (Nat.le_of_ble_eq_true rfl) rfl rfl ?_
                  refine xA.iinc (L' := [_, _, _, _, _, _]) rfl rfl (nI_1 i) rfl rfl ?_
                  refine xA.goto (q := 7) rfl rfl ?_
                  have hn : ltS (byN w) (i + 1) = some (q.1 + (if byN w i = 0 then 0 else 1), decide (byN w i = 0)) := by
                    rw [ltS, hq]
                    show (if 126 < byN w i ∨ (q.2 = true ∧ ¬ byN w i = 0) then _ else _) = _
                    rw [if_neg (by rintro (z | ⟨z1, z2⟩); exact e26 z; first | exact h30 z1 | exact z2 e35)]
                  have ih := ih _ hn (some (.int (nI (byN w i))))
                  dsimp only at ih
                  first
                  | exact absurd e42 e53
                  | exact absurd e53 e42
                  | (rw [xb_t (decide_eq_true e53)] at ih; exact ih)
                  | (rw [xb_f (by simpa using e53)] at ih; exact ih)
            · have e35 : ¬ byN w i = 0 := fun z => h35 (by rw [z]; rfl)
              refine xA.iconst (v := (-1)) rfl (by decide) rfl ?_
              exact xA.iret rfl rfl rfl ⟨by rw [wN, ltS_dead (i := i + 1) (by rw [ltS, hq]; show (if 126 < byN w i ∨ (q.2 = true ∧ ¬ byN w i = 0) then _ else _) = none; rw [if_pos (by first | exact Or.inl e26 | exact Or.inr ⟨h30, e35⟩)]) (by omega)]; rfl, rfl⟩
    · intro q hq x5
      refine xA.iload rfl rfl rfl ?_
      refine xA.bipush (v := 8) rfl (by decide) rfl ?_
      refine xA.icmp_ge (tgt := 69) rfl rfl rfl (fun h11 => ?_) (fun h11 => ?_)
      · refine xA.iload_n (i := 2) rfl rfl rfl rfl ?_
        exact xA.iret rfl rfl rfl ⟨by rw [wN, hq]; rfl, rfl⟩
      · exact absurd (nI_le (a := 8) (b := 8) (Nat.le_refl _) (by omega)) h11
  refine xA.iconst (v := 0) rfl (by decide) rfl ?_
  refine xA.istore_n (i := 2) (L' := [_, _, _, _, _, _]) rfl rfl (Nat.le_of_ble_eq_true rfl) rfl rfl ?_
  refine xA.iconst (v := 0) rfl (by decide) rfl ?_
  refine xA.istore_n (i := 3) (L' := [_, _, _, _, _, _]) rfl rfl (Nat.le_of_ble_eq_true rfl) rfl rfl ?_
  refine xA.iconst (v := 0) rfl (by decide) rfl ?_
  refine xA.istore (L' := [_, _, _, _, _, _]) rfl (Nat.le_of_ble_eq_true rfl) rfl rfl ?_
  exact loop 0 (Nat.zero_le _) (0, false) rfl _
/-- the page behind c letters more -/
def pgA (pg : Nat → Nat) (n : Nat) (b : Nat → Nat) : Nat → Nat := fun i => if i < n then pg i else b (i - n)
def paS (S : Nat → Nat → Int32) (n c : Nat) (b : Nat → Nat) : Nat → Nat → Int32 := fun j i => if j = 1 then (if i = 1 then nI (n + c) else S j i) else if j = 2 then (if n ≤ i ∧ i < n + c then nI (b (i - n)) else S j i) else S j i
theorem paS_0 {S : Nat → Nat → Int32} {n : Nat} {b : Nat → Nat} (hn : S 1 1 = nI n) : S = paS S n 0 b := by
  funext j q
  simp only [paS]
  by_cases j1 : j = 1
  · subst j1
    by_cases q1 : q = 1
    · subst q1; simp [hn]
    · simp [q1]
  · rw [if_neg j1, if_neg (by omega : ¬ (n ≤ q ∧ q < n + 0))]
    simp
theorem paS_step {S : Nat → Nat → Int32} {n i : Nat} {b : Nat → Nat} : xu (xu (paS S n i b) 2 (n + i) (nI (b i))) 1 1 (nI (n + i + 1)) = paS S n (i + 1) b := by
  funext j q
  simp only [paS, xu]
  by_cases j1 : j = 1
  · subst j1
    by_cases q1 : q = 1
    · simp [q1, Nat.add_assoc]
    · simp [q1]
  · rw [if_neg j1, if_neg j1, if_neg j1]
    by_cases j2 : j = 2
    · subst j2
      simp only [if_true]
      by_cases q1 : q = n + i
      · subst q1
        rw [if_pos rfl, if_pos (by omega), Nat.add_sub_cancel_left]
      · rw [if_neg q1]
        by_cases q2 : n ≤ q ∧ q < n + i
        · rw [if_pos q2, if_pos (by omega)]
        · rw [if_neg q2, if_neg (by omega)]
    · rw [if_neg j2, if_neg j2, if_neg j2]

set_option maxRecDepth 100000 in
set_option maxHeartbeats 1000000 in
theorem c_X4_addAll (d : Nat) (S : Nat → Nat → Int32) (G : Nat → Nat → Int64) (w : Int64) (n c : Nat) (hn : S 1 1 = nI n) (hc8 : c ≤ 8) (hnc : n + c ≤ 45) (hnz : ∀ j, j < c → ¬ byN w j = 0 ∧ byN w j ≤ 126) (hz : ∀ j, c ≤ j → j < 8 → byN w j = 0) : xR τ (d + 1) mX4_addAll [.ref 1, .long w] S G none (paS S n c (byN w)) G := by
  refine xC.of okX4_addAll (Nat.le_of_ble_eq_true rfl) (L := [_, _, _, _, _]) rfl ?_
  have loop : ∀ i, i ≤ 8 → ∀ x4 : Option Value, xA none (d + 1) mX4_addAll 0 0 0 0 2 [some (.ref 1), some (.long w), none, some (.int (nI i)), x4] [] ((σF τ), paS S n (if i < c then i else c) (byN w), G) (fun r' h' => r' = none ∧ h' = ((σF τ), (paS S n c (byN w)), G)) := by
    refine xloop 8 (fun i hi ih => ?_) ?_
    · intro x4
      refine xA.iload_n (i := 3) rfl rfl rfl rfl ?_
      refine xA.bipush (v := 8) rfl (by decide) rfl ?_
      refine xA.icmp_ge (tgt := 66) rfl rfl rfl (fun h5 => ?_) (fun h5 => ?_)
      · exact absurd h5 (nI_ge (b := 8) hi (by omega))
      · refine xA.lload_n (i := 1) rfl rfl rfl rfl ?_
        refine xA.iload_n (i := 3) rfl rfl rfl rfl ?_
        refine xA.callSi (As := [_, _]) rfl k4_15 okX4_byteOf rfl rfl (Nat.le_of_ble_eq_true rfl) (c_X4_byteOf d _ G w i hi) rfl rfl ?_
        refine xA.istore (L' := [_, _, _, _, _]) rfl (Nat.le_of_ble_eq_true rfl) rfl rfl ?_
        refine xA.iload rfl rfl rfl ?_
        have hb := byN_lt w i
        have hcn : (if i < c then i else c) ≤ c := by split <;> omega
        refine xA.if_eq (tgt := 60) rfl rfl rfl (fun h17 => ?_) (fun h17 => ?_)
        · have e17 : byN w i = 0 := (nI_eq (b := 0) (by omega) (by omega)).mp h17
          have hic : ¬ i < c := fun z => (hnz i z).1 e17
          refine xA.iinc (L' := [_, _, _, _, _]) rfl rfl (nI_1 i) rfl rfl ?_
          refine xA.goto (q := 2) rfl rfl ?_
          have ih := ih (some (.int (nI (byN w i))))
          first
          | (rw [if_neg hic]; rw [if_neg (by omega)] at ih; exact ih)
          | (refine xA.store (S' := paS S n (i + 1) (byN w)) (by rw [if_pos hic, nI_clamp (by omega)]; exact paS_step) ?_; rw [show (if i + 1 < c then i + 1 else c) = i + 1 from by split <;> omega] at ih; exact ih)
        · 
          refine xA.aload_n (i := 0) rfl rfl rfl rfl ?_
          have e17 : ¬ byN w i = 0 := fun z => h17 (by rw [z]; rfl)
          have hic : i < c := by
            rcases Nat.lt_or_ge i c with z | z
            · exact z
            · exact absurd (hz i z hi) e17
          have hX : (if i < c then i else c) = i := if_pos hic
          refine xA.getI rfl f4_21 rfl rfl rfl ?_
          refine xA.topi ((show _ = nI (n + (if i < c then i else c)) from by simp [paS])) ?_
          refine xA.if_lt (tgt := 60) rfl rfl rfl (fun h24 => ?_) (fun h24 => ?_)
          · exact absurd h24 (nI_pos (by omega))
          · refine xA.aload_n (i := 0) rfl rfl rfl rfl ?_
            refine xA.getI rfl f4_21 rfl rfl rfl ?_
            refine xA.topi ((show _ = nI (n + (if i < c then i else c)) from by simp [paS])) ?_
            refine xA.aload_n (i := 0) rfl rfl rfl rfl ?_
            refine xA.getR rfl f4_9 rfl rfl rfl rfl ?_
            refine xA.alen rfl rfl rfl ?_
            refine xA.icmp_ge (tgt := 60) rfl rfl rfl (fun h36 => ?_) (fun h36 => ?_)
            · exact absurd h36 (nI_ge (b := 45) (by omega) (by omega))
            · refine xA.aload_n (i := 0) rfl rfl rfl rfl ?_
              refine xA.getR rfl f4_9 rfl rfl rfl rfl ?_
              refine xA.aload_n (i := 0) rfl rfl rfl rfl ?_
              refine xA.getI rfl f4_21 rfl rfl rfl ?_
              refine xA.topi ((show _ = nI (n + (if i < c then i else c)) from by simp [paS])) ?_
              refine xA.iload rfl rfl rfl ?_
              refine xA.iast rfl rfl (vp_in_nI (by omega) (by omega)) rfl ?_
              refine xA.aload_n (i := 0) rfl rfl rfl rfl ?_
              refine xA.dup rfl rfl rfl ?_
              refine xA.getI rfl f4_21 rfl rfl rfl ?_
              refine xA.topi ((show _ = nI (n + (if i < c then i else c)) from by simp [paS, xu])) ?_
              refine xA.iconst (v := 1) rfl (by decide) rfl ?_
              refine xA.iadd rfl rfl ?_
              refine xA.topi (nI_1 _) ?_
              refine xA.putI rfl p4_21 rfl rfl rfl ?_
              refine xA.iinc (L' := [_, _, _, _, _]) rfl rfl (nI_1 i) rfl rfl ?_
              refine xA.goto (q := 2) rfl rfl ?_
              have ih := ih (some (.int (nI (byN w i))))
              first
              | (rw [if_neg hic]; rw [if_neg (by omega)] at ih; exact ih)
              | (refine xA.store (S' := paS S n (i + 1) (byN w)) (by rw [if_pos hic, nI_clamp (by omega)]; exact paS_step) ?_; rw [show (if i + 1 < c then i + 1 else c) = i + 1 from by split <;> omega] at ih; exact ih)
    · intro x4
      refine xA.iload_n (i := 3) rfl rfl rfl rfl ?_
      refine xA.bipush (v := 8) rfl (by decide) rfl ?_
      refine xA.icmp_ge (tgt := 66) rfl rfl rfl (fun h5 => ?_) (fun h5 => ?_)
      · have e9 : (if 8 < c then 8 else c) = c := if_neg (by omega)
        rw [e9]
        exact xA.vret rfl rfl ⟨rfl, rfl⟩
      · exact absurd (nI_le (a := 8) (b := 8) (Nat.le_refl _) (by omega)) h5
  refine xA.iconst (v := 0) rfl (by decide) rfl ?_
  refine xA.istore_n (i := 3) (L' := [_, _, _, _, _]) rfl rfl (Nat.le_of_ble_eq_true rfl) rfl rfl ?_
  refine xA.store (S' := paS S n (if 0 < c then 0 else c) (byN w)) (by rw [show (if 0 < c then 0 else c) = 0 from by split <;> omega]; exact paS_0 hn) ?_
  exact loop 0 (Nat.zero_le _) _
theorem pgA_ok {S : Nat → Nat → Int32} {pg b : Nat → Nat} {n c : Nat} (hp : pgC S pg n) (h45 : n + c ≤ 45) (hb : ∀ j, j < c → b j ≤ 126) : pgC (paS S n c b) (pgA pg n b) (n + c) := by
  refine ⟨by simp [paS], h45, fun i hi => ?_, fun i hi => ?_⟩
  · show paS S n c b 2 i = nI (pgA pg n b i)
    simp only [paS, pgA]
    by_cases q : i < n
    · rw [if_neg (by omega), if_pos trivial, if_neg (by omega), if_pos q]
      exact hp.2.2.1 i q
    · rw [if_neg (by omega), if_pos trivial, if_pos (by omega), if_neg q]
  · show pgA pg n b i ≤ 126
    simp only [pgA]
    by_cases q : i < n
    · rw [if_pos q]; exact hp.2.2.2 i q
    · rw [if_neg q]; exact hb _ (by omega)
def aLetters (s : sS) (w : Int64) : Int32 := match wN w with
  | none => -102
  | some c => if 45 < sN s + c then -104 else nI (sN s + c)
def tLetters (s : sS) (w : Int64) : sS := match wN w with
  | none => s
  | some c => if 45 < sN s + c then s else (pgA (sPg s) (sN s) (byN w), sN s + c, s.2.2)

set_option maxRecDepth 100000 in
set_option maxHeartbeats 1000000 in
theorem o_letters (d : Nat) (s : sS) (w : Int64) : opC τ (d + 2) mX9_letters [.ref 0, .long w] s (.int (aLetters s w)) (tLetters s w) := by
  intro S G hc
  have hpg := hc.1
  have hn45 := hpg.2.1
  refine xC.of okX9_letters (Nat.le_of_ble_eq_true rfl) (L := [_, _, _, _]) rfl ?_
  refine xA.lload_n (i := 1) rfl rfl rfl rfl ?_
  refine xA.callSi (As := [_]) rfl k9_75 okX4_lettersIn rfl rfl (Nat.le_of_ble_eq_true rfl) (c_X4_lettersIn d _ G w) rfl rfl ?_
  refine xA.istore_n (i := 3) (L' := [_, _, _, _]) rfl rfl (Nat.le_of_ble_eq_true rfl) rfl rfl ?_
  rcases hw : wN w with _ | c
  · skip
    refine xA.iload_n (i := 3) rfl rfl rfl rfl ?_
    refine xA.iconst (v := (-1)) rfl (by decide) rfl ?_
    refine xA.icmp_ne (tgt := 13) rfl rfl rfl (fun h7 => ?_) (fun h7 => ?_)
    · exact absurd rfl h7
    · refine xA.bipush (v := (-102)) rfl (by decide) rfl ?_
      exact xA.iret rfl rfl rfl ⟨S, rfl, by simp only [aLetters, hw], by simp only [tLetters, hw]; exact hc, fun _ _ => rfl⟩
  · obtain ⟨q, hq, hqc⟩ := Option.map_eq_some_iff.mp (show Option.map (fun q => q.1) (ltS (byN w) 8) = some c from hw)
    have hqc : q.1 = c := hqc
    obtain ⟨a1, a2, a3, a4⟩ := ltS_spec 8 q hq
    rw [hqc] at a1 a2 a3
    refine xA.iload_n (i := 3) rfl rfl rfl rfl ?_
    refine xA.iconst (v := (-1)) rfl (by decide) rfl ?_
    refine xA.icmp_ne (tgt := 13) rfl rfl rfl (fun h7 => ?_) (fun h7 => ?_)
    · refine xA.aload_n (i := 0) rfl rfl rfl rfl ?_
      refine xA.getR rfl f9_12 rfl rfl rfl rfl ?_
      refine xA.callVi (As := []) rfl k9_79 okX4_length rfl rfl rfl rfl (Nat.le_of_ble_eq_true rfl) (c_X4_length (d + 1) _ G) rfl rfl ?_
      refine xA.topi hpg.1 ?_
      refine xA.iload_n (i := 3) rfl rfl rfl rfl ?_
      refine xA.iadd rfl rfl ?_
      refine xA.topi (nI_add _ _) ?_
      refine xA.bipush (v := 45) rfl (by decide) rfl ?_
      refine xA.icmp_le (tgt := 30) rfl rfl rfl (fun h24 => ?_) (fun h24 => ?_)
      · have e24 : ¬ 45 < sN s + c := by
          have := (nI_leI (a := sN s + c) (b := 45) (by omega) (by omega)).mp h24; omega
        refine xA.aload_n (i := 0) rfl rfl rfl rfl ?_
        refine xA.getR rfl f9_12 rfl rfl rfl rfl ?_
        refine xA.lload_n (i := 1) rfl rfl rfl rfl ?_
        refine xA.callVv (As := [_]) rfl k9_83 okX4_addAll rfl rfl rfl rfl (Nat.le_of_ble_eq_true rfl) (c_X4_addAll d _ G w (sN s) c hpg.1 a1 (by omega) a2 a3) rfl rfl ?_
        refine xA.aload_n (i := 0) rfl rfl rfl rfl ?_
        refine xA.getR rfl f9_12 rfl rfl rfl rfl ?_
        refine xA.callVi (As := []) rfl k9_79 okX4_length rfl rfl rfl rfl (Nat.le_of_ble_eq_true rfl) (c_X4_length (d + 1) _ G) rfl rfl ?_
        refine xA.topi (show _ = nI (sN s + c) from by simp [paS]) ?_
        exact xA.iret rfl rfl rfl ⟨_, rfl, by simp only [aLetters, hw, e24, if_false], by simp only [tLetters, hw, e24, if_false]; exact hc.page _ _ (pgA_ok hpg (by omega) (fun j hj => (a2 j hj).2)) (fun j hj => by funext q; simp only [paS]; rw [if_neg (by omega), if_neg (by omega)]), fun j hj => by funext q; simp only [paS]; rw [if_neg (by omega), if_neg (by omega)]⟩
      · refine xA.bipush (v := (-104)) rfl (by decide) rfl ?_
        have e24 : 45 < sN s + c := by
          have := mt (nI_leI (a := sN s + c) (b := 45) (by omega) (by omega)).mpr h24; omega
        exact xA.iret rfl rfl rfl ⟨S, rfl, by simp only [aLetters, hw, e24, if_true], by simp only [tLetters, hw, e24, if_true]; exact hc, fun _ _ => rfl⟩
    · exact absurd h7 (nI_m1 (by omega))
end
section
variable {τ : List xSh}
/-! ===== the class's operations that change something ===== -/
abbrev mkS (s : sS) (pg : Nat → Nat) (n hr : Nat) (h : hS) (p : Nat) (kd : Nat → Nat) (L : Nat → lS) (tk : tS) (gl : gS) (sd : Nat) (im : iS) : sS := (pg, n, hr, h, p, kd, L, tk, gl, sd, im)
def iu (f : Nat → Int32) (k : Nat) (v : Int32) : Nat → Int32 := fun j => if j = k then v else f j
def lu (f : Nat → lS) (k : Nat) (v : lS) : Nat → lS := fun j => if j = k then v else f j
def lE : lS := (0, fun _ => 0, 0, 0)
def tBlank (s : sS) : sS := (fun _ => 0, 0, s.2.2)
def tForget (s : sS) : sS := mkS s (sPg s) (sN s) (sHr s) (sH s) (sP s) (sKd s) (sL s) (sTk s) (0, fun _ => 0) (sSd s) (sIm s)
def aTask (s : sS) (r f t : Int32) : Int32 := if rg r 6 then (if rg f 60 ∧ rg t 60 ∧ ¬ t < f then (if sHr s = 0 then -103 else if (sTk s).1 = 5 then -104 else nI (sTk s).1) else -102) else -101
def tTask (s : sS) (r f t : Int32) : sS := if rg r 6 ∧ (rg f 60 ∧ rg t 60 ∧ ¬ t < f) ∧ ¬ sHr s = 0 ∧ ¬ (sTk s).1 = 5 then mkS s (sPg s) (sN s) (sHr s) (sH s) (sP s) (sKd s) (sL s) ((sTk s).1 + 1, iu (sTk s).2.1 (sTk s).1 r, iu (sTk s).2.2.1 (sTk s).1 f, iu (sTk s).2.2.2 (sTk s).1 t) (sGl s) (sSd s) (sIm s) else s
def aGlimpse (s : sS) (m r : Int32) : Int32 := if rg m 60 then (if rg r 6 then (if sHr s = 0 then -103 else if (sGl s).1 = 8 then -104 else nI ((sGl s).1 + 1)) else -101) else -102
def tGlimpse (s : sS) (m r : Int32) : sS := if rg m 60 ∧ rg r 6 ∧ ¬ sHr s = 0 ∧ ¬ (sGl s).1 = 8 then mkS s (sPg s) (sN s) (sHr s) (sH s) (sP s) (sKd s) (sL s) (sTk s) ((sGl s).1 + 1, nu (sGl s).2 (sGl s).1 (m.toNatClampNeg * 6 + r.toNatClampNeg)) (sSd s) (sIm s) else s
def aPerson (s : sS) (k : Int32) : Int32 := if rg k 5 then (if sHr s = 0 then -103 else if sP s = 4 then -104 else nI (sP s)) else -102
def tPerson (s : sS) (k : Int32) : sS := if rg k 5 ∧ ¬ sHr s = 0 ∧ ¬ sP s = 4 then mkS s (sPg s) (sN s) (sHr s) (sH s) (sP s + 1) (nu (sKd s) (sP s) k.toNatClampNeg) (lu (sL s) (sP s) lE) (sTk s) (sGl s) (sSd s) (sIm s) else s
def aFault (s : sS) (w : Int32) : Int32 := if w = 0 then nI (fpl (hgo (sPg s)) (sN s)) else if w = 1 then nI (fpl (fun j => lfo j (sPg s j)) (sN s)) else -102
theorem lG_E {h : hS} : lG h lE := ⟨Nat.zero_le _, fun i hi => absurd hi (Nat.not_lt_zero _), Nat.zero_le _, by show 0 < 1024; decide, fun j _ => by show (0 : Nat).testBit j = decide (0 < 0); simp⟩
theorem o_forget (d : Nat) (s : sS) : opC τ (d + 1) mX9_forget [.ref 0] s (.int (nI (sGl s).1)) (tForget s) := opC.upd fun S G hc => by
  obtain ⟨hpg, hho, hpp, htk, hgl, hsd, him, hno⟩ := hc
  have off : ∀ j, j ≠ 16 → xu S 16 1 0 j = S j := fun j hj => by funext q; exact xu_ne1 hj
  refine ⟨_, hgl.1 ▸ c_X9_forget d S G, ⟨hpg.to (off 1 (by omega)) (off 2 (by omega)), hho.to (by rw [off 0 (by omega)]) (off 3 (by omega)) (off 4 (by omega)) (off 5 (by omega)), hpp.to (by rw [off 0 (by omega)]) (fun j h1 h2 => off j (by omega)), htk.to (off _ (by omega)) (off _ (by omega)) (off _ (by omega)) (off _ (by omega)), ⟨by simp [xu]; rfl, by show 0 ≤ 8; omega, fun i hi => absurd hi (Nat.not_lt_zero _)⟩, ⟨by rw [off 0 (by omega)]; exact hsd.1, hsd.2⟩, him.to (fun j h1 h2 => off j (by omega)), fun z => ⟨(hno z).1, (hno z).2.1, rfl, (hno z).2.2.2⟩⟩, fun j hj => off j (by omega)⟩

theorem tkC_add {S : Nat → Nat → Int32} {k : Nat} {t : tS} (ht : tkC S k t) (h5 : t.1 < 5) (a b c : Int32) : tkC (xu (xu (xu (xu S (k + 1) t.1 a) (k + 2) t.1 b) (k + 3) t.1 c) k 3 (nI (t.1 + 1))) k (t.1 + 1, iu t.2.1 t.1 a, iu t.2.2.1 t.1 b, iu t.2.2.2 t.1 c) := by
  refine ⟨xu_same, h5, fun i hi => ?_⟩
  have hi2 : i < t.1 + 1 := hi
  show xu _ _ _ _ _ _ = iu t.2.1 t.1 a i ∧ xu _ _ _ _ _ _ = iu t.2.2.1 t.1 b i ∧ xu _ _ _ _ _ _ = iu t.2.2.2 t.1 c i
  by_cases e : i = t.1
  · subst e
    simp [xu, iu]
  · have := ht.2.2 i (by omega)
    simp [xu, iu, e, this]
theorem glC_add {S : Nat → Nat → Int32} {k : Nat} {g : gS} (ht : glC S k g) (h8 : g.1 < 8) (x : Nat) (hx : x < 360) : glC (xu (xu S (k + 1) g.1 (nI x)) k 1 (nI (g.1 + 1))) k (g.1 + 1, nu g.2 g.1 x) := by
  refine ⟨xu_same, h8, fun i hi => ?_⟩
  have hi2 : i < g.1 + 1 := hi
  show xu _ _ _ _ _ _ = nI (nu g.2 g.1 x i) ∧ nu g.2 g.1 x i < 360
  by_cases e : i = g.1
  · subst e
    simp [xu, nu, hx]
  · have := ht.2.2 i (by omega)
    simp [xu, nu, e, this]

set_option maxRecDepth 100000 in
set_option maxHeartbeats 1000000 in
theorem o_task (d : Nat) (s : sS) (r f t : Int32) : opC τ (d + 1) mX9_task [.ref 0, .int r, .int f, .int t] s (.int (aTask s r f t)) (tTask s r f t) := by
  intro S G hc
  have hc0 := hc
  obtain ⟨hpg, hho, hpp, htk, hgl, hsd, him, hno⟩ := hc
  refine xC.of okX9_task (Nat.le_of_ble_eq_true rfl) (L := [_, _, _, _]) rfl ?_
  refine xA.iload_n (i := 1) rfl rfl rfl rfl ?_
  refine xA.callSi (As := [_]) rfl k9_116 okX9_isRoom rfl rfl (Nat.le_of_ble_eq_true rfl) (c_X9_isRoom d _ G _) rfl rfl ?_
  refine xA.if_ne (tgt := 10) rfl rfl rfl (fun h4 => ?_) (fun h4 => ?_)
  · rw [xb_ne0] at h4
    refine xA.iload_n (i := 2) rfl rfl rfl rfl ?_
    refine xA.callSi (As := [_]) rfl k9_181 okX9_isMinute rfl rfl (Nat.le_of_ble_eq_true rfl) (c_X9_isMinute d _ G _) rfl rfl ?_
    refine xA.if_eq (tgt := 29) rfl rfl rfl (fun h14 => ?_) (fun h14 => ?_)
    · rw [xb_eq0] at h14
      refine xA.bipush (v := (-102)) rfl (by decide) rfl ?_
      exact xA.iret rfl rfl rfl ⟨S, rfl, by simp only [aTask]; rw [if_pos h4, if_neg (by rintro ⟨q2, q3, q4⟩; first | exact h14 q2 | exact h21 q3 | exact q4 (Int32.not_le.mp h26))], by unfold tTask; rw [if_neg (by rintro ⟨q1, ⟨q2, q3, q4⟩, q5, q6⟩; first | exact h4 q1 | exact h14 q2 | exact h21 q3 | exact q4 (Int32.not_le.mp h26) | exact h36 q5 | exact q6 h5)]; exact hc0, fun _ _ => rfl⟩
    · rw [xb_ne0] at h14
      refine xA.iload_n (i := 3) rfl rfl rfl rfl ?_
      refine xA.callSi (As := [_]) rfl k9_181 okX9_isMinute rfl rfl (Nat.le_of_ble_eq_true rfl) (c_X9_isMinute d _ G _) rfl rfl ?_
      refine xA.if_eq (tgt := 29) rfl rfl rfl (fun h21 => ?_) (fun h21 => ?_)
      · rw [xb_eq0] at h21
        refine xA.bipush (v := (-102)) rfl (by decide) rfl ?_
        exact xA.iret rfl rfl rfl ⟨S, rfl, by simp only [aTask]; rw [if_pos h4, if_neg (by rintro ⟨q2, q3, q4⟩; first | exact h14 q2 | exact h21 q3 | exact q4 (Int32.not_le.mp h26))], by unfold tTask; rw [if_neg (by rintro ⟨q1, ⟨q2, q3, q4⟩, q5, q6⟩; first | exact h4 q1 | exact h14 q2 | exact h21 q3 | exact q4 (Int32.not_le.mp h26) | exact h36 q5 | exact q6 h5)]; exact hc0, fun _ _ => rfl⟩
      · rw [xb_ne0] at h21
        refine xA.iload_n (i := 3) rfl rfl rfl rfl ?_
        refine xA.iload_n (i := 2) rfl rfl rfl rfl ?_
        refine xA.icmp_ge (tgt := 32) rfl rfl rfl (fun h26 => ?_) (fun h26 => ?_)
        · refine xA.aload_n (i := 0) rfl rfl rfl rfl ?_
          refine xA.callVi (As := []) rfl k9_120 okX9_hasHouse rfl rfl rfl rfl (Nat.le_of_ble_eq_true rfl) (c_X9_hasHouse d _ G) rfl rfl ?_
          refine xA.if_ne (tgt := 42) rfl rfl rfl (fun h36 => ?_) (fun h36 => ?_)
          · rw [xb_ne0] at h36
            by_cases h5 : (sTk s).1 = 5
            · rw [hr_pos hho] at h36
              refine xA.aload_n (i := 0) rfl rfl rfl rfl ?_
              refine xA.getR rfl f9_42 rfl rfl rfl rfl ?_
              refine xA.iload_n (i := 1) rfl rfl rfl rfl ?_
              refine xA.iload_n (i := 2) rfl rfl rfl rfl ?_
              refine xA.iload_n (i := 3) rfl rfl rfl rfl ?_
              refine xA.callVi (As := [_, _, _]) rfl k9_207 okX7_add rfl rfl rfl rfl (Nat.le_of_ble_eq_true rfl) (c_X7_addF d _ G 12 iT12 (by rw [htk.1, h5]) _ _ _) rfl rfl ?_
              exact xA.iret rfl rfl rfl ⟨S, rfl, by simp only [aTask]; rw [if_pos h4, if_pos ⟨h14, h21, Int32.not_lt.mpr h26⟩, if_neg h36, if_pos h5], by unfold tTask; rw [if_neg (by rintro ⟨q1, ⟨q2, q3, q4⟩, q5, q6⟩; first | exact h4 q1 | exact h14 q2 | exact h21 q3 | exact q4 (Int32.not_le.mp h26) | exact h36 q5 | exact q6 h5)]; exact hc0, fun _ _ => rfl⟩
            · rw [hr_pos hho] at h36
              have h55 : (sTk s).1 < 5 := by have := htk.2.1; omega
              refine xA.aload_n (i := 0) rfl rfl rfl rfl ?_
              refine xA.getR rfl f9_42 rfl rfl rfl rfl ?_
              refine xA.iload_n (i := 1) rfl rfl rfl rfl ?_
              refine xA.iload_n (i := 2) rfl rfl rfl rfl ?_
              refine xA.iload_n (i := 3) rfl rfl rfl rfl ?_
              refine xA.callVi (As := [_, _, _]) rfl k9_207 okX7_add rfl rfl rfl rfl (Nat.le_of_ble_eq_true rfl) (c_X7_add d _ G 12 iT12 _ htk.1 h55 _ _ _) rfl rfl ?_
              have off : ∀ j, ¬ (12 ≤ j ∧ j < 16) → xu (xu (xu (xu S (12 + 1) (sTk s).1 r) (12 + 2) (sTk s).1 f) (12 + 3) (sTk s).1 t) 12 3 (nI ((sTk s).1 + 1)) j = S j := fun j hj => by funext q; simp only [xu]; rw [if_neg (by omega), if_neg (by omega), if_neg (by omega), if_neg (by omega)]
              exact xA.iret rfl rfl rfl ⟨_, rfl, by simp only [aTask]; rw [if_pos h4, if_pos ⟨h14, h21, Int32.not_lt.mpr h26⟩, if_neg h36, if_neg h5], by
                unfold tTask
                rw [if_pos ⟨h4, ⟨h14, h21, Int32.not_lt.mpr h26⟩, h36, h5⟩]
                exact ⟨hpg.to (off 1 (by omega)) (off 2 (by omega)), hho.to (by rw [off 0 (by omega)]) (off 3 (by omega)) (off 4 (by omega)) (off 5 (by omega)), hpp.to (by rw [off 0 (by omega)]) (fun j h1 h2 => off j (by omega)), tkC_add htk h55 r f t, hgl.to (off _ (by omega)) (off _ (by omega)), ⟨by rw [off 0 (by omega)]; exact hsd.1, hsd.2⟩, him.to (fun j h1 h2 => off j (by omega)), fun z => absurd z h36⟩, fun j hj => off j (by omega)⟩
          · rw [xb_eq0] at h36
            refine xA.bipush (v := (-103)) rfl (by decide) rfl ?_
            rw [hr_pos hho] at h36
            exact xA.iret rfl rfl rfl ⟨S, rfl, by simp only [aTask]; rw [if_pos h4, if_pos ⟨h14, h21, Int32.not_lt.mpr h26⟩, if_pos (by omega)], by unfold tTask; rw [if_neg (by rintro ⟨q1, q2, q5, q6⟩; exact h36 q5)]; exact hc0, fun _ _ => rfl⟩
        · refine xA.bipush (v := (-102)) rfl (by decide) rfl ?_
          exact xA.iret rfl rfl rfl ⟨S, rfl, by simp only [aTask]; rw [if_pos h4, if_neg (by rintro ⟨q2, q3, q4⟩; first | exact h14 q2 | exact h21 q3 | exact q4 (Int32.not_le.mp h26))], by unfold tTask; rw [if_neg (by rintro ⟨q1, ⟨q2, q3, q4⟩, q5, q6⟩; first | exact h4 q1 | exact h14 q2 | exact h21 q3 | exact q4 (Int32.not_le.mp h26) | exact h36 q5 | exact q6 h5)]; exact hc0, fun _ _ => rfl⟩
  · rw [xb_eq0] at h4
    refine xA.bipush (v := (-101)) rfl (by decide) rfl ?_
    exact xA.iret rfl rfl rfl ⟨S, rfl, by simp only [aTask]; rw [if_neg h4], by unfold tTask; rw [if_neg (by rintro ⟨q1, ⟨q2, q3, q4⟩, q5, q6⟩; first | exact h4 q1 | exact h14 q2 | exact h21 q3 | exact q4 (Int32.not_le.mp h26) | exact h36 q5 | exact q6 h5)]; exact hc0, fun _ _ => rfl⟩
set_option maxRecDepth 100000 in
set_option maxHeartbeats 1000000 in
theorem o_glimpse (d : Nat) (s : sS) (m r : Int32) : opC τ (d + 1) mX9_glimpse [.ref 0, .int m, .int r] s (.int (aGlimpse s m r)) (tGlimpse s m r) := by
  intro S G hc
  have hc0 := hc
  obtain ⟨hpg, hho, hpp, htk, hgl, hsd, him, hno⟩ := hc
  refine xC.of okX9_glimpse (Nat.le_of_ble_eq_true rfl) (L := [_, _, _]) rfl ?_
  refine xA.iload_n (i := 1) rfl rfl rfl rfl ?_
  refine xA.callSi (As := [_]) rfl k9_181 okX9_isMinute rfl rfl (Nat.le_of_ble_eq_true rfl) (c_X9_isMinute d _ G _) rfl rfl ?_
  refine xA.if_ne (tgt := 10) rfl rfl rfl (fun h4 => ?_) (fun h4 => ?_)
  · rw [xb_ne0] at h4
    refine xA.iload_n (i := 2) rfl rfl rfl rfl ?_
    refine xA.callSi (As := [_]) rfl k9_116 okX9_isRoom rfl rfl (Nat.le_of_ble_eq_true rfl) (c_X9_isRoom d _ G _) rfl rfl ?_
    refine xA.if_ne (tgt := 20) rfl rfl rfl (fun h14 => ?_) (fun h14 => ?_)
    · rw [xb_ne0] at h14
      refine xA.aload_n (i := 0) rfl rfl rfl rfl ?_
      refine xA.callVi (As := []) rfl k9_120 okX9_hasHouse rfl rfl rfl rfl (Nat.le_of_ble_eq_true rfl) (c_X9_hasHouse d _ G) rfl rfl ?_
      refine xA.if_ne (tgt := 30) rfl rfl rfl (fun h24 => ?_) (fun h24 => ?_)
      · rw [xb_ne0] at h24
        by_cases h8 : (sGl s).1 = 8
        · rw [hr_pos hho] at h24
          obtain ⟨mm, hmm, rfl⟩ := rg_nI h4 (by omega)
          obtain ⟨rr, hrr, rfl⟩ := rg_nI h14 (by omega)
          refine xA.aload_n (i := 0) rfl rfl rfl rfl ?_
          refine xA.getR rfl f9_49 rfl rfl rfl rfl ?_
          refine xA.iload_n (i := 1) rfl rfl rfl rfl ?_
          refine xA.iload_n (i := 2) rfl rfl rfl rfl ?_
          refine xA.callSi (As := [_, _]) rfl k9_184 okX9_spotOf rfl rfl (Nat.le_of_ble_eq_true rfl) (c_X9_spotOf d _ G _ _) rfl rfl ?_
          refine xA.topi (nI_spot mm rr) ?_
          refine xA.callVi (As := [_]) rfl k9_233 okX0_add rfl rfl rfl rfl (Nat.le_of_ble_eq_true rfl) (c_X0_addF d _ G 16 iG16 (by rw [hgl.1, h8]) _) rfl rfl ?_
          exact xA.iret rfl rfl rfl ⟨S, rfl, by simp only [aGlimpse]; rw [if_pos h4, if_pos h14, if_neg h24, if_pos h8], by unfold tGlimpse; rw [if_neg (by rintro ⟨q1, q2, q5, q6⟩; first | exact h4 q1 | exact h14 q2 | exact h24 q5 | exact q6 h8)]; exact hc0, fun _ _ => rfl⟩
        · rw [hr_pos hho] at h24
          obtain ⟨mm, hmm, rfl⟩ := rg_nI h4 (by omega)
          obtain ⟨rr, hrr, rfl⟩ := rg_nI h14 (by omega)
          have h88 : (sGl s).1 < 8 := by have := hgl.2.1; omega
          refine xA.aload_n (i := 0) rfl rfl rfl rfl ?_
          refine xA.getR rfl f9_49 rfl rfl rfl rfl ?_
          refine xA.iload_n (i := 1) rfl rfl rfl rfl ?_
          refine xA.iload_n (i := 2) rfl rfl rfl rfl ?_
          refine xA.callSi (As := [_, _]) rfl k9_184 okX9_spotOf rfl rfl (Nat.le_of_ble_eq_true rfl) (c_X9_spotOf d _ G _ _) rfl rfl ?_
          refine xA.topi (nI_spot mm rr) ?_
          refine xA.callVi (As := [_]) rfl k9_233 okX0_add rfl rfl rfl rfl (Nat.le_of_ble_eq_true rfl) (c_X0_add d _ G 16 iG16 _ hgl.1 h88 _) rfl rfl ?_
          have off : ∀ j, ¬ (16 ≤ j ∧ j < 18) → xu (xu S (16 + 1) (sGl s).1 (nI (mm * 6 + rr))) 16 1 (nI ((sGl s).1 + 1)) j = S j := fun j hj => by funext q; simp only [xu]; rw [if_neg (by omega), if_neg (by omega)]
          exact xA.iret rfl rfl rfl ⟨_, rfl, by simp only [aGlimpse]; rw [if_pos h4, if_pos h14, if_neg h24, if_neg h8], by
            unfold tGlimpse
            rw [if_pos ⟨h4, h14, h24, h8⟩, nI_clamp (by omega), nI_clamp (by omega)]
            exact ⟨hpg.to (off 1 (by omega)) (off 2 (by omega)), hho.to (by rw [off 0 (by omega)]) (off 3 (by omega)) (off 4 (by omega)) (off 5 (by omega)), hpp.to (by rw [off 0 (by omega)]) (fun j h1 h2 => off j (by omega)), htk.to (off _ (by omega)) (off _ (by omega)) (off _ (by omega)) (off _ (by omega)), glC_add hgl h88 _ (by omega), ⟨by rw [off 0 (by omega)]; exact hsd.1, hsd.2⟩, him.to (fun j h1 h2 => off j (by omega)), fun z => absurd z h24⟩, fun j hj => off j (by omega)⟩
      · rw [xb_eq0] at h24
        refine xA.bipush (v := (-103)) rfl (by decide) rfl ?_
        rw [hr_pos hho] at h24
        exact xA.iret rfl rfl rfl ⟨S, rfl, by simp only [aGlimpse]; rw [if_pos h4, if_pos h14, if_pos (by omega)], by unfold tGlimpse; rw [if_neg (by rintro ⟨q1, q2, q5, q6⟩; exact h24 q5)]; exact hc0, fun _ _ => rfl⟩
    · rw [xb_eq0] at h14
      refine xA.bipush (v := (-101)) rfl (by decide) rfl ?_
      exact xA.iret rfl rfl rfl ⟨S, rfl, by simp only [aGlimpse]; rw [if_pos h4, if_neg h14], by unfold tGlimpse; rw [if_neg (by rintro ⟨q1, q2, q5, q6⟩; first | exact h4 q1 | exact h14 q2 | exact h24 q5 | exact q6 h8)]; exact hc0, fun _ _ => rfl⟩
  · rw [xb_eq0] at h4
    refine xA.bipush (v := (-102)) rfl (by decide) rfl ?_
    exact xA.iret rfl rfl rfl ⟨S, rfl, by simp only [aGlimpse]; rw [if_neg h4], by unfold tGlimpse; rw [if_neg (by rintro ⟨q1, q2, q5, q6⟩; first | exact h4 q1 | exact h14 q2 | exact h24 q5 | exact q6 h8)]; exact hc0, fun _ _ => rfl⟩
set_option maxRecDepth 100000 in
set_option maxHeartbeats 1000000 in
theorem o_person (d : Nat) (s : sS) (k : Int32) : opC τ (d + 2) mX9_person [.ref 0, .int k] s (.int (aPerson s k)) (tPerson s k) := by
  intro S G hc
  have hc0 := hc
  obtain ⟨hpg, hho, hpp, htk, hgl, hsd, him, hno⟩ := hc
  refine xC.of okX9_person (Nat.le_of_ble_eq_true rfl) (L := [_, _, _, _]) rfl ?_
  refine xA.iload_n (i := 1) rfl rfl rfl rfl ?_
  refine xA.callSi (As := [_]) rfl k9_131 okX9_isKind rfl rfl (Nat.le_of_ble_eq_true rfl) (c_X9_isKind (d + 1) _ G _) rfl rfl ?_
  refine xA.if_ne (tgt := 10) rfl rfl rfl (fun h4 => ?_) (fun h4 => ?_)
  · rw [xb_ne0] at h4
    refine xA.aload_n (i := 0) rfl rfl rfl rfl ?_
    refine xA.callVi (As := []) rfl k9_120 okX9_hasHouse rfl rfl rfl rfl (Nat.le_of_ble_eq_true rfl) (c_X9_hasHouse (d + 1) _ G) rfl rfl ?_
    refine xA.if_ne (tgt := 20) rfl rfl rfl (fun h14 => ?_) (fun h14 => ?_)
    · rw [xb_ne0] at h14
      by_cases h44 : sP s = 4
      · rw [hr_pos hho] at h14
        refine xA.aload_n (i := 0) rfl rfl rfl rfl ?_
        refine xA.getI rfl f9_105 rfl rfl rfl ?_
        refine xA.topi ((hpp.1.trans (congrArg nI h44) : _ = nI 4)) ?_
        refine xA.istore_n (i := 2) (L' := [_, _, _, _]) rfl rfl (Nat.le_of_ble_eq_true rfl) rfl rfl ?_
        refine xA.iload_n (i := 2) rfl rfl rfl rfl ?_
        refine xA.iconst (v := 4) rfl (by decide) rfl ?_
        refine xA.icmp_lt (tgt := 33) rfl rfl rfl (fun h27 => ?_) (fun h27 => ?_)
        · exact absurd h27 (by decide)
        · refine xA.bipush (v := (-104)) rfl (by decide) rfl ?_
          exact xA.iret rfl rfl rfl ⟨S, rfl, by simp only [aPerson]; rw [if_pos h4, if_neg h14, if_pos h44], by unfold tPerson; rw [if_neg (by rintro ⟨q1, q5, q6⟩; first | exact h4 q1 | exact h14 q5 | exact q6 h44)]; exact hc0, fun _ _ => rfl⟩
      · rw [hr_pos hho] at h14
        have h4p : sP s < 4 := by have := hpp.2.1; omega
        obtain ⟨kk, hkk, rfl⟩ := rg_nI h4 (by omega)
        have off : ∀ j, ¬ (42 ≤ j ∧ j < 54) → j ≠ 0 → xu (xu (xu (xu (xu S 0 10 (nI (sP s + 1))) (42 + 3 * sP s) 1 (nI kk)) (42 + 3 * sP s + 1) 1 0) (42 + 3 * sP s + 1) 2 0) (42 + 3 * sP s + 1) 3 0 j = S j := fun j hj h0 => by funext q; simp only [xu]; rw [if_neg (by omega), if_neg (by omega), if_neg (by omega), if_neg (by omega), if_neg (by omega)]
        refine xA.aload_n (i := 0) rfl rfl rfl rfl ?_
        refine xA.getI rfl f9_105 rfl rfl rfl ?_
        refine xA.topi (hpp.1) ?_
        refine xA.istore_n (i := 2) (L' := [_, _, _, _]) rfl rfl (Nat.le_of_ble_eq_true rfl) rfl rfl ?_
        refine xA.iload_n (i := 2) rfl rfl rfl rfl ?_
        refine xA.iconst (v := 4) rfl (by decide) rfl ?_
        refine xA.icmp_lt (tgt := 33) rfl rfl rfl (fun h27 => ?_) (fun h27 => ?_)
        · refine xA.aload_n (i := 0) rfl rfl rfl rfl ?_
          refine xA.dup rfl rfl rfl ?_
          refine xA.getI rfl f9_105 rfl rfl rfl ?_
          refine xA.topi (hpp.1) ?_
          refine xA.iconst (v := 1) rfl (by decide) rfl ?_
          refine xA.iadd rfl rfl ?_
          refine xA.topi (nI_1 _) ?_
          refine xA.putI rfl p9_105 rfl rfl rfl ?_
          refine xA.aload_n (i := 0) rfl rfl rfl rfl ?_
          refine xA.iload_n (i := 2) rfl rfl rfl rfl ?_
          refine xA.callVr (As := [_]) rfl k9_134 okX9_personAt rfl rfl rfl rfl (Nat.le_of_ble_eq_true rfl) (c_X9_personAt (d + 1) _ G (sP s + 1) xu_same h4p (sP s) (by omega)) rfl rfl ?_
          refine xA.astore_n (i := 3) (L' := [_, _, _, _]) rfl rfl (Nat.le_of_ble_eq_true rfl) rfl rfl ?_
          refine xA.aload_n (i := 3) rfl rfl rfl rfl ?_
          refine xA.ifnull rfl rfl ?_
          refine xA.aload_n (i := 3) rfl rfl rfl rfl ?_
          refine xA.iload_n (i := 1) rfl rfl rfl rfl ?_
          refine xA.callVv (As := [_]) rfl k9_138 okX5_begin (isP (sP s) h4p).1 rfl rfl rfl (Nat.le_of_ble_eq_true rfl) (c_X5_begin d _ G (42 + 3 * sP s) (isP (sP s) h4p) (nI kk)) rfl rfl ?_
          refine xA.iload_n (i := 2) rfl rfl rfl rfl ?_
          exact xA.iret rfl rfl rfl ⟨_, rfl, by simp only [aPerson]; rw [if_pos h4, if_neg h14, if_neg h44], by
            unfold tPerson
            rw [if_pos ⟨h4, h14, h44⟩, nI_clamp (by omega)]
            refine ⟨hpg.to (off 1 (by omega) (by omega)) (off 2 (by omega) (by omega)), hho.to (by simp only [xu]; rw [if_neg (by omega), if_neg (by omega), if_neg (by omega), if_neg (by omega)]; rfl) (off 3 (by omega) (by omega)) (off 4 (by omega) (by omega)) (off 5 (by omega) (by omega)), ⟨by simp only [xu]; rw [if_neg (by omega), if_neg (by omega), if_neg (by omega), if_neg (by omega)]; rfl, by show sP s + 1 ≤ 4; omega, fun p hp => ?_⟩, htk.to (off _ (by omega) (by omega)) (off _ (by omega) (by omega)) (off _ (by omega) (by omega)) (off _ (by omega) (by omega)), hgl.to (off _ (by omega) (by omega)) (off _ (by omega) (by omega)), ⟨by simp only [xu]; rw [if_neg (by omega), if_neg (by omega), if_neg (by omega), if_neg (by omega)]; exact hsd.1, hsd.2⟩, him.to (fun j h1 h2 => off j (by omega) (by omega)), fun z => absurd z h14⟩
            have hp2 : p < sP s + 1 := hp
            show _ = nI (nu (sKd s) (sP s) kk p) ∧ nu (sKd s) (sP s) kk p < 5 ∧ lC _ _ (lu (sL s) (sP s) lE p) ∧ lG _ (lu (sL s) (sP s) lE p)
            by_cases e : p = sP s
            · subst e
              refine ⟨by simp [xu, nu], by simp [nu, hkk], ?_, by simp [lu, lG_E]⟩
              simp only [lu, if_true]
              exact ⟨by simp [xu, lE]; rfl, by simp [xu, lE]; rfl, by simp [xu, lE]; rfl, fun i hi => absurd hi (Nat.not_lt_zero _)⟩
            · obtain ⟨a1, a2, a3, a4⟩ := hpp.2.2 p (by omega)
              simp only [nu, lu, if_neg e]
              have o2 : ∀ j, j ≠ 0 → j ≠ 42 + 3 * sP s → j ≠ 42 + 3 * sP s + 1 → xu (xu (xu (xu (xu S 0 10 (nI (sP s + 1))) (42 + 3 * sP s) 1 (nI kk)) (42 + 3 * sP s + 1) 1 0) (42 + 3 * sP s + 1) 2 0) (42 + 3 * sP s + 1) 3 0 j = S j := fun j h0 h1 h2 => by funext q; simp only [xu]; rw [if_neg h2, if_neg h2, if_neg h2, if_neg h1, if_neg h0]
              exact ⟨by rw [o2 _ (by omega) (by omega) (by omega)]; exact a1, a2, a3.to (o2 _ (by omega) (by omega) (by omega)) (o2 _ (by omega) (by omega) (by omega)), a4⟩, fun j hj => off j (by omega) (by omega)⟩
        · exact absurd (nI_lt (b := 4) h4p (by omega)) h27
    · rw [xb_eq0] at h14
      refine xA.bipush (v := (-103)) rfl (by decide) rfl ?_
      rw [hr_pos hho] at h14
      exact xA.iret rfl rfl rfl ⟨S, rfl, by simp only [aPerson]; rw [if_pos h4, if_pos (by omega)], by unfold tPerson; rw [if_neg (by rintro ⟨q1, q5, q6⟩; exact h14 q5)]; exact hc0, fun _ _ => rfl⟩
  · rw [xb_eq0] at h4
    refine xA.bipush (v := (-102)) rfl (by decide) rfl ?_
    exact xA.iret rfl rfl rfl ⟨S, rfl, by simp only [aPerson]; rw [if_neg h4], by unfold tPerson; rw [if_neg (by rintro ⟨q1, q5, q6⟩; first | exact h4 q1 | exact h14 q5 | exact q6 h44)]; exact hc0, fun _ _ => rfl⟩
set_option maxRecDepth 100000 in
set_option maxHeartbeats 1000000 in
theorem o_fault (d : Nat) (s : sS) (w : Int32) : opC τ (d + 5) mX9_fault [.ref 0, .int w] s (.int (aFault s w)) (s) := by
  intro S G hc
  have hc0 := hc
  obtain ⟨hpg, hho, hpp, htk, hgl, hsd, him, hno⟩ := hc
  refine xC.of okX9_fault (Nat.le_of_ble_eq_true rfl) (L := [_, _]) rfl ?_
  refine xA.iload_n (i := 1) rfl rfl rfl rfl ?_
  refine xA.if_ne (tgt := 16) rfl rfl rfl (fun h1 => ?_) (fun h1 => ?_)
  · refine xA.iload_n (i := 1) rfl rfl rfl rfl ?_
    refine xA.iconst (v := 1) rfl (by decide) rfl ?_
    refine xA.icmp_ne (tgt := 31) rfl rfl rfl (fun h18 => ?_) (fun h18 => ?_)
    · refine xA.bipush (v := (-102)) rfl (by decide) rfl ?_
      exact xA.iret rfl rfl rfl ⟨S, rfl, by simp only [aFault]; first | (rw [if_neg h1, if_pos h18]; done) | (rw [if_neg h1, if_neg h18]; done), hc0, fun _ _ => rfl⟩
    · refine xA.aload_n (i := 0) rfl rfl rfl rfl ?_
      refine xA.getR rfl f9_12 rfl rfl rfl rfl ?_
      refine xA.callSi (As := [_]) rfl k9_94 okX3_faultIn rfl rfl (Nat.le_of_ble_eq_true rfl) (c_X3_faultIn d _ G (sPg s) (sN s) hpg) rfl rfl ?_
      refine xA.goto (q := 33) rfl rfl ?_
      exact xA.iret rfl rfl rfl ⟨S, rfl, by simp only [aFault]; first | (rw [if_neg h1, if_pos h18]; done) | (rw [if_neg h1, if_neg h18]; done), hc0, fun _ _ => rfl⟩
  · refine xA.aload_n (i := 0) rfl rfl rfl rfl ?_
    refine xA.getR rfl f9_23 rfl rfl rfl rfl ?_
    refine xA.aload_n (i := 0) rfl rfl rfl rfl ?_
    refine xA.getR rfl f9_12 rfl rfl rfl rfl ?_
    refine xA.callV (As := [_]) (h := ((σF τ), _, _)) rfl k9_90 okX1_read rfl rfl rfl rfl (Nat.le_of_ble_eq_true rfl) (c_X1_read d _ G 6 iH6 (by omega) (sPg s) (sN s) hpg) (Nat.le_refl _) (Nat.le_refl _) rfl rfl ?_
    rintro r9 h9 ⟨S2, rfl, hf2, rfl, -⟩
    exact xA.iret rfl rfl rfl ⟨S2, rfl, by simp only [aFault]; rw [if_pos h1], hc0.scr (fun j h1 h2 => hf2 j (by omega)), fun j hj => hf2 j (by omega)⟩
end
section
variable {τ : List xSh}
/-! ===== house, life, lives, image, restore ===== -/
/-- the house that a text is -/
def hrd (pg : Nat → Nat) (n : Nat) : Option hS := (hrun pg n).bind (fun h => if hSt h = 5 ∨ hSt h = 8 then some h else none)
def aHouse (s : sS) : Int32 := match hrd (sPg s) (sN s) with
  | none => -103
  | some h => nI (hNd h)
def tHouse (s : sS) : sS := match hrd (sPg s) (sN s) with
  | none => s
  | some h => mkS s (fun _ => 0) 0 (sHr s + 1) h 0 (sKd s) (sL s) (0, fun _ => 0, fun _ => 0, fun _ => 0) (0, fun _ => 0) (sSd s) (0, (sIm s).2)
theorem hgo_pre {pg : Nat → Nat} : ∀ n, pre (hgo pg) n = (hrun pg n).isSome := by
  intro n
  induction n with
  | zero => rfl
  | succ n ih =>
    rw [pre, ih, hgo]
    cases e : hrun pg n with
    | none => rw [hrun, e]; rfl
    | some h => simp
theorem hfpl {pg : Nat → Nat} {n : Nat} : fpl (hgo pg) n < n ↔ hrun pg n = none := by
  rw [fpl_lt, hgo_pre]
  cases hrun pg n <;> simp

set_option maxRecDepth 100000 in
set_option maxHeartbeats 1000000 in
theorem o_house (d : Nat) (s : sS) (h600 : sHr s < 600) : opC τ (d + 5) mX9_house [.ref 0] s (.int (aHouse s)) (tHouse s) := by
  intro S G hc
  have hc0 := hc
  obtain ⟨hpg, hho, hpp, htk, hgl, hsd, him, hno⟩ := hc
  refine xC.of okX9_house (Nat.le_of_ble_eq_true rfl) (L := [_]) rfl ?_
  refine xA.aload_n (i := 0) rfl rfl rfl rfl ?_
  refine xA.getR rfl f9_23 rfl rfl rfl rfl ?_
  refine xA.aload_n (i := 0) rfl rfl rfl rfl ?_
  refine xA.getR rfl f9_12 rfl rfl rfl rfl ?_
  refine xA.callV (As := [_]) (h := ((σF τ), _, _)) rfl k9_90 okX1_read rfl rfl rfl rfl (Nat.le_of_ble_eq_true rfl) (c_X1_read d _ G 6 iH6 (by omega) (sPg s) (sN s) hpg) (Nat.le_refl _) (Nat.le_refl _) rfl rfl ?_
  rintro r9 h9 ⟨S2, rfl, hf2, rfl, hc2⟩
  have hp2 : pgC S2 (sPg s) (sN s) := hpg.to (hf2 1 (by omega)) (hf2 2 (by omega))
  have hn45 := hpg.2.1
  have hfl := fpl_le (hgo (sPg s)) (sN s)
  refine xA.aload_n (i := 0) rfl rfl rfl rfl ?_
  refine xA.getR rfl f9_12 rfl rfl rfl rfl ?_
  refine xA.callVi (As := []) rfl k9_79 okX4_length rfl rfl rfl rfl (Nat.le_of_ble_eq_true rfl) (c_X4_length (d + 4) _ G) rfl rfl ?_
  refine xA.topi hp2.1 ?_
  rcases hru : hrun (sPg s) (sN s) with _ | h
  · have hlt := hfpl.mpr hru
    have hrdE : hrd (sPg s) (sN s) = none := by rw [hrd, hru]; rfl
    refine xA.icmp_lt (tgt := 31) rfl rfl rfl (fun h18 => ?_) (fun h18 => ?_)
    · refine xA.bipush (v := (-103)) rfl (by decide) rfl ?_
      exact xA.iret rfl rfl rfl ⟨S2, rfl, by simp only [aHouse, hrdE], by simp only [tHouse, hrdE]; exact hc0.scr (fun j h1 h2 => hf2 j (by omega)), fun j hj => hf2 j (by omega)⟩
    · exact absurd (nI_lt hlt (by omega)) h18
  · have hge : ¬ fpl (hgo (sPg s)) (sN s) < sN s := fun z => by rw [hfpl, hru] at z; cases z
    have hc2 := hc2 h hru
    have hst8 := (hrok _ _ _ hru).1
    have hst : (S2 6 6 = 5 ∨ S2 6 6 = 8) ↔ (hSt h = 5 ∨ hSt h = 8) := by
      rw [hc2.1]
      exact or_congr (nI_eq (b := 5) (by omega) (by omega)) (nI_eq (b := 8) (by omega) (by omega))
    refine xA.icmp_lt (tgt := 31) rfl rfl rfl (fun h18 => ?_) (fun h18 => ?_)
    · exact absurd ((nI_ltI (by omega) (by omega)).mp h18) hge
    · refine xA.aload_n (i := 0) rfl rfl rfl rfl ?_
      refine xA.getR rfl f9_23 rfl rfl rfl rfl ?_
      refine xA.callVi (As := []) rfl k9_97 okX1_isWhole rfl rfl rfl rfl (Nat.le_of_ble_eq_true rfl) (c_X1_isWhole (d + 4) _ G 6 iH6) rfl rfl ?_
      refine xA.if_ne (tgt := 34) rfl rfl rfl (fun h28 => ?_) (fun h28 => ?_)
      · rw [xb_ne0, hst] at h28
        have hwh := h28
        have hrdE : hrd (sPg s) (sN s) = some h := by rw [hrd, hru]; exact if_pos hwh
        refine xA.aload_n (i := 0) rfl rfl rfl rfl ?_
        refine xA.getR rfl f9_19 rfl rfl rfl rfl ?_
        refine xA.aload_n (i := 0) rfl rfl rfl rfl ?_
        refine xA.getR rfl f9_12 rfl rfl rfl rfl ?_
        refine xA.callV (As := [_]) (h := ((σF τ), _, _)) rfl k9_90 okX1_read rfl rfl rfl rfl (Nat.le_of_ble_eq_true rfl) (c_X1_read d _ G 3 iH3 (by omega) (sPg s) (sN s) hp2) (Nat.le_refl _) (Nat.le_refl _) rfl rfl ?_
        rintro r9 h9 ⟨S3, rfl, hf3, rfl, hc3⟩
        have hc3 := hc3 h hru
        have hp3 : pgC S3 (sPg s) (sN s) := hp2.to (hf3 1 (by omega)) (hf3 2 (by omega))
        refine xA.pop rfl rfl rfl ?_
        refine xA.aload_n (i := 0) rfl rfl rfl rfl ?_
        refine xA.dup rfl rfl rfl ?_
        refine xA.getI rfl f9_101 rfl rfl rfl ?_
        refine xA.topi (((by rw [hf3 0 (by omega), hf2 0 (by omega)]; exact hho.1) : S3 0 11 = nI (sHr s))) ?_
        refine xA.iconst (v := 1) rfl (by decide) rfl ?_
        refine xA.iadd rfl rfl ?_
        refine xA.topi (nI_1 _) ?_
        refine xA.putI rfl p9_101 rfl rfl rfl ?_
        refine xA.aload_n (i := 0) rfl rfl rfl rfl ?_
        refine xA.iconst (v := 0) rfl (by decide) rfl ?_
        refine xA.putI rfl p9_105 rfl rfl rfl ?_
        refine xA.aload_n (i := 0) rfl rfl rfl rfl ?_
        refine xA.getR rfl f9_42 rfl rfl rfl rfl ?_
        refine xA.callVv (As := []) rfl k9_108 okX7_clear rfl rfl rfl rfl (Nat.le_of_ble_eq_true rfl) (c_X7_clear (d + 4) _ G 12 iT12) rfl rfl ?_
        refine xA.aload_n (i := 0) rfl rfl rfl rfl ?_
        refine xA.getR rfl f9_49 rfl rfl rfl rfl ?_
        refine xA.callVv (As := []) rfl k9_109 okX0_clear rfl rfl rfl rfl (Nat.le_of_ble_eq_true rfl) (c_X0_clear (d + 4) _ G 16 iG16) rfl rfl ?_
        refine xA.aload_n (i := 0) rfl rfl rfl rfl ?_
        refine xA.getR rfl f9_56 rfl rfl rfl rfl ?_
        refine xA.callVv (As := []) rfl k9_110 okX2_drop rfl rfl rfl rfl (Nat.le_of_ble_eq_true rfl) (c_X2_drop (d + 4) _ G) rfl rfl ?_
        refine xA.aload_n (i := 0) rfl rfl rfl rfl ?_
        refine xA.getR rfl f9_12 rfl rfl rfl rfl ?_
        refine xA.callVv (As := []) rfl k9_87 okX4_clear rfl rfl rfl rfl (Nat.le_of_ble_eq_true rfl) (c_X4_clear (d + 4) _ G) rfl rfl ?_
        refine xA.aload_n (i := 0) rfl rfl rfl rfl ?_
        refine xA.getR rfl f9_19 rfl rfl rfl rfl ?_
        refine xA.callVi (As := []) rfl k9_113 okX1_doors rfl rfl rfl rfl (Nat.le_of_ble_eq_true rfl) (c_X1_doors (d + 4) _ G 3 iH3) rfl rfl ?_
        refine xA.topi (show _ = nI (hNd h) from by rw [show xu (xu (xu (xu (xu (xu S3 0 11 (nI (sHr s + 1))) 0 10 0) 12 3 0) 16 1 0) 18 3 0) 1 1 0 3 2 = S3 3 2 from by simp [xu]]; exact hc3.2.1) ?_
        have off : ∀ j, ¬ j = 0 → ¬ j = 1 → ¬ (3 ≤ j ∧ j < 9) → ¬ j = 12 → ¬ j = 16 → ¬ j = 18 → xu (xu (xu (xu (xu (xu S3 0 11 (nI (sHr s + 1))) 0 10 0) 12 3 0) 16 1 0) 18 3 0) 1 1 0 j = S j := fun j h0 h1 h3 h12 h16 h18 => by
          rw [← hf2 j (by omega), ← hf3 j (by omega)]
          funext q
          simp only [xu]
          rw [if_neg h1, if_neg h18, if_neg h16, if_neg h12, if_neg h0, if_neg h0]
        have off0 : ∀ q, ¬ q = 10 → ¬ q = 11 → xu (xu (xu (xu (xu (xu S3 0 11 (nI (sHr s + 1))) 0 10 0) 12 3 0) 16 1 0) 18 3 0) 1 1 0 0 q = S 0 q := fun q h1 h2 => by
          rw [← hf2 0 (by omega), ← hf3 0 (by omega)]
          simp [xu, h1, h2]
        have hsn : hSd (xu (xu (xu (xu (xu (xu S3 0 11 (nI (sHr s + 1))) 0 10 0) 12 3 0) 16 1 0) 18 3 0) 1 1 0) h := by
          have h33 : hSd S3 h := ⟨hc3, hrok _ _ _ hru, by omega⟩
          exact h33.to (by funext q; simp [xu]) (by funext q; simp [xu]) (by funext q; simp [xu])
        exact xA.iret rfl rfl rfl ⟨_, rfl, by simp only [aHouse, hrdE], by
          simp only [tHouse, hrdE]
          exact ⟨⟨by simp [xu]; rfl, by show 0 ≤ 45; omega, fun i hi => absurd hi (Nat.not_lt_zero _), fun i hi => absurd hi (Nat.not_lt_zero _)⟩, ⟨by simp [xu], by show sHr s + 1 ≤ 600; omega, fun z => absurd z (by show ¬ sHr s + 1 = 0; omega), fun _ => ⟨hsn, hwh⟩⟩, ⟨by simp [xu]; rfl, by show 0 ≤ 4; omega, fun p hp => absurd hp (Nat.not_lt_zero _)⟩, ⟨by simp [xu]; rfl, by show 0 ≤ 5; omega, fun i hi => absurd hi (Nat.not_lt_zero _)⟩, ⟨by simp [xu]; rfl, by show 0 ≤ 8; omega, fun i hi => absurd hi (Nat.not_lt_zero _)⟩, ⟨by rw [off0 12 (by omega) (by omega)]; exact hsd.1, hsd.2⟩, ⟨by simp [xu]; rfl, by show 0 ≤ 1; omega, fun z => absurd z (by show ¬ 0 = 1; omega)⟩, fun z => absurd z (by show ¬ sHr s + 1 = 0; omega)⟩, fun j hj => off j (by omega) (by omega) (by omega) (by omega) (by omega) (by omega)⟩
      · rw [xb_eq0, hst] at h28
        have hrdE : hrd (sPg s) (sN s) = none := by rw [hrd, hru]; exact if_neg h28
        refine xA.bipush (v := (-103)) rfl (by decide) rfl ?_
        exact xA.iret rfl rfl rfl ⟨S2, rfl, by simp only [aHouse, hrdE], by simp only [tHouse, hrdE]; exact hc0.scr (fun j h1 h2 => hf2 j (by omega)), fun j hj => hf2 j (by omega)⟩
def lpN (h : hS) (kd : Nat) : Nat := if kd = 2 then hBa h + 1 else hBa h
def aLife (s : sS) (p : Int32) : Int32 := if rg p (sP s) then (match lread (hD (sH s)) (hLo (sH s)) (lpN (sH s) (sKd s p.toNatClampNeg)) (sPg s) (sN s) with
    | none => -103
    | some l => nI (lN' l)) else -101
def tLife (s : sS) (p : Int32) : sS := if rg p (sP s) then (match lread (hD (sH s)) (hLo (sH s)) (lpN (sH s) (sKd s p.toNatClampNeg)) (sPg s) (sN s) with
    | none => s
    | some l => mkS s (fun _ => 0) 0 (sHr s) (sH s) (sP s) (sKd s) (lu (sL s) p.toNatClampNeg l) (sTk s) (sGl s) (sSd s) (sIm s)) else s
theorem nxH_room {D : Nat → Nat} {low m r s lp q : Nat} (h : nxH D low m r s lp = some q) (hr : r < 6) (hs : s < 8) : q % 6 = if s < 6 then s else r := by
  unfold nxH at h
  split at h
  · split at h
    · cases h; rw [if_neg (by omega)]; omega
    · cases h
  · split at h
    · cases h
    · split at h
      · cases h; rw [if_neg (by omega)]; omega
      · split at h
        · cases h
        · cases h; rw [if_pos (by omega)]; omega
theorem nxH_door {D : Nat → Nat} {low m r s lp q : Nat} (h : nxH D low m r s lp = some q) (hs : s < 6) : ¬ D (r * 6 + s) = 0 := by
  intro z
  simp [nxH, show ¬ s = 7 by omega, show ¬ s = 6 by omega, z] at h
/-- the doors' bits are the doors gone through -/
theorem lstep_thr {h : hS} (ho : hOk h) {lp s : Nat} {l l2 : lS} (hlo : lOk l) (hs8 : s < 8) (hl : ∀ j, j < hNd h → (lDb l).testBit j = thr h l j) (hst : lstep (hD h) (hLo h) lp l s = some l2) : ∀ j, j < hNd h → (lDb l2).testBit j = thr h l2 j := by
  intro j hj
  obtain ⟨q, hq, rfl⟩ := Option.map_eq_some_iff.mp hst
  have h1 := hlo.1
  have hsp := hlo.2.2.1 (lN' l - 1) (by omega)
  have hqr := nxH_room hq (by omega) hs8
  obtain ⟨o1, o2, o3⟩ := ho.2.2.2.2.2.2.2.2.2.2.2.2.1 j hj
  have e1 : thr h (lN' l + 1, nu (lSp l) (lN' l) q, lTh l + (if s = 7 then 1 else 0), if s < 6 then lDb l ||| 2 ^ (hD h (lSp l (lN' l - 1) % 6 * 6 + s) - 1) else lDb l) j = (thr h l j || decide ((lSp l (lN' l - 1) % 6 = hOn h j ∧ q % 6 = hTw h j) ∨ (lSp l (lN' l - 1) % 6 = hTw h j ∧ q % 6 = hOn h j))) := by
    unfold thr
    show decide (0 < cn (fun i => decide ((nu (lSp l) (lN' l) q i % 6 = hOn h j ∧ nu (lSp l) (lN' l) q (i + 1) % 6 = hTw h j) ∨ (nu (lSp l) (lN' l) q i % 6 = hTw h j ∧ nu (lSp l) (lN' l) q (i + 1) % 6 = hOn h j))) (lN' l + 1 - 1)) = _
    rw [show lN' l + 1 - 1 = lN' l - 1 + 1 by omega, cn]
    have e2 : cn (fun i => decide ((nu (lSp l) (lN' l) q i % 6 = hOn h j ∧ nu (lSp l) (lN' l) q (i + 1) % 6 = hTw h j) ∨ (nu (lSp l) (lN' l) q i % 6 = hTw h j ∧ nu (lSp l) (lN' l) q (i + 1) % 6 = hOn h j))) (lN' l - 1) = cn (fun i => decide ((lSp l i % 6 = hOn h j ∧ lSp l (i + 1) % 6 = hTw h j) ∨ (lSp l i % 6 = hTw h j ∧ lSp l (i + 1) % 6 = hOn h j))) (lN' l - 1) :=
      cn_congr fun i hi => by rw [nu_ne (by omega), nu_ne (by omega)]
    rw [e2, nu_ne (by omega), show lN' l - 1 + 1 = lN' l by omega, nu_same]
    generalize cn _ _ = c
    by_cases hc : 0 < c
    · rw [decide_eq_true hc, Bool.true_or]; exact decide_eq_true (by omega)
    · rw [decide_eq_false hc, Bool.false_or]
      have : c = 0 := by omega
      subst this
      by_cases hx : (lSp l (lN' l - 1) % 6 = hOn h j ∧ q % 6 = hTw h j) ∨ (lSp l (lN' l - 1) % 6 = hTw h j ∧ q % 6 = hOn h j)
      · simp [hx]
      · simp [hx]
  rw [e1, ← hl j hj]
  have oD := ho.2.2.2.2.2.2.2.2.2.2.1
  have o0 := ho.2.2.2.2.2.2.2.2.2.2.2.1
  have oJ := ho.2.2.2.2.2.2.2.2.2.2.2.2.2.1
  have hr6 : lSp l (lN' l - 1) % 6 < 6 := by omega
  generalize lSp l (lN' l - 1) % 6 = r at *
  by_cases hs6 : s < 6
  · rw [if_pos hs6] at hqr
    show (if s < 6 then lDb l ||| 2 ^ (hD h (r * 6 + s) - 1) else lDb l).testBit j = _
    rw [if_pos hs6, Nat.testBit_or, Nat.testBit_two_pow, hqr]
    congr 1
    refine decide_eq_decide.mpr ?_
    have hd := nxH_door hq hs6
    constructor
    · intro z
      rcases oJ r s j hr6 hs6 (by omega) with q9 | q9
      · exact Or.inl ⟨q9.1, q9.2⟩
      · exact Or.inr ⟨q9.1, q9.2⟩
    · rintro (⟨z1, z2⟩ | ⟨z1, z2⟩)
      · rw [z1, z2, o3]; omega
      · rw [z1, z2, (oD _ _ o2 o1).1, o3]; omega
  · rw [if_neg hs6] at hqr
    show (if s < 6 then lDb l ||| 2 ^ (hD h (r * 6 + s) - 1) else lDb l).testBit j = _
    rw [if_neg hs6, hqr]
    have : ¬ ((r = hOn h j ∧ r = hTw h j) ∨ (r = hTw h j ∧ r = hOn h j)) := by
      intro z
      have e : hOn h j = hTw h j := by omega
      rw [e, o0 _ o2] at o3
      omega
    simp [this]

theorem lrun_thr {h : hS} (ho : hOk h) {lp : Nat} {pg : Nat → Nat} (h0 : lOk (l0 pg)) (hD10 : ∀ a, a < 36 → hD h a ≤ 10) {n : Nat} (hn : n ≤ 16) (hst : ∀ i, i < n → (stp (pg (3 + i))).isSome = true) : ∀ i, i ≤ n → ∀ l, lrun (hD h) (hLo h) lp pg i = some l → ∀ j, j < hNd h → (lDb l).testBit j = thr h l j := by
  intro i
  induction i with
  | zero => intro _ l hl j _; cases hl; show (0 : Nat).testBit j = decide (0 < 0); simp
  | succ i ih =>
    intro hi l hl
    obtain ⟨l1, e1, e2⟩ := Option.bind_eq_some_iff.mp hl
    obtain ⟨s, es⟩ := Option.isSome_iff_exists.mp (hst i (by omega))
    rw [es] at e2
    exact lstep_thr ho (lrun_ok h0 hD10 hn hst i (by omega) l1 e1).1 (stp_lt es) (ih (by omega) l1 e1) e2
theorem lread_pre {pg : Nat → Nat} {n : Nat} (hn3 : ¬ n < 3) (hf : ¬ fpl (fun j => lfo j (pg j)) n < n) : lOk (l0 pg) ∧ n - 3 ≤ 16 ∧ ∀ i, i < n - 3 → (stp (pg (3 + i))).isSome = true := by
  have hpre : pre (fun j => lfo j (pg j)) n = true := by
    by_cases z : pre (fun j => lfo j (pg j)) n = true
    · exact z
    · exact absurd (fpl_lt.mpr (by simpa using z)) hf
  have g0 := hdg_get (c := pg 0) (lo := 0) (hi := 5) (by have := pre_get hpre 0 (by omega); simpa [lfo] using this)
  have g1 := hdg_get (c := pg 1) (lo := 0) (hi := 9) (by have := pre_get hpre 1 (by omega); simpa [lfo] using this)
  have g2 := hdg_get (c := pg 2) (lo := 0) (hi := 5) (by have := pre_get hpre 2 (by omega); simpa [lfo] using this)
  refine ⟨⟨by show 1 ≤ 1; omega, by show 1 ≤ 17; omega, fun i _ => by show (10 * (pg 0 - 48) + (pg 1 - 48)) * 6 + (pg 2 - 48) < 360; omega, by show 0 < 1; omega, by show 0 < 1024; omega⟩, ?_, fun i hi => ?_⟩
  · rcases Nat.lt_or_ge 19 n with z | z
    · have := pre_get hpre 19 (by omega)
      simp [lfo] at this
    · omega
  · have := pre_get hpre (3 + i) (by omega)
    simp only [lfo] at this
    rw [if_neg (by omega), if_neg (by omega)] at this
    simp only [Bool.and_eq_true] at this
    exact this.2
theorem lread_lG {h : hS} (ho : hOk h) (hD10 : ∀ a, a < 36 → hD h a ≤ 10) {lp : Nat} {pg : Nat → Nat} {n : Nat} {l : lS} (hl : lread (hD h) (hLo h) lp pg n = some l) : lG h l ∧ 1 ≤ lN' l := by
  unfold lread at hl
  split at hl
  · cases hl
  · rename_i hn
    obtain ⟨a1, a2, a3⟩ := lread_pre (pg := pg) (n := n) (by omega) (by omega)
    have b1 := (lrun_ok a1 hD10 a2 a3 _ (Nat.le_refl _) l hl).1
    exact ⟨⟨b1.2.1, b1.2.2.1, by have := b1.2.1; have := b1.2.2.2.1; omega, b1.2.2.2.2, lrun_thr ho a1 hD10 a2 a3 _ (Nat.le_refl _) l hl⟩, b1.1⟩
theorem lcE_lC {S : Nat → Nat → Int32} {k k2 : Nat} {l : lS} (hl : lC S k2 l) : lC (lcE S k k2 (lN' l)) k l := by
  refine ⟨by simp [lcE], by simp [lcE, hl.2.1], by simp [lcE, hl.2.2.1], fun i hi => ?_⟩
  simp [lcE, hi, hl.2.2.2 i hi]
theorem lcE_off {S : Nat → Nat → Int32} {k k2 n j : Nat} (h1 : j ≠ k) (h2 : j ≠ k + 1) : lcE S k k2 n j = S j := by
  funext i
  simp [lcE, h1, h2]

set_option maxRecDepth 100000 in
set_option maxHeartbeats 1000000 in
theorem o_life (d : Nat) (s : sS) (x : Int32) : opC τ (d + 6) mX9_life [.ref 0, .int x] s (.int (aLife s x)) (tLife s x) := by
  intro S G hc
  have hc0 := hc
  obtain ⟨hpg, hho, hpp, htk, hgl, hsd, him, hno⟩ := hc
  refine xC.of okX9_life (Nat.le_of_ble_eq_true rfl) (L := [_, _, _, _]) rfl ?_
  by_cases hx : rg x (sP s)
  · obtain ⟨i, hi, rfl⟩ := rg_nI hx (by have := hpp.2.1; omega)
    have hi4 : i < 4 := by have := hpp.2.1; omega
    have hci : (nI i).toNatClampNeg = i := nI_clamp (by omega)
    obtain ⟨hkd, hkd5, hl, hg⟩ := hpp.2.2 i hi
    have hhr : 0 < sHr s := by
      rcases Nat.eq_zero_or_pos (sHr s) with z | z
      · have := (hno z).1; omega
      · exact z
    have hsd3 := (hho.2.2.2 hhr).1
    have hba := hsd3.2.1.2.2.2.2.2.2.1 hsd3.2.2
    have hlp10 : lpN (sH s) (sKd s i) ≤ 10 := by unfold lpN; split <;> omega
    refine xA.aload_n (i := 0) rfl rfl rfl rfl ?_
    refine xA.iload_n (i := 1) rfl rfl rfl rfl ?_
    refine xA.callVr (As := [_]) rfl k9_134 okX9_personAt rfl rfl rfl rfl (Nat.le_of_ble_eq_true rfl) (c_X9_personAt (d + 5) _ G (sP s) hpp.1 hpp.2.1 i hi) rfl rfl ?_
    refine xA.astore_n (i := 2) (L' := [_, _, _, _]) rfl rfl (Nat.le_of_ble_eq_true rfl) rfl rfl ?_
    refine xA.aload_n (i := 2) rfl rfl rfl rfl ?_
    refine xA.ifnonnull (q := 13) rfl rfl ?_
    refine xA.aload_n (i := 0) rfl rfl rfl rfl ?_
    refine xA.getR rfl f9_19 rfl rfl rfl rfl ?_
    refine xA.aload_n (i := 2) rfl rfl rfl rfl ?_
    refine xA.callVi (As := []) rfl k9_142 okX5_kind (isP i hi4).1 rfl rfl rfl (Nat.le_of_ble_eq_true rfl) (c_X5_kind (d + 5) _ G (42 + 3 * i) (isP i hi4)) rfl rfl ?_
    refine xA.topi hkd ?_
    refine xA.callVi (As := [_]) rfl k9_145 okX1_leapOf rfl rfl rfl rfl (Nat.le_of_ble_eq_true rfl) (c_X1_leapOf (d + 4) _ G 3 iH3 (nI (sKd s i))) rfl rfl ?_
    refine xA.topi (show _ = nI (lpN (sH s) (sKd s i)) from by rw [hsd3.1.2.2.2.2.1 hsd3.2.2]; unfold lpN; simp only [show (nI (sKd s i) = 2 ↔ sKd s i = 2) from nI_eq (b := 2) (by omega) (by omega), nI_1]; split <;> rfl) ?_
    refine xA.istore_n (i := 3) (L' := [_, _, _, _]) rfl rfl (Nat.le_of_ble_eq_true rfl) rfl rfl ?_
    refine xA.aload_n (i := 0) rfl rfl rfl rfl ?_
    refine xA.getR rfl f9_29 rfl rfl rfl rfl ?_
    refine xA.aload_n (i := 0) rfl rfl rfl rfl ?_
    refine xA.getR rfl f9_12 rfl rfl rfl rfl ?_
    refine xA.aload_n (i := 0) rfl rfl rfl rfl ?_
    refine xA.getR rfl f9_19 rfl rfl rfl rfl ?_
    refine xA.iload_n (i := 3) rfl rfl rfl rfl ?_
    refine xA.callV (As := [_, _, _]) (h := ((σF τ), _, _)) rfl k9_149 okX3_read rfl rfl rfl rfl (Nat.le_of_ble_eq_true rfl) (c_X3_read d _ G (sH s) hsd3 (sPg s) (sN s) hpg (lpN (sH s) (sKd s i)) hlp10) (Nat.le_refl _) (Nat.le_refl _) rfl rfl ?_
    rintro r9 h9 ⟨S2, rfl, hf2, rfl, hl9⟩
    refine xA.if_ne (tgt := 47) rfl rfl rfl (fun h41 => ?_) (fun h41 => ?_)
    · rw [xb_ne0] at h41
      obtain ⟨l, hlr⟩ := Option.isSome_iff_exists.mp h41
      have hl99 := hl9 l hlr
      refine xA.aload_n (i := 2) rfl rfl rfl rfl ?_
      refine xA.callVr (As := []) rfl k9_152 okX5_lived (isP i hi4).1 rfl rfl rfl (Nat.le_of_ble_eq_true rfl) (c_X5_lived (d + 5) _ G (42 + 3 * i) (isP i hi4)) rfl rfl ?_
      refine xA.aload_n (i := 0) rfl rfl rfl rfl ?_
      refine xA.getR rfl f9_29 rfl rfl rfl rfl ?_
      refine xA.callVv (As := [_]) rfl k9_156 okX3_copyFrom (isP i hi4).2.1 rfl rfl rfl (Nat.le_of_ble_eq_true rfl) (c_X3_copyFrom (d + 4) _ G (42 + 3 * i + 1) (isP i hi4).2 9 iL9 (by omega) (lN' l) hl99.1.1 hl99.2.2.1) rfl rfl ?_
      refine xA.aload_n (i := 0) rfl rfl rfl rfl ?_
      refine xA.getR rfl f9_12 rfl rfl rfl rfl ?_
      refine xA.callVv (As := []) rfl k9_87 okX4_clear rfl rfl rfl rfl (Nat.le_of_ble_eq_true rfl) (c_X4_clear (d + 5) _ G) rfl rfl ?_
      refine xA.aload_n (i := 2) rfl rfl rfl rfl ?_
      refine xA.callVr (As := []) rfl k9_152 okX5_lived (isP i hi4).1 rfl rfl rfl (Nat.le_of_ble_eq_true rfl) (c_X5_lived (d + 5) _ G (42 + 3 * i) (isP i hi4)) rfl rfl ?_
      refine xA.callVi (As := []) rfl k9_160 okX3_selves (isP i hi4).2.1 rfl rfl rfl (Nat.le_of_ble_eq_true rfl) (c_X3_selves (d + 5) _ G (42 + 3 * i + 1) (isP i hi4).2) rfl rfl ?_
      refine xA.topi (show _ = nI (lN' l) from by rw [show (xu (lcE S2 (42 + 3 * i + 1) 9 (lN' l)) 1 1 0) (42 + 3 * i + 1) 1 = lcE S2 (42 + 3 * i + 1) 9 (lN' l) (42 + 3 * i + 1) 1 from xu_ne1 (by omega)]; exact (lcE_lC hl99.1).1) ?_
      have off : ∀ j, ¬ j = 1 → ¬ (9 ≤ j ∧ j < 11) → j ≠ 42 + 3 * i + 1 → j ≠ 42 + 3 * i + 1 + 1 → (xu (lcE S2 (42 + 3 * i + 1) 9 (lN' l)) 1 1 0) j = S j := fun j h1 h9 h2 h3 => by
        rw [show (xu (lcE S2 (42 + 3 * i + 1) 9 (lN' l)) 1 1 0) j = lcE S2 (42 + 3 * i + 1) 9 (lN' l) j from by funext q; exact xu_ne1 h1, lcE_off h2 h3]; exact hf2 j (by omega)
      exact xA.iret rfl rfl rfl ⟨_, rfl, by simp only [aLife]; rw [if_pos hx, hci]; simp only [hlr], by
        simp only [tLife]; rw [if_pos hx, hci]; simp only [hlr]
        refine ⟨⟨by simp [xu]; rfl, by show 0 ≤ 45; omega, fun i hi => absurd hi (Nat.not_lt_zero _), fun i hi => absurd hi (Nat.not_lt_zero _)⟩, hho.to (by rw [off 0 (by omega) (by omega) (by omega) (by omega)]) (off 3 (by omega) (by omega) (by omega) (by omega)) (off 4 (by omega) (by omega) (by omega) (by omega)) (off 5 (by omega) (by omega) (by omega) (by omega)), ⟨by rw [off 0 (by omega) (by omega) (by omega) (by omega)]; exact hpp.1, hpp.2.1, fun p hp => ?_⟩, htk.to (off _ (by omega) (by omega) (by omega) (by omega)) (off _ (by omega) (by omega) (by omega) (by omega)) (off _ (by omega) (by omega) (by omega) (by omega)) (off _ (by omega) (by omega) (by omega) (by omega)), hgl.to (off _ (by omega) (by omega) (by omega) (by omega)) (off _ (by omega) (by omega) (by omega) (by omega)), ⟨by rw [off 0 (by omega) (by omega) (by omega) (by omega)]; exact hsd.1, hsd.2⟩, him.to (fun j h1 h2 => off j (by omega) (by omega) (by omega) (by omega)), hno⟩
        obtain ⟨a1, a2, a3, a4⟩ := hpp.2.2 p hp
        refine ⟨by rw [off _ (by omega) (by omega) (by omega) (by omega)]; exact a1, a2, ?_⟩
        show lC _ _ (lu (sL s) i l p) ∧ lG _ (lu (sL s) i l p)
        by_cases e : p = i
        · subst e
          simp only [lu, if_true]
          exact ⟨(lcE_lC hl99.1).to (by funext q; exact xu_ne1 (by omega)) (by funext q; exact xu_ne1 (by omega)), (lread_lG hsd3.2.1 hsd3.D hlr).1⟩
        · simp only [lu, if_neg e]
          exact ⟨a3.to (off _ (by omega) (by omega) (by omega) (by omega)) (off _ (by omega) (by omega) (by omega) (by omega)), a4⟩, fun j hj => off j (by omega) (by omega) (by omega) (by omega)⟩
    · rw [xb_eq0] at h41
      refine xA.bipush (v := (-103)) rfl (by decide) rfl ?_
      have hlr : lread (hD (sH s)) (hLo (sH s)) (lpN (sH s) (sKd s i)) (sPg s) (sN s) = none := by simpa using h41
      exact xA.iret rfl rfl rfl ⟨S2, rfl, by simp only [aLife]; rw [if_pos hx, hci]; simp only [hlr], by simp only [tLife]; rw [if_pos hx, hci]; simp only [hlr]; exact hc0.scr (fun j h1 h2 => hf2 j (by omega)), fun j hj => hf2 j (by omega)⟩
  · skip
    refine xA.aload_n (i := 0) rfl rfl rfl rfl ?_
    refine xA.iload_n (i := 1) rfl rfl rfl rfl ?_
    refine xA.callVr (As := [_]) rfl k9_134 okX9_personAt rfl rfl rfl rfl (Nat.le_of_ble_eq_true rfl) (c_X9_personAtN (d + 5) _ G (sP s) hpp.1 hpp.2.1 x hx) rfl rfl ?_
    refine xA.astoreN_n (i := 2) (L' := [_, _, _, _]) rfl rfl (Nat.le_of_ble_eq_true rfl) rfl rfl ?_
    refine xA.aloadN_n (i := 2) rfl rfl rfl rfl ?_
    refine xA.ifnonnullN rfl rfl ?_
    refine xA.bipush (v := (-101)) rfl (by decide) rfl ?_
    exact xA.iret rfl rfl rfl ⟨S, rfl, by simp only [aLife]; rw [if_neg hx], by simp only [tLife]; rw [if_neg hx]; exact hc0, fun _ _ => rfl⟩
end
section
variable {τ : List xSh}
/-! ===== lives, image, restore ===== -/
theorem nI_div {a b : Nat} (ha : a < 2 ^ 31) (hb : b < 2 ^ 31) (h0 : 0 < b) : nI a / nI b = nI (a / b) := by
  have h1 : a / b ≤ a := Nat.div_le_self a b
  rw [i32_ext, Int32.toInt_div_of_ne_left _ _ (by intro z; have := nI_toInt ha; rw [z] at this; have e : (Int32.minValue).toInt = -2147483648 := by decide
                                                  omega), nI_toInt ha, nI_toInt hb, nI_toInt (by omega), Int.tdiv_eq_ediv_of_nonneg (by omega)]
  omega
theorem sdN_nn (x : Int32) : ∃ X, X < 2 ^ 31 ∧ sdN x = nI X := by
  unfold sdN
  generalize 1103515245 * x.toInt64 + 12345 = y
  refine ⟨y.toUInt64.toNat % 2 ^ 31, Nat.mod_lt _ (by decide), ?_⟩
  have h3 : y.toUInt64.toNat % 2 ^ 31 < 2 ^ 31 := Nat.mod_lt _ (by decide)
  have e : y &&& 2147483647 = lN (y.toUInt64.toNat % 2 ^ 31) := by
    apply Int64.toBitVec_inj.mp
    apply BitVec.eq_of_toNat_eq
    rw [Int64.toBitVec_and, BitVec.toNat_and]
    have h1 : y.toBitVec.toNat = y.toUInt64.toNat := rfl
    have h2 : ((2147483647 : Int64)).toBitVec.toNat = 2 ^ 31 - 1 := by decide
    rw [h1, h2, Nat.and_two_pow_sub_one_eq_mod]
    show _ = (BitVec.ofNat 64 (y.toUInt64.toNat % 2 ^ 31)).toNat
    rw [BitVec.toNat_ofNat]
    omega
  rw [e, i32_ext, Int64.toInt_toInt32, lN_toInt (by omega), nI_toInt h3, Int.bmod_def]
  split <;> omega
theorem drN_nn {x : Int32} {w : Nat} (h : ∃ X, X < 2 ^ 31 ∧ x = nI X) (h0 : 0 < w) (h8 : w ≤ 8) : ∃ j, j < w ∧ drN x (nI w) = nI j := by
  obtain ⟨X, hX, rfl⟩ := h
  refine ⟨X / 65536 % w, Nat.mod_lt _ h0, ?_⟩
  have hA : X / 65536 ≤ X := Nat.div_le_self _ _
  have hB := Nat.div_mul_le_self (X / 65536) w
  unfold drN
  rw [show (65536 : Int32) = nI 65536 from rfl, nI_div hX (by decide) (by decide), nI_div (by omega) (by omega) h0, nI_mul, nI_sub hB]
  congr 1
  have := Nat.div_add_mod (X / 65536) w
  rw [Nat.mul_comm] at this
  omega
/-- a life by a seed: spot, how often through the low door, the seed -/
def wgo (D : Nat → Nat) (low lp : Nat) : Nat → Nat → Int32 → Int32 → Nat × Int32 × Int32
  | 0, sp, th, sd => (sp, th, sd)
  | k + 1, sp, th, sd => if cn (mayF D low (sp / 6) (sp % 6) lp) 8 = 0 then (sp, th, sd) else
      wgo D low lp k ((nxH D low (sp / 6) (sp % 6) (pick (mayF D low (sp / 6) (sp % 6) lp) 8 0 (drN (sdN sd) (nI (cn (mayF D low (sp / 6) (sp % 6) lp) 8))).toNatClampNeg) lp).getD 0)
        (th + (if pick (mayF D low (sp / 6) (sp % 6) lp) 8 0 (drN (sdN sd) (nI (cn (mayF D low (sp / 6) (sp % 6) lp) 8))).toNatClampNeg = 7 then 1 else 0)) (sdN sd)
def wS (S : Nat → Nat → Int32) (sp : Nat) (th sd : Int32) : Nat → Nat → Int32 := fun j i => if j = 41 then (if i = 0 then nI sp else if i = 1 then th else if i = 2 then sd else S j i) else S j i
theorem wS_off {S : Nat → Nat → Int32} {sp j : Nat} {th sd : Int32} (h : j ≠ 41) : wS S sp th sd j = S j := by funext i; simp [wS, h]
theorem wgo_lt {D : Nat → Nat} {low lp : Nat} : ∀ k sp th sd, sp < 360 → (wgo D low lp k sp th sd).1 < 360 := by
  intro k
  induction k with
  | zero => intro sp th sd h; exact h
  | succ k ih =>
    intro sp th sd h
    rw [wgo]
    split
    · exact h
    · rename_i hz
      refine ih _ _ _ ?_
      obtain ⟨j, hj, ej⟩ := drN_nn (w := cn (mayF D low (sp / 6) (sp % 6) lp) 8) (sdN_nn sd) (by omega) (cn_le _ _)
      have hj8 := cn_le (mayF D low (sp / 6) (sp % 6) lp) 8
      rw [ej, nI_clamp (by omega)]
      have hp := pick_spec (f := mayF D low (sp / 6) (sp % 6) lp) 8 0 j (by simpa using hj)
      obtain ⟨q, hq⟩ := Option.isSome_iff_exists.mp hp.2.2
      rw [hq]
      exact nxH_lt hq (by omega) (by omega) (by omega)

set_option maxRecDepth 100000 in
set_option maxHeartbeats 1000000 in
theorem c_X8_go (d : Nat) (S : Nat → Nat → Int32) (G : Nat → Nat → Int64) (h : hS) (hh : hSd S h) (lp : Nat) (hlp : lp ≤ 10) (steps : Nat) (hst : steps ≤ 16) (sp0 : Nat) (th0 sd0 : Int32) (hsp0 : sp0 < 360) (hS0 : S 41 0 = nI sp0 ∧ S 41 1 = th0 ∧ S 41 2 = sd0) : xR τ (d + 4) mX8_go [.ref 41, .ref 3, .int (nI lp), .int (nI steps)] S G none (wS S (wgo (hD h) (hLo h) lp steps sp0 th0 sd0).1 (wgo (hD h) (hLo h) lp steps sp0 th0 sd0).2.1 (wgo (hD h) (hLo h) lp steps sp0 th0 sd0).2.2) G := by
  refine xC.of okX8_go (Nat.le_of_ble_eq_true rfl) (L := [_, _, _, _, _, _]) rfl ?_
  have loop : ∀ i, i ≤ steps → ∀ sp th sd, sp < 360 → wgo (hD h) (hLo h) lp (steps - i) sp th sd = (wgo (hD h) (hLo h) lp steps sp0 th0 sd0) → ∀ x5 : Option Value, xA none (d + 4) mX8_go 0 0 0 0 3 [some (.ref 41), some (.ref 3), some (.int (nI lp)), some (.int (nI steps)), some (.int (nI i)), x5] [] ((σF τ), wS S sp th sd, G) (fun r' h' => r' = none ∧ h' = ((σF τ), (wS S (wgo (hD h) (hLo h) lp steps sp0 th0 sd0).1 (wgo (hD h) (hLo h) lp steps sp0 th0 sd0).2.1 (wgo (hD h) (hLo h) lp steps sp0 th0 sd0).2.2), G)) := by
    refine xloop steps (fun i hi ih => ?_) ?_
    · intro sp th sd hsp hF x5
      have hh2 : hSd (wS S sp th sd) h := hh.to (wS_off (by omega)) (wS_off (by omega)) (wS_off (by omega))
      have hw8 := cn_le (mayF (hD h) (hLo h) (sp / 6) (sp % 6) lp) 8
      obtain ⟨k, hk⟩ : ∃ k, steps - i = k + 1 := ⟨steps - i - 1, by omega⟩
      rw [hk, wgo] at hF
      refine xA.iload rfl rfl rfl ?_
      refine xA.iload_n (i := 3) rfl rfl rfl rfl ?_
      refine xA.icmp_ge (tgt := 42) rfl rfl rfl (fun h6 => ?_) (fun h6 => ?_)
      · exact absurd h6 (nI_ge hi (by omega))
      · refine xA.aload_n (i := 0) rfl rfl rfl rfl ?_
        refine xA.aload_n (i := 1) rfl rfl rfl rfl ?_
        refine xA.iload_n (i := 2) rfl rfl rfl rfl ?_
        refine xA.callVi (As := [_, _]) rfl k8_21 okX8_waysOn rfl rfl rfl rfl (Nat.le_of_ble_eq_true rfl) (c_X8_waysOn d _ G h hh2 (sp / 6) (sp % 6) lp (by omega) (by omega) hlp (by show wS S sp th sd 41 0 = nI (sp / 6 * 6 + sp % 6); rw [show sp / 6 * 6 + sp % 6 = sp by omega]; simp [wS])) rfl rfl ?_
        refine xA.istore (L' := [_, _, _, _, _, _]) rfl (Nat.le_of_ble_eq_true rfl) rfl rfl ?_
        refine xA.iload rfl rfl rfl ?_
        refine xA.iconst (v := 1) rfl (by decide) rfl ?_
        refine xA.icmp_ge (tgt := 24) rfl rfl rfl (fun h20 => ?_) (fun h20 => ?_)
        · have hw0 : ¬ (cn (mayF (hD h) (hLo h) (sp / 6) (sp % 6) lp) 8) = 0 := fun z => absurd h20 (by rw [z]; decide)
          rw [if_neg hw0] at hF
          obtain ⟨j, hj, ej⟩ := drN_nn (w := (cn (mayF (hD h) (hLo h) (sp / 6) (sp % 6) lp) 8)) (sdN_nn sd) (by omega) hw8
          rw [ej, nI_clamp (by omega)] at hF
          have hp := pick_spec (f := (mayF (hD h) (hLo h) (sp / 6) (sp % 6) lp)) 8 0 j (by simpa using hj)
          obtain ⟨q, hq⟩ := Option.isSome_iff_exists.mp hp.2.2
          rw [hq] at hF
          have hq3 := nxH_lt hq (by omega) (by omega) (by omega)
          refine xA.aload_n (i := 0) rfl rfl rfl rfl ?_
          refine xA.aload_n (i := 1) rfl rfl rfl rfl ?_
          refine xA.iload_n (i := 2) rfl rfl rfl rfl ?_
          refine xA.aload_n (i := 0) rfl rfl rfl rfl ?_
          refine xA.iload rfl rfl rfl ?_
          refine xA.callVi (As := [_]) rfl k8_25 okX8_draw rfl rfl rfl rfl (Nat.le_of_ble_eq_true rfl) (c_X8_draw (d + 3) _ G (nI (cn (mayF (hD h) (hLo h) (sp / 6) (sp % 6) lp) 8)) (by rw [Int32.lt_iff_toInt_lt, nI_toInt (by omega)]; show ¬ ((_ : Int) < 1); omega)) rfl rfl ?_
          rw [show wS S sp th sd 41 2 = sd from by simp [wS]]
          refine xA.topi ej ?_
          refine xA.callVv (As := [_, _, _]) rfl k8_29 okX8_take rfl rfl rfl rfl (Nat.le_of_ble_eq_true rfl) (c_X8_take d _ G h (hh2.to (by funext q; exact xu_ne1 (by omega)) (by funext q; exact xu_ne1 (by omega)) (by funext q; exact xu_ne1 (by omega))) (sp / 6) (sp % 6) lp (by omega) (by omega) hlp (by rw [xu_ne2 (by omega)]; show wS S sp th sd 41 0 = nI (sp / 6 * 6 + sp % 6); rw [show sp / 6 * 6 + sp % 6 = sp by omega]; simp [wS]) j hj) rfl rfl ?_
          refine xA.iinc (L' := [_, _, _, _, _, _]) rfl rfl (nI_1 i) rfl rfl ?_
          refine xA.goto (q := 3) rfl rfl ?_
          refine xA.store (S' := wS S q (th + (if pick (mayF (hD h) (hLo h) (sp / 6) (sp % 6) lp) 8 0 j = 7 then 1 else 0)) (sdN sd)) (by rw [hq]; funext a b; simp only [xu, wS, oI]; by_cases a1 : a = 41; (subst a1; by_cases b0 : b = 0; (subst b0; simp); by_cases b1 : b = 1; (subst b1; simp); by_cases b2 : b = 2; (subst b2; simp); simp [b0, b1, b2]); simp [a1]) ?_
          exact ih q _ _ hq3 (by rw [show steps - (i + 1) = k by omega]; exact hF) _
        · have hw0 : (cn (mayF (hD h) (hLo h) (sp / 6) (sp % 6) lp) 8) = 0 := by
            rcases Nat.eq_zero_or_pos (cn (mayF (hD h) (hLo h) (sp / 6) (sp % 6) lp) 8) with z | z
            · exact z
            · exact absurd (nI_le (a := 1) z (by omega)) h20
          rw [if_pos hw0] at hF
          rw [← hF]
          exact xA.vret rfl rfl ⟨rfl, rfl⟩
    · intro sp th sd hsp hF x5
      refine xA.iload rfl rfl rfl ?_
      refine xA.iload_n (i := 3) rfl rfl rfl rfl ?_
      refine xA.icmp_ge (tgt := 42) rfl rfl rfl (fun h6 => ?_) (fun h6 => ?_)
      · rw [Nat.sub_self, wgo] at hF
        rw [← hF]
        exact xA.vret rfl rfl ⟨rfl, rfl⟩
      · exact absurd (nI_le (Nat.le_refl _) (by omega)) h6
  refine xA.iconst (v := 0) rfl (by decide) rfl ?_
  refine xA.istore (L' := [_, _, _, _, _, _]) rfl (Nat.le_of_ble_eq_true rfl) rfl rfl ?_
  refine xA.store (S' := wS S sp0 th0 sd0) (by funext a b; simp only [wS]; by_cases a1 : a = 41; (subst a1; by_cases b0 : b = 0; (subst b0; simp [hS0]); by_cases b1 : b = 1; (subst b1; simp [hS0]); by_cases b2 : b = 2; (subst b2; simp [hS0]); simp [b0, b1, b2]); simp [a1]) ?_
  exact loop 0 (Nat.zero_le _) sp0 th0 sd0 hsp0 rfl _
def livesN (s : sS) (k r st : Nat) (sd : Int32) : Nat × Int32 × Int32 := wgo (hD (sH s)) (hLo (sH s)) (lpN (sH s) k) st (30 * 6 + r) 0 sd
def aLives (s : sS) (k r st sd w : Int32) : Int32 := if rg k 5 then (if rg r 6 then (if ¬ st < 1 ∧ ¬ 16 < st ∧ ¬ sd < 0 ∧ ¬ w < 0 ∧ w ≤ 3 then (if sHr s = 0 then -103 else
    (if w = 0 then nI ((livesN s k.toNatClampNeg r.toNatClampNeg st.toNatClampNeg sd).1 / 6) else if w = 1 then nI ((livesN s k.toNatClampNeg r.toNatClampNeg st.toNatClampNeg sd).1 % 6) else if w = 2 then (livesN s k.toNatClampNeg r.toNatClampNeg st.toNatClampNeg sd).2.1 else (livesN s k.toNatClampNeg r.toNatClampNeg st.toNatClampNeg sd).2.2)) else -102) else -101) else -102

set_option maxRecDepth 100000 in
set_option maxHeartbeats 1000000 in
theorem o_lives (d : Nat) (s : sS) (k r st sd w : Int32) : opC τ (d + 5) mX9_lives [.ref 0, .int k, .int r, .int st, .int sd, .int w] s (.int (aLives s k r st sd w)) (s) := by
  intro S G hc
  have hc0 := hc
  obtain ⟨hpg, hho, hpp, htk, hgl, hsd, him, hno⟩ := hc
  refine xC.of okX9_lives (Nat.le_of_ble_eq_true rfl) (L := [_, _, _, _, _, _]) rfl ?_
  refine xA.iload_n (i := 1) rfl rfl rfl rfl ?_
  refine xA.callSi (As := [_]) rfl k9_131 okX9_isKind rfl rfl (Nat.le_of_ble_eq_true rfl) (c_X9_isKind (d + 4) _ G _) rfl rfl ?_
  refine xA.if_ne (tgt := 10) rfl rfl rfl (fun h4 => ?_) (fun h4 => ?_)
  · rw [xb_ne0] at h4
    refine xA.iload_n (i := 2) rfl rfl rfl rfl ?_
    refine xA.callSi (As := [_]) rfl k9_116 okX9_isRoom rfl rfl (Nat.le_of_ble_eq_true rfl) (c_X9_isRoom (d + 4) _ G _) rfl rfl ?_
    refine xA.if_ne (tgt := 20) rfl rfl rfl (fun h14 => ?_) (fun h14 => ?_)
    · rw [xb_ne0] at h14
      refine xA.iload_n (i := 3) rfl rfl rfl rfl ?_
      refine xA.iconst (v := 1) rfl (by decide) rfl ?_
      refine xA.icmp_lt (tgt := 47) rfl rfl rfl (fun h22 => ?_) (fun h22 => ?_)
      · refine xA.bipush (v := (-102)) rfl (by decide) rfl ?_
        exact xA.iret rfl rfl rfl ⟨S, rfl, by simp only [aLives]; rw [if_pos h4, if_pos h14, if_neg (by rintro ⟨q1, q2, q3, q4, q5⟩; first | exact q1 h22 | exact q2 h28 | exact q3 h33 | exact q4 h38 | exact h44 q5)], hc0, fun _ _ => rfl⟩
      · refine xA.iload_n (i := 3) rfl rfl rfl rfl ?_
        refine xA.bipush (v := 16) rfl (by decide) rfl ?_
        refine xA.icmp_gt (tgt := 47) rfl rfl rfl (fun h28 => ?_) (fun h28 => ?_)
        · refine xA.bipush (v := (-102)) rfl (by decide) rfl ?_
          exact xA.iret rfl rfl rfl ⟨S, rfl, by simp only [aLives]; rw [if_pos h4, if_pos h14, if_neg (by rintro ⟨q1, q2, q3, q4, q5⟩; first | exact q1 h22 | exact q2 h28 | exact q3 h33 | exact q4 h38 | exact h44 q5)], hc0, fun _ _ => rfl⟩
        · refine xA.iload rfl rfl rfl ?_
          refine xA.if_lt (tgt := 47) rfl rfl rfl (fun h33 => ?_) (fun h33 => ?_)
          · refine xA.bipush (v := (-102)) rfl (by decide) rfl ?_
            exact xA.iret rfl rfl rfl ⟨S, rfl, by simp only [aLives]; rw [if_pos h4, if_pos h14, if_neg (by rintro ⟨q1, q2, q3, q4, q5⟩; first | exact q1 h22 | exact q2 h28 | exact q3 h33 | exact q4 h38 | exact h44 q5)], hc0, fun _ _ => rfl⟩
          · refine xA.iload rfl rfl rfl ?_
            refine xA.if_lt (tgt := 47) rfl rfl rfl (fun h38 => ?_) (fun h38 => ?_)
            · refine xA.bipush (v := (-102)) rfl (by decide) rfl ?_
              exact xA.iret rfl rfl rfl ⟨S, rfl, by simp only [aLives]; rw [if_pos h4, if_pos h14, if_neg (by rintro ⟨q1, q2, q3, q4, q5⟩; first | exact q1 h22 | exact q2 h28 | exact q3 h33 | exact q4 h38 | exact h44 q5)], hc0, fun _ _ => rfl⟩
            · refine xA.iload rfl rfl rfl ?_
              refine xA.iconst (v := 3) rfl (by decide) rfl ?_
              refine xA.icmp_le (tgt := 50) rfl rfl rfl (fun h44 => ?_) (fun h44 => ?_)
              · refine xA.aload_n (i := 0) rfl rfl rfl rfl ?_
                refine xA.callVi (As := []) rfl k9_120 okX9_hasHouse rfl rfl rfl rfl (Nat.le_of_ble_eq_true rfl) (c_X9_hasHouse (d + 4) _ G) rfl rfl ?_
                refine xA.if_ne (tgt := 60) rfl rfl rfl (fun h54 => ?_) (fun h54 => ?_)
                · rw [xb_ne0] at h54
                  rw [hr_pos hho] at h54
                  obtain ⟨kk, hkk, rfl⟩ := rg_nI h4 (by omega)
                  obtain ⟨rr, hrr, rfl⟩ := rg_nI h14 (by omega)
                  obtain ⟨ss, hss, rfl⟩ := nI_of2 (n := 16) (M := 16) rfl (fun z => h22 (by rw [Int32.lt_iff_toInt_lt] at z ⊢; rw [Int32.toInt_zero] at z; show _ < (1 : Int); omega)) (Int32.not_lt.mp h28)
                  have hsd3 := (hho.2.2.2 (by omega)).1
                  have hba := hsd3.2.1.2.2.2.2.2.2.1 hsd3.2.2
                  have hlp10 : lpN (sH s) kk ≤ 10 := by unfold lpN; split <;> omega
                  refine xA.aload_n (i := 0) rfl rfl rfl rfl ?_
                  refine xA.getR rfl f9_70 rfl rfl rfl rfl ?_
                  refine xA.bipush (v := 30) rfl (by decide) rfl ?_
                  refine xA.iload_n (i := 2) rfl rfl rfl rfl ?_
                  refine xA.callSi (As := [_, _]) rfl k9_184 okX9_spotOf rfl rfl (Nat.le_of_ble_eq_true rfl) (c_X9_spotOf (d + 4) _ G _ _) rfl rfl ?_
                  refine xA.topi (nI_spot 30 rr) ?_
                  refine xA.iload rfl rfl rfl ?_
                  refine xA.callVv (As := [_, _]) rfl k9_244 okX8_begin rfl rfl rfl rfl (Nat.le_of_ble_eq_true rfl) (c_X8_begin (d + 4) _ G _ _) rfl rfl ?_
                  have hh2 : hSd (xu (xu (xu S 41 0 (nI (30 * 6 + rr))) 41 1 0) 41 2 sd) (sH s) := hsd3.to (by funext q; simp [xu]) (by funext q; simp [xu]) (by funext q; simp [xu])
                  refine xA.aload_n (i := 0) rfl rfl rfl rfl ?_
                  refine xA.getR rfl f9_70 rfl rfl rfl rfl ?_
                  refine xA.aload_n (i := 0) rfl rfl rfl rfl ?_
                  refine xA.getR rfl f9_19 rfl rfl rfl rfl ?_
                  refine xA.aload_n (i := 0) rfl rfl rfl rfl ?_
                  refine xA.getR rfl f9_19 rfl rfl rfl rfl ?_
                  refine xA.iload_n (i := 1) rfl rfl rfl rfl ?_
                  refine xA.callVi (As := [_]) rfl k9_145 okX1_leapOf rfl rfl rfl rfl (Nat.le_of_ble_eq_true rfl) (c_X1_leapOf (d + 3) _ G 3 iH3 (nI kk)) rfl rfl ?_
                  refine xA.topi (show _ = nI (lpN (sH s) kk) from by rw [hh2.1.2.2.2.2.1 hh2.2.2]; unfold lpN; simp only [show (nI kk = 2 ↔ kk = 2) from nI_eq (b := 2) (by omega) (by omega), nI_1]; split <;> rfl) ?_
                  refine xA.iload_n (i := 3) rfl rfl rfl rfl ?_
                  refine xA.callVv (As := [_, _, _]) rfl k9_247 okX8_go rfl rfl rfl rfl (Nat.le_of_ble_eq_true rfl) (c_X8_go d _ G (sH s) hh2 (lpN (sH s) kk) hlp10 ss hss (30 * 6 + rr) 0 sd (by omega) ⟨by simp [xu], by simp [xu], by simp [xu]⟩) rfl rfl ?_
                  refine xA.aload_n (i := 0) rfl rfl rfl rfl ?_
                  refine xA.getR rfl f9_70 rfl rfl rfl rfl ?_
                  refine xA.iload rfl rfl rfl ?_
                  refine xA.callVi (As := [_]) rfl k9_251 okX8_tell rfl rfl rfl rfl (Nat.le_of_ble_eq_true rfl) (c_X8_tell (d + 3) _ G w) rfl rfl ?_
                  have hlt := wgo_lt (D := hD (sH s)) (low := hLo (sH s)) (lp := lpN (sH s) kk) ss (30 * 6 + rr) 0 sd (by omega)
                  exact xA.iret rfl rfl rfl ⟨_, rfl, by
                    simp only [aLives]; rw [if_pos h4, if_pos h14, if_pos (show ¬ nI ss < 1 ∧ ¬ 16 < nI ss ∧ ¬ sd < 0 ∧ ¬ w < 0 ∧ w ≤ 3 from ⟨h22, h28, h33, h38, h44⟩), if_neg h54]
                    simp only [livesN, nI_clamp (show kk < 2 ^ 31 by omega), nI_clamp (show rr < 2 ^ 31 by omega), nI_clamp (show ss < 2 ^ 31 by omega), wS, if_true, if_false]
                    generalize wgo (hD (sH s)) (hLo (sH s)) (lpN (sH s) kk) ss (30 * 6 + rr) 0 sd = z at hlt ⊢
                    have hx1 : xmin (nI z.1) = nI (z.1 / 6) := by
                      have q := xmin_nI (m := z.1 / 6) (r := z.1 % 6) (by omega) (by omega)
                      rwa [show z.1 / 6 * 6 + z.1 % 6 = z.1 by omega] at q
                    have hx2 : xroom (nI z.1) = nI (z.1 % 6) := by
                      have q := xroom_nI (m := z.1 / 6) (r := z.1 % 6) (by omega) (by omega)
                      rwa [show z.1 / 6 * 6 + z.1 % 6 = z.1 by omega] at q
                    rw [hx1, hx2]
                    simp, hc0.scr (fun j h1 h2 => by rw [wS_off (by omega)]; funext q; simp only [xu]; rw [if_neg (by omega), if_neg (by omega), if_neg (by omega)]), fun j hj => by rw [wS_off (by omega)]; funext q; simp only [xu]; rw [if_neg (by omega), if_neg (by omega), if_neg (by omega)]⟩
                · rw [xb_eq0] at h54
                  refine xA.bipush (v := (-103)) rfl (by decide) rfl ?_
                  rw [hr_pos hho] at h54
                  exact xA.iret rfl rfl rfl ⟨S, rfl, by simp only [aLives]; rw [if_pos h4, if_pos h14, if_pos ⟨h22, h28, h33, h38, h44⟩, if_pos (by omega)], hc0, fun _ _ => rfl⟩
              · refine xA.bipush (v := (-102)) rfl (by decide) rfl ?_
                exact xA.iret rfl rfl rfl ⟨S, rfl, by simp only [aLives]; rw [if_pos h4, if_pos h14, if_neg (by rintro ⟨q1, q2, q3, q4, q5⟩; first | exact q1 h22 | exact q2 h28 | exact q3 h33 | exact q4 h38 | exact h44 q5)], hc0, fun _ _ => rfl⟩
    · rw [xb_eq0] at h14
      refine xA.bipush (v := (-101)) rfl (by decide) rfl ?_
      exact xA.iret rfl rfl rfl ⟨S, rfl, by simp only [aLives]; rw [if_pos h4, if_neg h14], hc0, fun _ _ => rfl⟩
  · rw [xb_eq0] at h4
    refine xA.bipush (v := (-102)) rfl (by decide) rfl ?_
    exact xA.iret rfl rfl rfl ⟨S, rfl, by simp only [aLives]; rw [if_neg h4], hc0, fun _ _ => rfl⟩
end
section
variable {τ : List xSh}
/-! ===== what the law's walks want beyond the class's ===== -/
section LR
variable {X : Option (Nat × (Nat → Int32))} {d : Nat} {M : xM} {c n mc ms pc q : Nat} {L : List (Option Value)} {st : List Value} {h : xH} {Q : Option Value → xH → Prop}
theorem xA.iushr {x y : Int32} (hd : xfetch M pc = some (.iushr, 1)) (hq : pc + 1 = q) (k : xA X d M c n mc ms q L (.int (x.toUInt32 >>> (y.toUInt32 &&& Int32.toUInt32 31)).toInt32 :: st) h Q) : xA X d M c n mc ms pc L (.int y :: .int x :: st) h Q := by
  subst hq
  intro p l e R s m args below meth cd Z b base yI yP D cx H locs ls hW hS hL
  exact lv_iushr cx.ex cx.co (cx.de hd) rfl (k p l e R s m args below meth cd Z b base yI yP D cx H locs ls hW hS hL)
theorem xA.ldiv {x y : Int64} (hd : xfetch M pc = some (.ldiv, 1)) (hne : ¬ y = 0) (hq : pc + 1 = q) (k : xA X d M c n mc ms q L (.long (x / y) :: st) h Q) : xA X d M c n mc ms pc L (.long y :: .long x :: st) h Q := by
  subst hq
  intro p l e R s m args below meth cd Z b base yI yP D cx H locs ls hW hS hL
  exact lv_ldiv cx.ex cx.co (cx.de hd) hne (k p l e R s m args below meth cd Z b base yI yP D cx H locs ls hW hS hL)
theorem xA.lrem {x y : Int64} (hd : xfetch M pc = some (.lrem, 1)) (hne : ¬ y = 0) (hq : pc + 1 = q) (k : xA X d M c n mc ms q L (.long (x - x / y * y) :: st) h Q) : xA X d M c n mc ms pc L (.long y :: .long x :: st) h Q := by
  subst hq
  intro p l e R s m args below meth cd Z b base yI yP D cx H locs ls hW hS hL
  exact lv_lrem cx.ex cx.co (cx.de hd) hne (k p l e R s m args below meth cd Z b base yI yP D cx H locs ls hW hS hL)
theorem xA.dup_x2 {v w z : Value} (hd : xfetch M pc = some (.dup_x2, 1)) (hv : v.category = 1) (hw : w.category = 1) (hz : z.category = 1) (hq : pc + 1 = q) (k : xA X d M c n mc ms q L (v :: w :: z :: v :: st) h Q) : xA X d M c n mc ms pc L (v :: w :: z :: st) h Q := by
  subst hq
  intro p l e R s m args below meth cd Z b base yI yP D cx H locs ls hW hS hL
  exact lv_dup_x2 cx.ex cx.co (cx.de hd) (by rw [xe_cat]; exact hv) (by rw [xe_cat]; exact hw) (by rw [xe_cat]; exact hz) (k p l e R s m args below meth cd Z b base yI yP D cx H locs ls hW hS hL)
end LR
/-- as xPc, and the script stands, if there is one -/
def xPs (X : Option (Nat × (Nat → Int32))) (b base : Nat) (yI yP : ClassId) (D : va_G) (args : List Value) (h : xH) : Array Value → State → Prop := va_Pc (args.map (xe b base)) (fun U => (xWd base yI yP D h U.heap ∧ xTb yI yP D U) ∧ (match X with | none => True | some q => va_X b q.1 q.2 U U.heap ∧ b < base))
theorem xPs_blind {X : Option (Nat × (Nat → Int32))} {b base : Nat} {yI yP : ClassId} {D : va_G} {args : List Value} {h : xH} : FrameBlind (xPs X b base yI yP D args h) := by
  intro a U g mk q
  have h1 := xPc_blind (b := b) (base := base) (yI := yI) (yP := yP) (D := D) (args := args) (h := h) a U g mk ⟨q.1, q.2.1⟩
  refine ⟨h1.1, h1.2, ?_⟩
  have h2 := q.2.2
  cases X with
  | none => exact trivial
  | some z => exact ⟨va_X.moved (U := U.calling g mk a) (Vm.Alike.refl U.vm) h2.1, h2.2⟩
/-- a contract that may read the script -/
def xCs (X : Option (Nat × (Nat → Int32))) (d : Nat) (M : xM) (args : List Value) (h : xH) (mc ms : Nat) (Q : Option Value → xH → Prop) : Prop :=
  ∀ (l : Launch) (b base : Nat) (yI yP : ClassId) (D : va_G), Met l M.1 (.code M.1 M.2.1 M.2.2.1 M.2.2.2.1 :: xBW) { frames := d, cells := mc, slots := ms, locals := 46 * d } (xPs X b base yI yP D args h) (xQc b base yI yP D Q) mc ms (xAd base)
theorem xCs.mono {X : Option (Nat × (Nat → Int32))} {d : Nat} {M : xM} {args : List Value} {h : xH} {mc ms : Nat} {Q Q' : Option Value → xH → Prop} (k : xCs X d M args h mc ms Q) (hq : ∀ r h', Q r h' → Q' r h') : xCs X d M args h mc ms Q' := by
  intro l b base yI yP D
  refine MetFree.mono (k l b base yI yP D) (fun _ _ z => z) (fun _ _ _ _ _ _ => trivial) ?_
  rintro a s o s' - ⟨⟨r, h', h1, h2, h3⟩, hl⟩
  exact ⟨⟨r, h', h1, hq _ _ h2, h3⟩, hl⟩
theorem xA.callX {X : Option (Nat × (Nat → Int32))} {d : Nat} {M M' : xM} {c n mc ms mc' ms' pc q idx : Nat} {L : List (Option Value)} {As st stk : List Value} {h : xH} {Q Q' : Option Value → xH → Prop} (hd : xfetch M pc = some (.invokestatic idx, 3)) (hk : xcS M.1.cls idx M') (hm : xmOk M') (hn : As.length = M'.2.2.2.2.1) (hLn : L.length = M.2.2.1) (hst : (st.map Value.category).sum ≤ 8) (hC : xCs X d M' As h mc' ms' Q') (hc1 : c + mc' ≤ mc) (hc2 : n + ms' ≤ ms) (hq : pc + 3 = q) (hs : stk = As.reverse ++ st) (kk : ∀ r h', Q' r h' → xA X (d + 1) M (c + mc') (n + ms') mc ms q L (r.toList ++ st) h' Q) : xA X (d + 1) M c n mc ms pc L stk h Q := by
  subst hq; subst hs
  intro p l e R s m args below meth cd Z b base yI yP D cx H locs ls hW hS hL
  obtain ⟨w1, w2, w4⟩ := hk
  have hro := cx.2.2.2.1
  have hml := hm.2.2.1
  have hr := va_runS (e := e) (below := below) (meth := meth) (ms := ms') (mc := mc') (cells := c) (slots := n) (locs := locs) (g := F0 m pc ls ((As.reverse ++ st).map (xe b base))) (As := As.map (xe b base)) (rest := st.map (xe b base)) ⟨cx.ex, cx.co, cx.1.2.2.1, cx.ow, cx.ts⟩ (hC l b base yI yP D) ⟨callB_of (ws' := xBW) M'.2.2.2.2.1 cx.ts (x_good hm.1) rfl rfl rfl (cx.ts _ w4) (cx.ts _ w1) hm.2.1 ⟨by show d + 1 ≤ R.frames; omega, by show 8 + (M'.2.2.1 + 11) + 46 * d ≤ R.locals; omega⟩, cx.ts _ w2⟩ ⟨xPs_blind, fun U hU hWm => ⟨rfl, ⟨by rw [hU]; exact hW, xTb_warm hWm cx.2.1.2⟩, ?_⟩⟩ rfl (by rw [List.length_map]; exact hn) (hL.1.trans hLn) (by simp [xe]) (lv_room (x_cats hst)) (cx.de hd) ⟨Nat.le_trans hc1 hro.2.2.1, Nat.le_trans hc2 hro.2.2.2⟩
  · refine x_call hr hS cx.2.2.2.2.1 (fun r h' H1 locs1 hq hW1 hS1 => ?_)
    rw [← x_ret]
    exact kk r h' hq p l e R s m args below meth cd Z b base yI yP D cx H1 locs1 ls hW1 hS1 hL
  · have hX := cx.2.2.2.2.2.1
    cases X with
    | none => exact trivial
    | some z =>
      refine ⟨?_, hX.2⟩
      rw [hU]
      exact va_X.moved hWm.alike (va_X.kept hX.1 (hS.2.1 b (Nat.lt_of_lt_of_le hX.2 cx.2.2.2.2.1) (Nat.not_le.mpr hX.2)))
theorem xCs.of {X : Option (Nat × (Nat → Int32))} {d : Nat} {M : xM} {args : List Value} {h : xH} {mc ms : Nat} {Q : Option Value → xH → Prop} {L : List (Option Value)} (hm : xmOk M) (hlen : (xlocs args).length ≤ M.2.2.1) (hL : xargs M.2.2.1 args = L) (k : xA X d M 0 0 mc ms 0 L [] h Q) : xCs X d M args h mc ms Q := by
  subst hL
  intro l b base yI yP D
  refine Met.ofW (cc := M.2.1) (maxL := M.2.2.1) (ret := M.2.2.2.1) hm.2.2.2.1 rfl ?_
  intro p e s m a below meth cd s₁ B hml hv
  obtain ⟨rfl, ⟨hW, hT⟩, hX⟩ := hv
  rw [lg_entry_eq]
  have hbs : base ≤ s.heap.size := by rw [hW.1]; omega
  refine k p l e _ s m _ below meth cd _ b base yI yP D ⟨⟨B.exec, B.bytes, hml, findClass_of_methodNamed B.named⟩, ⟨fun w hw => atoms_spec (ws := .code M.1 M.2.1 M.2.2.1 M.2.2.2.1 :: xBW) B.pre w (List.mem_cons_of_mem _ hw), hT⟩, ⟨(name_of_methodNamed B.named B.method).1, hm.2.2.2.2⟩, ⟨Nat.le_refl _, Nat.le_refl _, Nat.le_refl _, Nat.le_refl _⟩, hbs, hX, ?_⟩ s.heap [] _ hW va_S.rf (xLs_entry hlen)
  intro pc ls i st r h' H locs hd hret hQ hW' hS'
  have post : ∀ (r : Option Value) (t : State), Q r h' → t.heap = H → xQc b base yI yP D Q (args.map (xe b base)).toArray s (.returned (r.map (xe b base))) t := fun r t hQ ht => ⟨r, h', rfl, hQ, by rw [ht]; exact hW', by rw [ht]; exact hS'.1, fun q hq => by rw [ht]; exact hS'.2.1 q (Nat.lt_of_lt_of_le hq hbs) (Nat.not_le.mpr hq)⟩
  rcases hret with ⟨rfl, v, rfl, rfl, ty, hr, hn⟩ | ⟨rfl, v, rfl, rfl, hr⟩ | ⟨rfl, v, rfl, rfl, ⟨nm, hr⟩, hv⟩ | ⟨rfl, rfl, rfl, hr⟩
  · exact W.zret B.exec B.bytes (B.returns.trans hr) hn (fun t ht hWm => post (some (.int v)) t hQ ht) hS'.2.2 hd B.notSynchronized
  · exact W.lret B.exec B.bytes (B.returns.trans hr) (fun t ht hWm => post (some (.long v)) t hQ ht) hS'.2.2 hd B.notSynchronized
  · refine W.aret (v := xe b base v) B.exec B.bytes (B.returns.trans hr) (Or.inl ⟨nm, rfl⟩) ?_ (fun t ht hWm => post (some v) t hQ ht) hS'.2.2 hd B.notSynchronized
    rcases hv with rfl | ⟨a, rfl⟩
    · exact Or.inl rfl
    · exact Or.inr ⟨_, rfl⟩
  · exact W.vret B.exec B.bytes (B.returns.trans hr) (fun t ht hWm => post none t hQ ht) hS'.2.2 hd B.notSynchronized
/-- nothing changed, an int answered -/
def xRs (X : Option (Nat × (Nat → Int32))) (τ : List xSh) (d : Nat) (M : xM) (args : List Value) (S : Nat → Nat → Int32) (G : Nat → Nat → Int64) (r : Option Value) : Prop := xCs X d M args (σF τ, S, G) 0 0 (fun r' h' => r' = r ∧ h' = (σF τ, S, G))
section LC
variable {X : Option (Nat × (Nat → Int32))} {d : Nat} {M M' : xM} {c n mc ms pc q idx : Nat} {L : List (Option Value)} {As st stk : List Value} {S S' : Nat → Nat → Int32} {G G' : Nat → Nat → Int64} {Q : Option Value → xH → Prop} {h : xH}
theorem xA.gV {v : Int32} {a ci : Nat} {r : List (Option Nat)} (hd : xfetch M pc = some (.invokevirtual idx, 3)) (hk : xcV M.1.cls idx M') (hm : xmOk M') (hσ : (σF τ)[a]? = some (.inl (ci, r))) (hci : (vwCl[ci]?).map (fun z => z.1) = some M'.1.cls) (hn : As.length = M'.2.2.2.2.1) (hLn : L.length = M.2.2.1) (hst : (st.map Value.category).sum ≤ 8) (hc1 : c ≤ mc) (hc2 : n ≤ ms) (hC : xR τ d M' (.ref a :: As) S G (some (.int v)) S' G') (hq : pc + 3 = q) (hs : stk = As.reverse ++ .ref a :: st) (kk : xA X (d + 1) M c n mc ms q L (.int v :: st) (σF τ, S', G') Q) : xA X (d + 1) M c n mc ms pc L stk (σF τ, S, G) Q := by
  refine xA.callV hd hk hm (h := (σF τ, S, G)) hσ hci hn hLn hst hC hc1 hc2 hq hs ?_
  rintro r' h' ⟨rfl, rfl⟩
  exact kk
theorem xA.gS {v : Int32} (hd : xfetch M pc = some (.invokestatic idx, 3)) (hk : xcS M.1.cls idx M') (hm : xmOk M') (hn : As.length = M'.2.2.2.2.1) (hLn : L.length = M.2.2.1) (hst : (st.map Value.category).sum ≤ 8) (hc1 : c ≤ mc) (hc2 : n ≤ ms) (hC : xR τ d M' As S G (some (.int v)) S' G') (hq : pc + 3 = q) (hs : stk = As.reverse ++ st) (kk : xA X (d + 1) M c n mc ms q L (.int v :: st) (σF τ, S', G') Q) : xA X (d + 1) M c n mc ms pc L stk (σF τ, S, G) Q := by
  refine xA.callS hd hk hm (h := (σF τ, S, G)) hn hLn hst hC hc1 hc2 hq hs ?_
  rintro r' h' ⟨rfl, rfl⟩
  exact kk
theorem xA.gX {v : Int32} (hd : xfetch M pc = some (.invokestatic idx, 3)) (hk : xcS M.1.cls idx M') (hm : xmOk M') (hn : As.length = M'.2.2.2.2.1) (hLn : L.length = M.2.2.1) (hst : (st.map Value.category).sum ≤ 8) (hc1 : c ≤ mc) (hc2 : n ≤ ms) (hC : xRs X τ d M' As S G (some (.int v))) (hq : pc + 3 = q) (hs : stk = As.reverse ++ st) (kk : xA X (d + 1) M c n mc ms q L (.int v :: st) (σF τ, S, G) Q) : xA X (d + 1) M c n mc ms pc L stk (σF τ, S, G) Q := by
  refine xA.callX hd hk hm (h := (σF τ, S, G)) hn hLn hst hC hc1 hc2 hq hs ?_
  rintro r' h' ⟨rfl, rfl⟩
  exact kk
/-- a call of the class that changes its state -/
theorem xA.gO {s s' : sS} {v : Int32} (hd : xfetch M pc = some (.invokevirtual idx, 3)) (hk : xcV M.1.cls idx M') (hm : xmOk M') (hci : (vwCl[9]?).map (fun z => z.1) = some M'.1.cls) (hn : As.length = M'.2.2.2.2.1) (hLn : L.length = M.2.2.1) (hst : (st.map Value.category).sum ≤ 8) (hc1 : c ≤ mc) (hc2 : n ≤ ms) (hC : opC τ d M' (.ref 0 :: As) s (.int v) s') (hc : CS S s) (hq : pc + 3 = q) (hs : stk = As.reverse ++ .ref 0 :: st) (kk : ∀ S', CS S' s' → (∀ j, 54 ≤ j → S' j = S j) → xA X (d + 1) M c n mc ms q L (.int v :: st) (σF τ, S', G) Q) : xA X (d + 1) M c n mc ms pc L stk (σF τ, S, G) Q := by
  refine xA.callV hd hk hm (h := (σF τ, S, G)) rfl hci hn hLn hst (hC S G hc) hc1 hc2 hq hs ?_
  rintro r' h' ⟨S', rfl, rfl, h1, h2⟩
  exact kk S' h1 h2
end LC
/-- the class's cells are its own -/
theorem CS.lo {S S' : Nat → Nat → Int32} {s : sS} (hc : CS S s) (h : ∀ j, j < 54 → S' j = S j) : CS S' s := by
  obtain ⟨a1, a2, a3, a4, a5, ⟨a6, a7⟩, a8, a9⟩ := hc
  exact ⟨a1.to (h 1 (by decide)) (h 2 (by decide)), a2.to (by rw [h 0 (by decide)]) (h 3 (by decide)) (h 4 (by decide)) (h 5 (by decide)), a3.to (by rw [h 0 (by decide)]) (fun j _ h2 => h j h2), a4.to (h 12 (by decide)) (h 13 (by decide)) (h 14 (by decide)) (h 15 (by decide)), a5.to (h 16 (by decide)) (h 17 (by decide)), ⟨by rw [h 0 (by decide)]; exact a6, a7⟩, a8.to (fun j _ h2 => h j (by omega)), a9⟩
theorem xA.gen {X : Option (Nat × (Nat → Int32))} {d : Nat} {M : xM} {c n mc ms pc : Nat} {L : List (Option Value)} {st : List Value} {σ : List xSh} {S : Nat → Nat → Int32} {G : Nat → Nat → Int64} {Q : Option Value → xH → Prop} (P : (Nat → Nat → Int32) → Prop) (hP : P S) (k : ∀ S', P S' → xA X d M c n mc ms pc L st (σ, S', G) Q) : xA X d M c n mc ms pc L st (σ, S, G) Q := k S hP
theorem xu_at {S : Nat → Nat → Int32} {a k : Nat} {v : Int32} : xu S a k v a = iu (S a) k v := by funext i; simp [xu, iu]
theorem xu_off {S : Nat → Nat → Int32} {a k j : Nat} {v : Int32} (h : j ≠ a) : xu S a k v j = S j := by funext i; simp [xu, h]
theorem iu_at {f : Nat → Int32} {k : Nat} {v : Int32} : iu f k v k = v := by simp [iu]
theorem iu_off {f : Nat → Int32} {k j : Nat} {v : Int32} (h : j ≠ k) : iu f k v j = f j := by simp [iu, h]
/-! numbers -/
def atv (x : Int32) (n : Nat) : Nat := x.toUInt32.toNat / 2 % n
theorem atv_lt {x : Int32} {n : Nat} (h : 0 < n) : atv x n < n := Nat.mod_lt _ h
theorem iushr1 (x : Int32) : (x.toUInt32 >>> ((1 : Int32).toUInt32 &&& Int32.toUInt32 31)).toInt32 = nI (x.toUInt32.toNat / 2) := by
  have e : (1 : Int32).toUInt32 &&& Int32.toUInt32 31 = 1 := by decide
  rw [e]
  have h1 : (x.toUInt32 >>> 1).toNat = x.toUInt32.toNat / 2 := by
    rw [UInt32.toNat_shiftRight]
    simp [Nat.shiftRight_eq_div_pow]
  have h2 : x.toUInt32 >>> 1 = UInt32.ofNat (x.toUInt32.toNat / 2) := by
    rw [← h1, UInt32.ofNat_toNat]
  rw [h2]
  rfl
theorem nI_rem {a b : Nat} (ha : a < 2 ^ 31) (hb : b < 2 ^ 31) (h0 : 0 < b) : nI a - nI a / nI b * nI b = nI (a % b) := by
  have h1 : a / b * b ≤ a := Nat.div_mul_le_self a b
  rw [nI_div ha hb h0, nI_mul, nI_sub h1]
  congr 1
  have := Nat.div_add_mod a b
  rw [Nat.mul_comm] at this
  omega
theorem at_eq {x : Int32} {n : Nat} (hn : n < 2 ^ 31) (h0 : 0 < n) : (x.toUInt32 >>> ((1 : Int32).toUInt32 &&& Int32.toUInt32 31)).toInt32 - (x.toUInt32 >>> ((1 : Int32).toUInt32 &&& Int32.toUInt32 31)).toInt32 / nI n * nI n = nI (atv x n) := by
  have hx : x.toUInt32.toNat / 2 < 2 ^ 31 := by
    have := x.toUInt32.toNat_lt
    omega
  rw [iushr1, nI_rem hx hn h0, atv]
/-- a cell of the script -/
def clV (N : Nat) (xs : Nat → Int32) (k : Nat) : Int32 := if k < N then xs k else 747796405 * nI (k + 1)
/-- a spot in the law's numbers -/
def e8 (q : Nat) : Nat := q / 6 * 8 + q % 6
theorem e8_div (q : Nat) : e8 q / 8 = q / 6 := by unfold e8; omega
theorem e8_mod (q : Nat) : e8 q % 8 = q % 6 := by unfold e8; omega
theorem e8_inj {q r : Nat} : e8 q = e8 r ↔ q = r := by unfold e8; omega
theorem e8_lt {q : Nat} (h : q < 360) : e8 q < 480 := by unfold e8; omega
theorem e8_mk {m r : Nat} (h : r < 6) : e8 (m * 6 + r) = m * 8 + r := by unfold e8; omega
end
section
variable {ρ : List xSh}
/-! ===== the small methods of the law ===== -/
variable {τ : List xSh}
/-- behind the class's cells: the law's rows h, p, l, t *in order* -/
def τL (ρ : List xSh) : List xSh := .inr (.inl 36) :: .inr (.inl 8) :: .inr (.inl 51) :: .inr (.inl 45) :: ρ
/-- the law's row of a house -/
def RH (A : Nat → Int32) (h : hS) : Prop := A 12 = nI (hLo h) ∧ A 13 = nI (hBa h) ∧ A 14 = nI (hNd h) ∧ A 15 = nI (hNs h) ∧ (∀ a, a < 6 → ∃ x, x < 64 ∧ A a = nI x ∧ ∀ b, b < 6 → x.testBit b = decide (¬ hD h (a * 6 + b) = 0)) ∧ (∀ a, a < 6 → A (6 + a) = nI (hSr h a)) ∧ ∀ j, j < hNd h → A (16 + j) = nI (hOn h j) ∧ A (26 + j) = nI (hTw h j)
/-- the law's rows of a life -/
def RL1 (P Ls : Nat → Int32) (k : Nat) (l : lS) : Prop := P (5 + k) = nI (lN' l) ∧ lN' l ≤ 17 ∧ ∀ i, i < lN' l → Ls (17 * k + i) = nI (e8 (lSp l i)) ∧ lSp l i < 360
def TX (T : Nat → Int32) (pg : Nat → Nat) (n : Nat) : Prop := ∀ i, i < n → T i = nI (pg i) ∧ 1 ≤ pg i ∧ pg i ≤ 126
theorem rdA {f : Nat → Int32} {k : Nat} {v : Int32} (hk : k < 2 ^ 31) (h : f k = v) : f (nI k).toNatClampNeg = v := by rw [nI_clamp hk]; exact h
theorem bt1_nI : ∀ x, x < 64 → ∀ b, b < 6 → (nI x >>> (nI b &&& 31)) &&& 1 = xb (x.testBit b = true) := by decide +kernel
theorem xb_eq1 {p : Prop} [Decidable p] : xb p = 1 ↔ p := by unfold xb; split <;> simp_all
theorem d8_div {m r : Nat} (hm : m < 60) (hr : r < 6) : nI (m * 8 + r) / 8 = nI m := by
  rw [show (8 : Int32) = nI 8 from rfl, nI_div (by omega) (by omega) (by omega)]; congr 1; omega
theorem d8_mod {m r : Nat} (hm : m < 60) (hr : r < 6) : nI (m * 8 + r) - nI (m * 8 + r) / 8 * 8 = nI r := by
  rw [show (8 : Int32) = nI 8 from rfl, nI_rem (by omega) (by omega) (by omega)]; congr 1; omega
theorem e8I_div {q : Nat} (h : q < 360) : nI (e8 q) / 8 = nI (q / 6) := by
  have := e8_lt h
  rw [show (8 : Int32) = nI 8 from rfl, nI_div (by omega) (by omega) (by omega), e8_div]
theorem e8I_mod {q : Nat} (h : q < 360) : nI (e8 q) - nI (e8 q) / 8 * 8 = nI (q % 6) := by
  have := e8_lt h
  rw [show (8 : Int32) = nI 8 from rfl, nI_rem (by omega) (by omega) (by omega), e8_mod]
def o8 : Option Nat → Int32
  | none => -1
  | some q => nI (e8 q)
theorem o8_nx {D : Nat → Nat} {low m r s lp : Nat} (hm : m < 60) (hr : r < 6) (hs : s < 8) : o8 (nxH D low m r s lp) = if s = 7 then (if r = low ∧ lp ≤ m then nI ((m - lp) * 8 + r) else -1) else if m = 59 then -1 else if s = 6 then nI (8 * (m + 1) + r) else if D (r * 6 + s) = 0 then -1 else nI (8 * (m + 1) + s) := by
  unfold nxH
  by_cases h7 : s = 7
  · rw [if_pos h7, if_pos h7]
    split
    · show nI (e8 ((m - lp) * 6 + r)) = _
      rw [e8_mk hr]
    · rfl
  · rw [if_neg h7, if_neg h7]
    by_cases h59 : m = 59
    · rw [if_pos (by omega), if_pos h59]; rfl
    · rw [if_neg (by omega), if_neg h59]
      by_cases h6 : s = 6
      · rw [if_pos h6, if_pos h6]
        show nI (e8 ((m + 1) * 6 + r)) = _
        rw [e8_mk hr, Nat.mul_comm]
      · rw [if_neg h6, if_neg h6]
        split
        · rfl
        · show nI (e8 ((m + 1) * 6 + s)) = _
          rw [e8_mk (by omega), Nat.mul_comm]
/-- one letter alone *told* -/
theorem byN1 : ∀ c, c < 127 → ∀ j, j < 8 → byN (nI c).toInt64 j = if j = 0 then c else 0 := by decide +kernel
theorem wN1 {c : Nat} (h1 : 1 ≤ c) (h2 : c ≤ 126) : wN (nI c).toInt64 = some 1 := by
  have key : ∀ t, t < 8 → ltS (byN (nI c).toInt64) (t + 1) = some (1, decide (0 < t)) := by
    intro t
    induction t with
    | zero =>
      intro _
      have e := byN1 c (by omega) 0 (by omega)
      rw [if_pos rfl] at e
      show (some ((0 : Nat), false)).bind _ = _
      rw [Option.bind_some, e, if_neg (by simp; omega), if_neg (by omega), decide_eq_false (by omega : ¬ c = 0)]
      rfl
    | succ t ih =>
      intro h8
      have e := byN1 c (by omega) (t + 1) (by omega)
      rw [if_neg (by omega)] at e
      show (ltS (byN (nI c).toInt64) (t + 1)).bind _ = _
      rw [ih (by omega), Option.bind_some, e, if_neg (by simp), if_pos rfl]
      simp
  show (ltS (byN (nI c).toInt64) 8).map _ = _
  rw [key 7 (by omega)]
  rfl
theorem ltr1 {s : sS} {c i : Nat} (h1 : 1 ≤ c) (h2 : c ≤ 126) (hi : i < 45) (hs : sN s = i) : aLetters s (nI c).toInt64 = nI (i + 1) ∧ tLetters s (nI c).toInt64 = (pgA (sPg s) i (byN (nI c).toInt64), i + 1, s.2.2) := by
  subst hs
  constructor
  · rw [aLetters, wN1 h1 h2]
    exact if_neg (by omega)
  · rw [tLetters, wN1 h1 h2]
    exact if_neg (by omega)
theorem pgA_new {pg0 pg : Nat → Nat} {c i : Nat} (hc : c < 127) (h : ∀ j, j < i → pg0 j = pg j) (hp : pg i = c) : ∀ j, j < i + 1 → pgA pg0 i (byN (nI c).toInt64) j = pg j := by
  intro j hj
  unfold pgA
  by_cases hji : j < i
  · rw [if_pos hji]; exact h j hji
  · have e : j = i := by omega
    subst e
    rw [if_neg hji, Nat.sub_self, byN1 c hc 0 (by omega), if_pos rfl, hp]
def thN (l : lS) (q : Nat) : Nat := cn (fun j => decide (lSp l j = q)) (lN' l)

set_option maxRecDepth 100000 in
set_option maxHeartbeats 400000 in
theorem c_L_cell (d : Nat) (S : Nat → Nat → Int32) (G : Nat → Nat → Int64) (N : Nat) (xs : Nat → Int32) (hN : N ≤ 260) (k : Nat) (hk : k < 100) : xRs (some (N, xs)) τ d mL_cell [.retAddr 0, .int (nI k)] S G (some (.int (clV N xs k))) := by
  refine xCs.of okL_cell (Nat.le_of_ble_eq_true rfl) (L := [_, _]) rfl ?_
  refine xA.iload_n (i := 1) rfl rfl rfl rfl ?_
  refine xA.aloadX_n (i := 0) rfl rfl rfl rfl ?_
  refine xA.slen rfl rfl ?_
  refine xA.icmp_ge (tgt := 12) rfl rfl rfl (fun h3 => ?_) (fun h3 => ?_)
  · rw [nI_leI (by omega) (by omega)] at h3
    refine xA.ldc (v := 747796405) rfl w604 rfl ?_
    refine xA.iload_n (i := 1) rfl rfl rfl rfl ?_
    refine xA.iconst (v := 1) rfl (by decide) rfl ?_
    refine xA.iadd rfl rfl ?_
    refine xA.topi (nI_1 k) ?_
    refine xA.imul rfl rfl ?_
    exact xA.iret rfl rfl rfl ⟨by unfold clV; split <;> first | rfl | (exfalso; omega), rfl⟩
  · rw [nI_leI (by omega) (by omega)] at h3
    refine xA.aloadX_n (i := 0) rfl rfl rfl rfl ?_
    refine xA.iload_n (i := 1) rfl rfl rfl rfl ?_
    refine xA.sld rfl (vp_in_nI (by omega) (by omega)) rfl ?_
    refine xA.topi (congrArg xs (nI_clamp (by omega))) ?_
    refine xA.goto (q := 18) rfl rfl ?_
    exact xA.iret rfl rfl rfl ⟨by unfold clV; split <;> first | rfl | (exfalso; omega), rfl⟩
set_option maxRecDepth 100000 in
set_option maxHeartbeats 400000 in
theorem c_L_at (d : Nat) (S : Nat → Nat → Int32) (G : Nat → Nat → Int64) (x : Int32) (n : Nat) (hn : n < 2 ^ 31) (h0 : 0 < n) : xR τ d mL_at [.int x, .int (nI n)] S G (some (.int (nI (atv x n)))) S G := by
  refine xC.of okL_at (Nat.le_of_ble_eq_true rfl) (L := [_, _]) rfl ?_
  refine xA.iload_n (i := 0) rfl rfl rfl rfl ?_
  refine xA.iconst (v := 1) rfl (by decide) rfl ?_
  refine xA.iushr rfl rfl ?_
  refine xA.iload_n (i := 1) rfl rfl rfl rfl ?_
  refine xA.irem rfl (nI_ne0 h0 hn) rfl ?_
  exact xA.iret rfl rfl rfl ⟨by rw [at_eq hn h0], rfl⟩
set_option maxRecDepth 100000 in
set_option maxHeartbeats 400000 in
theorem c_L_back (d : Nat) (S : Nat → Nat → Int32) (G : Nat → Nat → Int64) (h : hS) (hh : RH (S 54) h) (kd : Nat) (hk : kd < 5) : xR (τL ρ) d mL_back [.ref 54, .int (nI kd)] S G (some (.int (nI (lpN h kd)))) S G := by
  refine xC.of okL_back (Nat.le_of_ble_eq_true rfl) (L := [_, _]) rfl ?_
  refine xA.iload_n (i := 1) rfl rfl rfl rfl ?_
  refine xA.iconst (v := 2) rfl (by decide) rfl ?_
  refine xA.icmp_ne (tgt := 14) rfl rfl rfl (fun h2 => ?_) (fun h2 => ?_)
  · rw [show (2 : Int32) = nI 2 from rfl, nI_eq (by omega) (by omega)] at h2
    refine xA.aload_n (i := 0) rfl rfl rfl rfl ?_
    refine xA.bipush (v := 13) rfl (by decide) rfl ?_
    refine xA.iald rfl rfl (vp_in_nI (n := 13) (by decide) (by decide)) rfl ?_
    refine xA.topi (hh.2.1) ?_
    exact xA.iret rfl rfl rfl ⟨by unfold lpN; first | rw [if_pos h2] | rw [if_neg h2], rfl⟩
  · rw [show (2 : Int32) = nI 2 from rfl, nI_eq (by omega) (by omega)] at h2
    refine xA.aload_n (i := 0) rfl rfl rfl rfl ?_
    refine xA.bipush (v := 13) rfl (by decide) rfl ?_
    refine xA.iald rfl rfl (vp_in_nI (n := 13) (by decide) (by decide)) rfl ?_
    refine xA.topi (hh.2.1) ?_
    refine xA.iconst (v := 1) rfl (by decide) rfl ?_
    refine xA.iadd rfl rfl ?_
    refine xA.topi (nI_1 _) ?_
    refine xA.goto (q := 18) rfl rfl ?_
    exact xA.iret rfl rfl rfl ⟨by unfold lpN; first | rw [if_pos h2] | rw [if_neg h2], rfl⟩
set_option maxRecDepth 100000 in
set_option maxHeartbeats 400000 in
theorem c_L_step (d : Nat) (S : Nat → Nat → Int32) (G : Nat → Nat → Int64) (h : hS) (hh : RH (S 54) h) (hlo : hLo h < 6) (hba : hBa h ≤ 9) (kd m r s : Nat) (hk : kd < 5) (hm : m < 60) (hr : r < 6) (hs : s < 8) : xR (τL ρ) (d + 1) mL_step [.ref 54, .int (nI kd), .int (nI (m * 8 + r)), .int (nI s)] S G (some (.int (o8 (nxH (hD h) (hLo h) m r s (lpN h kd))))) S G := by
  refine xC.of okL_step (Nat.le_of_ble_eq_true rfl) (L := [_, _, _, _, _, _]) rfl ?_
  have hlp : lpN h kd ≤ 10 := by unfold lpN; split <;> omega
  obtain ⟨x, hx, hxA, hxb⟩ := hh.2.2.2.2.1 r hr
  refine xA.iload_n (i := 2) rfl rfl rfl rfl ?_
  refine xA.bipush (v := 8) rfl (by decide) rfl ?_
  refine xA.idiv rfl (by decide) rfl ?_
  refine xA.topi (d8_div hm hr) ?_
  refine xA.istore (L' := [_, _, _, _, _, _]) rfl (Nat.le_of_ble_eq_true rfl) rfl rfl ?_
  refine xA.iload_n (i := 2) rfl rfl rfl rfl ?_
  refine xA.bipush (v := 8) rfl (by decide) rfl ?_
  refine xA.irem rfl (by decide) rfl ?_
  refine xA.topi (d8_mod hm hr) ?_
  refine xA.istore (L' := [_, _, _, _, _, _]) rfl (Nat.le_of_ble_eq_true rfl) rfl rfl ?_
  refine xA.iload_n (i := 3) rfl rfl rfl rfl ?_
  refine xA.bipush (v := 7) rfl (by decide) rfl ?_
  refine xA.icmp_ne (tgt := 52) rfl rfl rfl (fun h15 => ?_) (fun h15 => ?_)
  · rw [show (7 : Int32) = nI 7 from rfl, nI_eq (by omega) (by omega)] at h15
    refine xA.iload rfl rfl rfl ?_
    refine xA.bipush (v := 59) rfl (by decide) rfl ?_
    refine xA.icmp_eq (tgt := 76) rfl rfl rfl (fun h56 => ?_) (fun h56 => ?_)
    · rw [show (59 : Int32) = nI 59 from rfl, nI_eq (by omega) (by omega)] at h56
      refine xA.iconst (v := (-1)) rfl (by decide) rfl ?_
      exact xA.iret rfl rfl rfl ⟨by rw [o8_nx hm hr hs]; (repeat' split) <;> first | rfl | (exfalso; omega), rfl⟩
    · rw [show (59 : Int32) = nI 59 from rfl, nI_eq (by omega) (by omega)] at h56
      refine xA.iload_n (i := 3) rfl rfl rfl rfl ?_
      refine xA.bipush (v := 6) rfl (by decide) rfl ?_
      refine xA.icmp_ge (tgt := 78) rfl rfl rfl (fun h62 => ?_) (fun h62 => ?_)
      · rw [show (6 : Int32) = nI 6 from rfl, nI_leI (by omega) (by omega)] at h62
        refine xA.bipush (v := 8) rfl (by decide) rfl ?_
        refine xA.iload rfl rfl rfl ?_
        refine xA.iconst (v := 1) rfl (by decide) rfl ?_
        refine xA.iadd rfl rfl ?_
        refine xA.topi (nI_1 m) ?_
        refine xA.imul rfl rfl ?_
        refine xA.topi (show (8 : Int32) * nI (m + 1) = nI (8 * (m + 1)) from nI_mul 8 _) ?_
        refine xA.iload_n (i := 3) rfl rfl rfl rfl ?_
        refine xA.bipush (v := 6) rfl (by decide) rfl ?_
        refine xA.icmp_ne (tgt := 96) rfl rfl rfl (fun h88 => ?_) (fun h88 => ?_)
        · rw [show (6 : Int32) = nI 6 from rfl, nI_eq (by omega) (by omega)] at h88
          refine xA.iload_n (i := 3) rfl rfl rfl rfl ?_
          refine xA.iadd rfl rfl ?_
          refine xA.topi (nI_add _ _) ?_
          exact xA.iret rfl rfl rfl ⟨by rw [o8_nx hm hr hs]; (repeat' split) <;> first | rfl | (exfalso; omega), rfl⟩
        · rw [show (6 : Int32) = nI 6 from rfl, nI_eq (by omega) (by omega)] at h88
          refine xA.iload rfl rfl rfl ?_
          refine xA.goto (q := 97) rfl rfl ?_
          refine xA.iadd rfl rfl ?_
          refine xA.topi (nI_add _ _) ?_
          exact xA.iret rfl rfl rfl ⟨by rw [o8_nx hm hr hs]; (repeat' split) <;> first | rfl | (exfalso; omega), rfl⟩
      · rw [show (6 : Int32) = nI 6 from rfl, nI_leI (by omega) (by omega)] at h62
        refine xA.aload_n (i := 0) rfl rfl rfl rfl ?_
        refine xA.iload rfl rfl rfl ?_
        refine xA.iald rfl rfl (vp_in_nI (by omega) (by omega)) rfl ?_
        refine xA.topi (rdA (by omega) hxA) ?_
        refine xA.iload_n (i := 3) rfl rfl rfl rfl ?_
        refine xA.ishr rfl rfl ?_
        refine xA.iconst (v := 1) rfl (by decide) rfl ?_
        refine xA.iand rfl rfl ?_
        refine xA.if_ne (tgt := 78) rfl rfl rfl (fun h73 => ?_) (fun h73 => ?_)
        · have h73 := (bt_nI x hx s (by omega)).mp h73
          rw [hxb s (by omega), decide_eq_true_eq] at h73
          refine xA.bipush (v := 8) rfl (by decide) rfl ?_
          refine xA.iload rfl rfl rfl ?_
          refine xA.iconst (v := 1) rfl (by decide) rfl ?_
          refine xA.iadd rfl rfl ?_
          refine xA.topi (nI_1 m) ?_
          refine xA.imul rfl rfl ?_
          refine xA.topi (show (8 : Int32) * nI (m + 1) = nI (8 * (m + 1)) from nI_mul 8 _) ?_
          refine xA.iload_n (i := 3) rfl rfl rfl rfl ?_
          refine xA.bipush (v := 6) rfl (by decide) rfl ?_
          refine xA.icmp_ne (tgt := 96) rfl rfl rfl (fun h88 => ?_) (fun h88 => ?_)
          · rw [show (6 : Int32) = nI 6 from rfl, nI_eq (by omega) (by omega)] at h88
            refine xA.iload_n (i := 3) rfl rfl rfl rfl ?_
            refine xA.iadd rfl rfl ?_
            refine xA.topi (nI_add _ _) ?_
            exact xA.iret rfl rfl rfl ⟨by rw [o8_nx hm hr hs]; (repeat' split) <;> first | rfl | (exfalso; omega), rfl⟩
          · rw [show (6 : Int32) = nI 6 from rfl, nI_eq (by omega) (by omega)] at h88
            refine xA.iload rfl rfl rfl ?_
            refine xA.goto (q := 97) rfl rfl ?_
            refine xA.iadd rfl rfl ?_
            refine xA.topi (nI_add _ _) ?_
            exact xA.iret rfl rfl rfl ⟨by rw [o8_nx hm hr hs]; (repeat' split) <;> first | rfl | (exfalso; omega), rfl⟩
        · have h73 : ¬ x.testBit s = true := fun q => absurd h73 ((bt_nI x hx s (by omega)).mpr q)
          rw [hxb s (by omega), decide_eq_true_eq] at h73
          refine xA.iconst (v := (-1)) rfl (by decide) rfl ?_
          exact xA.iret rfl rfl rfl ⟨by rw [o8_nx hm hr hs]; (repeat' split) <;> first | rfl | (exfalso; omega), rfl⟩
  · rw [show (7 : Int32) = nI 7 from rfl, nI_eq (by omega) (by omega)] at h15
    refine xA.iload rfl rfl rfl ?_
    refine xA.aload_n (i := 0) rfl rfl rfl rfl ?_
    refine xA.bipush (v := 12) rfl (by decide) rfl ?_
    refine xA.iald rfl rfl (vp_in_nI (n := 12) (by decide) (by decide)) rfl ?_
    refine xA.topi (hh.1) ?_
    refine xA.icmp_ne (tgt := 50) rfl rfl rfl (fun h24 => ?_) (fun h24 => ?_)
    · rw [nI_eq (by omega) (by omega)] at h24
      refine xA.iconst (v := (-1)) rfl (by decide) rfl ?_
      exact xA.iret rfl rfl rfl ⟨by rw [o8_nx hm hr hs]; (repeat' split) <;> first | rfl | (exfalso; omega), rfl⟩
    · rw [nI_eq (by omega) (by omega)] at h24
      refine xA.iload rfl rfl rfl ?_
      refine xA.aload_n (i := 0) rfl rfl rfl rfl ?_
      refine xA.iload_n (i := 1) rfl rfl rfl rfl ?_
      refine xA.callSi (As := [_, _]) rfl k11_24 okL_back rfl rfl (Nat.le_of_ble_eq_true rfl) (c_L_back d S G h hh kd hk) rfl rfl ?_
      refine xA.icmp_lt (tgt := 50) rfl rfl rfl (fun h34 => ?_) (fun h34 => ?_)
      · rw [nI_ltI (by omega) (by omega)] at h34
        refine xA.iconst (v := (-1)) rfl (by decide) rfl ?_
        exact xA.iret rfl rfl rfl ⟨by rw [o8_nx hm hr hs]; (repeat' split) <;> first | rfl | (exfalso; omega), rfl⟩
      · rw [nI_ltI (by omega) (by omega)] at h34
        refine xA.iload_n (i := 2) rfl rfl rfl rfl ?_
        refine xA.bipush (v := 8) rfl (by decide) rfl ?_
        refine xA.aload_n (i := 0) rfl rfl rfl rfl ?_
        refine xA.iload_n (i := 1) rfl rfl rfl rfl ?_
        refine xA.callSi (As := [_, _]) rfl k11_24 okL_back rfl rfl (Nat.le_of_ble_eq_true rfl) (c_L_back d S G h hh kd hk) rfl rfl ?_
        refine xA.imul rfl rfl ?_
        refine xA.topi (show (8 : Int32) * nI (lpN h kd) = nI (8 * lpN h kd) from nI_mul 8 _) ?_
        refine xA.isub rfl rfl ?_
        refine xA.topi (show _ = nI ((m - lpN h kd) * 8 + r) from by rw [nI_sub (by omega)]; congr 1; omega) ?_
        refine xA.goto (q := 51) rfl rfl ?_
        exact xA.iret rfl rfl rfl ⟨by rw [o8_nx hm hr hs]; (repeat' split) <;> first | rfl | (exfalso; omega), rfl⟩
set_option maxRecDepth 100000 in
set_option maxHeartbeats 400000 in
theorem c_L_met (d : Nat) (S : Nat → Nat → Int32) (G : Nat → Nat → Int64) (h : hS) (hh : RH (S 54) h) (h64 : ∀ a, hSr h a < 64) (kd a b : Nat) (hk : kd < 5) (ha : a < 360) (hb : b < 360) : xR (τL ρ) d mL_met [.ref 54, .int (nI kd), .int (nI (e8 a)), .int (nI (e8 b))] S G (some (.int (xb (a / 6 = b / 6 ∧ kd ≤ 2 ∧ (a % 6 = b % 6 ∨ (¬ kd = 1 ∧ (hSr h (a % 6)).testBit (b % 6) = true)))))) S G := by
  refine xC.of okL_met (Nat.le_of_ble_eq_true rfl) (L := [_, _, _, _]) rfl ?_
  refine xA.iload_n (i := 2) rfl rfl rfl rfl ?_
  refine xA.bipush (v := 8) rfl (by decide) rfl ?_
  refine xA.idiv rfl (by decide) rfl ?_
  refine xA.topi (e8I_div ha) ?_
  refine xA.iload_n (i := 3) rfl rfl rfl rfl ?_
  refine xA.bipush (v := 8) rfl (by decide) rfl ?_
  refine xA.idiv rfl (by decide) rfl ?_
  refine xA.topi (e8I_div hb) ?_
  refine xA.icmp_ne (tgt := 16) rfl rfl rfl (fun h8 => ?_) (fun h8 => ?_)
  · rw [nI_eq (by omega) (by omega)] at h8
    refine xA.iconst (v := 0) rfl (by decide) rfl ?_
    exact xA.iret rfl rfl rfl ⟨by first | (rw [xb_t ⟨h8, h13, Or.inl h26⟩]; done) | (rw [xb_t ⟨h8, h13, Or.inr ⟨h31, h51⟩⟩]; done) | (rw [xb_f (fun q => h8 q.1)]; done) | (rw [xb_f (fun q => h13 q.2.1)]; done) | (rw [xb_f (fun q => q.2.2.elim h26 (fun z => z.1 h31))]; done) | (rw [xb_f (fun q => q.2.2.elim h26 (fun z => h51 z.2))]; done), rfl⟩
  · rw [nI_eq (by omega) (by omega)] at h8
    refine xA.iload_n (i := 1) rfl rfl rfl rfl ?_
    refine xA.iconst (v := 2) rfl (by decide) rfl ?_
    refine xA.icmp_le (tgt := 18) rfl rfl rfl (fun h13 => ?_) (fun h13 => ?_)
    · rw [show (2 : Int32) = nI 2 from rfl, nI_leI (by omega) (by omega)] at h13
      refine xA.iload_n (i := 2) rfl rfl rfl rfl ?_
      refine xA.bipush (v := 8) rfl (by decide) rfl ?_
      refine xA.irem rfl (by decide) rfl ?_
      refine xA.topi (e8I_mod ha) ?_
      refine xA.iload_n (i := 3) rfl rfl rfl rfl ?_
      refine xA.bipush (v := 8) rfl (by decide) rfl ?_
      refine xA.irem rfl (by decide) rfl ?_
      refine xA.topi (e8I_mod hb) ?_
      refine xA.icmp_eq (tgt := 54) rfl rfl rfl (fun h26 => ?_) (fun h26 => ?_)
      · rw [nI_eq (by omega) (by omega)] at h26
        refine xA.iconst (v := 1) rfl (by decide) rfl ?_
        refine xA.goto (q := 59) rfl rfl ?_
        exact xA.iret rfl rfl rfl ⟨by first | (rw [xb_t ⟨h8, h13, Or.inl h26⟩]; done) | (rw [xb_t ⟨h8, h13, Or.inr ⟨h31, h51⟩⟩]; done) | (rw [xb_f (fun q => h8 q.1)]; done) | (rw [xb_f (fun q => h13 q.2.1)]; done) | (rw [xb_f (fun q => q.2.2.elim h26 (fun z => z.1 h31))]; done) | (rw [xb_f (fun q => q.2.2.elim h26 (fun z => h51 z.2))]; done), rfl⟩
      · rw [nI_eq (by omega) (by omega)] at h26
        refine xA.iload_n (i := 1) rfl rfl rfl rfl ?_
        refine xA.iconst (v := 1) rfl (by decide) rfl ?_
        refine xA.icmp_eq (tgt := 58) rfl rfl rfl (fun h31 => ?_) (fun h31 => ?_)
        · rw [show (1 : Int32) = nI 1 from rfl, nI_eq (by omega) (by omega)] at h31
          refine xA.iconst (v := 0) rfl (by decide) rfl ?_
          exact xA.iret rfl rfl rfl ⟨by first | (rw [xb_t ⟨h8, h13, Or.inl h26⟩]; done) | (rw [xb_t ⟨h8, h13, Or.inr ⟨h31, h51⟩⟩]; done) | (rw [xb_f (fun q => h8 q.1)]; done) | (rw [xb_f (fun q => h13 q.2.1)]; done) | (rw [xb_f (fun q => q.2.2.elim h26 (fun z => z.1 h31))]; done) | (rw [xb_f (fun q => q.2.2.elim h26 (fun z => h51 z.2))]; done), rfl⟩
        · rw [show (1 : Int32) = nI 1 from rfl, nI_eq (by omega) (by omega)] at h31
          refine xA.aload_n (i := 0) rfl rfl rfl rfl ?_
          refine xA.bipush (v := 6) rfl (by decide) rfl ?_
          refine xA.iload_n (i := 2) rfl rfl rfl rfl ?_
          refine xA.bipush (v := 8) rfl (by decide) rfl ?_
          refine xA.irem rfl (by decide) rfl ?_
          refine xA.topi (e8I_mod ha) ?_
          refine xA.iadd rfl rfl ?_
          refine xA.topi (show (6 : Int32) + nI (a % 6) = nI (6 + a % 6) from nI_add 6 _) ?_
          refine xA.iald rfl rfl (vp_in_nI (by omega) (by omega)) rfl ?_
          refine xA.topi (rdA (by omega) (hh.2.2.2.2.2.1 (a % 6) (by omega))) ?_
          refine xA.iload_n (i := 3) rfl rfl rfl rfl ?_
          refine xA.bipush (v := 8) rfl (by decide) rfl ?_
          refine xA.irem rfl (by decide) rfl ?_
          refine xA.topi (e8I_mod hb) ?_
          refine xA.ishr rfl rfl ?_
          refine xA.iconst (v := 1) rfl (by decide) rfl ?_
          refine xA.iand rfl rfl ?_
          refine xA.topi (bt1_nI _ (h64 _) _ (by omega)) ?_
          refine xA.iconst (v := 1) rfl (by decide) rfl ?_
          refine xA.icmp_ne (tgt := 58) rfl rfl rfl (fun h51 => ?_) (fun h51 => ?_)
          · rw [xb_eq1] at h51
            refine xA.iconst (v := 0) rfl (by decide) rfl ?_
            exact xA.iret rfl rfl rfl ⟨by first | (rw [xb_t ⟨h8, h13, Or.inl h26⟩]; done) | (rw [xb_t ⟨h8, h13, Or.inr ⟨h31, h51⟩⟩]; done) | (rw [xb_f (fun q => h8 q.1)]; done) | (rw [xb_f (fun q => h13 q.2.1)]; done) | (rw [xb_f (fun q => q.2.2.elim h26 (fun z => z.1 h31))]; done) | (rw [xb_f (fun q => q.2.2.elim h26 (fun z => h51 z.2))]; done), rfl⟩
          · rw [xb_eq1] at h51
            refine xA.iconst (v := 1) rfl (by decide) rfl ?_
            refine xA.goto (q := 59) rfl rfl ?_
            exact xA.iret rfl rfl rfl ⟨by first | (rw [xb_t ⟨h8, h13, Or.inl h26⟩]; done) | (rw [xb_t ⟨h8, h13, Or.inr ⟨h31, h51⟩⟩]; done) | (rw [xb_f (fun q => h8 q.1)]; done) | (rw [xb_f (fun q => h13 q.2.1)]; done) | (rw [xb_f (fun q => q.2.2.elim h26 (fun z => z.1 h31))]; done) | (rw [xb_f (fun q => q.2.2.elim h26 (fun z => h51 z.2))]; done), rfl⟩
    · rw [show (2 : Int32) = nI 2 from rfl, nI_leI (by omega) (by omega)] at h13
      refine xA.iconst (v := 0) rfl (by decide) rfl ?_
      exact xA.iret rfl rfl rfl ⟨by first | (rw [xb_t ⟨h8, h13, Or.inl h26⟩]; done) | (rw [xb_t ⟨h8, h13, Or.inr ⟨h31, h51⟩⟩]; done) | (rw [xb_f (fun q => h8 q.1)]; done) | (rw [xb_f (fun q => h13 q.2.1)]; done) | (rw [xb_f (fun q => q.2.2.elim h26 (fun z => z.1 h31))]; done) | (rw [xb_f (fun q => q.2.2.elim h26 (fun z => h51 z.2))]; done), rfl⟩
set_option maxRecDepth 100000 in
set_option maxHeartbeats 400000 in
theorem c_L_there (d : Nat) (S : Nat → Nat → Int32) (G : Nat → Nat → Int64) (k : Nat) (hk : k < 3) (l : lS) (hl : RL1 (S 55) (S 56) k l) (q : Nat) (hq : q < 360) : xR (τL ρ) d mL_there [.ref 55, .ref 56, .int (nI k), .int (nI (e8 q))] S G (some (.int (nI (thN l q)))) S G := by
  refine xC.of okL_there (Nat.le_of_ble_eq_true rfl) (L := [_, _, _, _, _, _]) rfl ?_
  have h17 := hl.2.1
  have hq8 := e8_lt hq
  have loop : ∀ i, i ≤ lN' l → xA none d mL_there 0 0 0 0 6 [some (.ref 55), some (.ref 56), some (.int (nI k)), some (.int (nI (e8 q))), some (.int (nI (cn (fun j => decide (lSp l j = q)) i))), some (.int (nI i))] [] (σF (τL ρ), S, G) (fun r' h' => r' = (some (.int (nI (thN l q)))) ∧ h' = (σF (τL ρ), S, G)) := by
    refine xloop (lN' l) (fun i hi ih => ?_) ?_
    · have hi8 := e8_lt (hl.2.2 i hi).2
      refine xA.iload rfl rfl rfl ?_
      refine xA.aload_n (i := 0) rfl rfl rfl rfl ?_
      refine xA.iconst (v := 5) rfl (by decide) rfl ?_
      refine xA.iload_n (i := 2) rfl rfl rfl rfl ?_
      refine xA.iadd rfl rfl ?_
      refine xA.topi (show (5 : Int32) + nI k = nI (5 + k) from nI_add 5 _) ?_
      refine xA.iald rfl rfl (vp_in_nI (by omega) (by omega)) rfl ?_
      refine xA.topi (rdA (by omega) hl.1) ?_
      refine xA.icmp_ge (tgt := 45) rfl rfl rfl (fun h13 => ?_) (fun h13 => ?_)
      · exact absurd h13 (nI_ge hi (by omega))
      · refine xA.iload rfl rfl rfl ?_
        refine xA.aload_n (i := 1) rfl rfl rfl rfl ?_
        refine xA.bipush (v := 17) rfl (by decide) rfl ?_
        refine xA.iload_n (i := 2) rfl rfl rfl rfl ?_
        refine xA.imul rfl rfl ?_
        refine xA.topi (show (17 : Int32) * nI k = nI (17 * k) from nI_mul 17 _) ?_
        refine xA.iload rfl rfl rfl ?_
        refine xA.iadd rfl rfl ?_
        refine xA.topi (nI_add _ _) ?_
        refine xA.iald rfl rfl (vp_in_nI (by omega) (by omega)) rfl ?_
        refine xA.topi (rdA (by omega) (hl.2.2 i hi).1) ?_
        refine xA.iload_n (i := 3) rfl rfl rfl rfl ?_
        refine xA.icmp_ne (tgt := 35) rfl rfl rfl (fun h28 => ?_) (fun h28 => ?_)
        · rw [nI_eq (by omega) (by omega), e8_inj] at h28
          refine xA.iconst (v := 0) rfl (by decide) rfl ?_
          refine xA.iadd rfl rfl ?_
          refine xA.topi (show _ = nI (cn (fun j => decide (lSp l j = q)) (i + 1)) from by first | exact cn_t (by simp [h28]) | exact cn_f (by simp [h28])) ?_
          refine xA.istore (L' := [_, _, _, _, _, _]) rfl (Nat.le_of_ble_eq_true rfl) rfl rfl ?_
          refine xA.iinc (L' := [_, _, _, _, _, _]) rfl rfl (nI_1 i) rfl rfl ?_
          refine xA.goto (q := 6) rfl rfl ?_
          exact ih
        · rw [nI_eq (by omega) (by omega), e8_inj] at h28
          refine xA.iconst (v := 1) rfl (by decide) rfl ?_
          refine xA.goto (q := 36) rfl rfl ?_
          refine xA.iadd rfl rfl ?_
          refine xA.topi (show _ = nI (cn (fun j => decide (lSp l j = q)) (i + 1)) from by first | exact cn_t (by simp [h28]) | exact cn_f (by simp [h28])) ?_
          refine xA.istore (L' := [_, _, _, _, _, _]) rfl (Nat.le_of_ble_eq_true rfl) rfl rfl ?_
          refine xA.iinc (L' := [_, _, _, _, _, _]) rfl rfl (nI_1 i) rfl rfl ?_
          refine xA.goto (q := 6) rfl rfl ?_
          exact ih
    · skip
      refine xA.iload rfl rfl rfl ?_
      refine xA.aload_n (i := 0) rfl rfl rfl rfl ?_
      refine xA.iconst (v := 5) rfl (by decide) rfl ?_
      refine xA.iload_n (i := 2) rfl rfl rfl rfl ?_
      refine xA.iadd rfl rfl ?_
      refine xA.topi (show (5 : Int32) + nI k = nI (5 + k) from nI_add 5 _) ?_
      refine xA.iald rfl rfl (vp_in_nI (by omega) (by omega)) rfl ?_
      refine xA.topi (rdA (by omega) hl.1) ?_
      refine xA.icmp_ge (tgt := 45) rfl rfl rfl (fun h13 => ?_) (fun h13 => ?_)
      · refine xA.iload rfl rfl rfl ?_
        exact xA.iret rfl rfl rfl ⟨rfl, rfl⟩
      · exact absurd (nI_le (Nat.le_refl _) (by omega)) h13
  refine xA.iconst (v := 0) rfl (by decide) rfl ?_
  refine xA.istore (L' := [_, _, _, _, _, _]) rfl (Nat.le_of_ble_eq_true rfl) rfl rfl ?_
  refine xA.iconst (v := 0) rfl (by decide) rfl ?_
  refine xA.istore (L' := [_, _, _, _, _, _]) rfl (Nat.le_of_ble_eq_true rfl) rfl rfl ?_
  exact loop 0 (Nat.zero_le _)
set_option maxRecDepth 100000 in
set_option maxHeartbeats 400000 in
theorem c_L_write (d : Nat) (S : Nat → Nat → Int32) (G : Nat → Nat → Int64) (s : sS) (hc : CS S s) (hn0 : sN s = 0) (pg : Nat → Nat) (n : Nat) (hn : n ≤ 45) (ht : TX (S 57) pg n) : xC (d + 3) mL_write [.ref 0, .ref 57, .int (nI n)] (σF (τL ρ), S, G) 0 0 (fun r h' => r = some (.int 1) ∧ ∃ S' pg', h' = (σF (τL ρ), S', G) ∧ CS S' (pg', n, s.2.2) ∧ (∀ j, 54 ≤ j → S' j = S j) ∧ ∀ i, i < n → pg' i = pg i) := by
  refine xC.of okL_write (Nat.le_of_ble_eq_true rfl) (L := [_, _, _, _]) rfl ?_
  have loop : ∀ i, i ≤ n → ∀ S1 pg1, CS S1 (pg1, i, s.2.2) → (∀ j, 54 ≤ j → S1 j = S j) → (∀ j, j < i → pg1 j = pg j) → xA none (d + 3) mL_write 0 0 0 0 2 [some (.ref 0), some (.ref 57), some (.int (nI n)), some (.int (nI i))] [] (σF (τL ρ), S1, G) (fun r h' => r = some (.int 1) ∧ ∃ S' pg', h' = (σF (τL ρ), S', G) ∧ CS S' (pg', n, s.2.2) ∧ (∀ j, 54 ≤ j → S' j = S j) ∧ ∀ i, i < n → pg' i = pg i) := by
    refine xloop n (fun i hi ih => ?_) ?_
    · intro S1 pg1 hc1 hf1 hp1
      refine xA.iload_n (i := 3) rfl rfl rfl rfl ?_
      refine xA.iload_n (i := 2) rfl rfl rfl rfl ?_
      refine xA.icmp_ge (tgt := 29) rfl rfl rfl (fun h4 => ?_) (fun h4 => ?_)
      · exact absurd h4 (nI_ge hi (by omega))
      · refine xA.aload_n (i := 0) rfl rfl rfl rfl ?_
        refine xA.aload_n (i := 1) rfl rfl rfl rfl ?_
        refine xA.iload_n (i := 3) rfl rfl rfl rfl ?_
        refine xA.iald rfl rfl (vp_in_nI (by omega) (by omega)) rfl ?_
        refine xA.topi (rdA (by omega) ((congrFun (hf1 57 (by decide)) i).trans (ht i hi).1)) ?_
        refine xA.i2l rfl rfl ?_
        refine xA.gO (As := [_]) rfl k11_18 okX9_letters rfl rfl rfl (Nat.le_of_ble_eq_true rfl) (Nat.le_of_ble_eq_true rfl) (Nat.le_of_ble_eq_true rfl) (o_letters d _ _) (hc1) rfl rfl ?_
        intro S2 hc2 hf2
        have hl := ltr1 (s := (pg1, i, s.2.2)) (ht i hi).2.1 (ht i hi).2.2 (by omega : i < 45) rfl
        rw [hl.2] at hc2
        refine xA.topi hl.1 ?_
        refine xA.iload_n (i := 3) rfl rfl rfl rfl ?_
        refine xA.iconst (v := 1) rfl (by decide) rfl ?_
        refine xA.iadd rfl rfl ?_
        refine xA.topi (nI_1 i) ?_
        refine xA.icmp_eq (tgt := 23) rfl rfl rfl (fun h18 => ?_) (fun h18 => ?_)
        · refine xA.iinc (L' := [_, _, _, _]) rfl rfl (nI_1 i) rfl rfl ?_
          refine xA.goto (q := 2) rfl rfl ?_
          exact ih S2 _ hc2 (fun j hj => (hf2 j hj).trans (hf1 j hj)) (pgA_new (by have := (ht i hi).2.2; omega) hp1 rfl)
        · exact absurd rfl h18
    · intro S1 pg1 hc1 hf1 hp1
      refine xA.iload_n (i := 3) rfl rfl rfl rfl ?_
      refine xA.iload_n (i := 2) rfl rfl rfl rfl ?_
      refine xA.icmp_ge (tgt := 29) rfl rfl rfl (fun h4 => ?_) (fun h4 => ?_)
      · refine xA.iconst (v := 1) rfl (by decide) rfl ?_
        exact xA.iret rfl rfl rfl ⟨rfl, S1, pg1, rfl, hc1, hf1, hp1⟩
      · exact absurd (nI_le (Nat.le_refl _) (by omega)) h4
  refine xA.iconst (v := 0) rfl (by decide) rfl ?_
  refine xA.istore_n (i := 3) (L' := [_, _, _, _]) rfl rfl (Nat.le_of_ble_eq_true rfl) rfl rfl ?_
  exact loop 0 (Nat.zero_le _) S (sPg s) (by rw [← hn0]; exact hc) (fun _ _ => rfl) (fun j hj => absurd hj (Nat.not_lt_zero _))
end
section
/-! ===== the house that the law writes, pure ===== -/
theorem hrun_congr {pg pg' : Nat → Nat} : ∀ n, (∀ i, i < n → pg i = pg' i) → hrun pg n = hrun pg' n
  | 0, _ => rfl
  | n + 1, h => by
    show (hrun pg n).bind _ = (hrun pg' n).bind _
    rw [hrun_congr n (fun i hi => h i (by omega)), h n (by omega)]
/-- the row of letters holds n of them, and they are read as the house h so far -/
def HX (T : Nat → Int32) (n : Nat) (h : hS) : Prop := ∃ pg, TX T pg n ∧ hrun pg n = some h
theorem HX.zero {T : Nat → Int32} : HX T 0 h0 := ⟨fun _ => 0, fun i hi => absurd hi (Nat.not_lt_zero _), rfl⟩
theorem TX.add {T : Nat → Int32} {pg : Nat → Nat} {n c : Nat} (ht : TX T pg n) (h1 : 1 ≤ c) (h2 : c ≤ 126) : TX (iu T n (nI c)) (nu pg n c) (n + 1) := by
  intro i hi
  by_cases e : i = n
  · subst e
    rw [iu_at, nu_same]
    exact ⟨rfl, h1, h2⟩
  · rw [iu_off e, nu_ne e]
    exact ht i (by omega)
theorem HX.add {T : Nat → Int32} {n c : Nat} {h h2 : hS} (hx : HX T n h) (hs : hstep h c = some h2) (h1 : 1 ≤ c) (h3 : c ≤ 126) : HX (iu T n (nI c)) (n + 1) h2 := by
  obtain ⟨pg, ht, hr⟩ := hx
  refine ⟨nu pg n c, ht.add h1 h3, ?_⟩
  show (hrun (nu pg n c) n).bind _ = _
  rw [hrun_congr (pg' := pg) n (fun i hi => nu_ne (by omega)), hr, Option.bind_some, nu_same, hs]
theorem HX.ok {T : Nat → Int32} {n : Nat} {h : hS} (hx : HX T n h) : hOk h := by
  obtain ⟨pg, -, hr⟩ := hx
  exact hrok pg n h hr
theorem hdg6 {v : Nat} (hv : v < 6) : hdg (48 + v) 0 5 = some v := by
  unfold hdg; rw [if_pos (by omega), Nat.add_sub_cancel_left]
theorem hs_first {h : hS} {v : Nat} (hs : hSt h = 0 ∨ hSt h = 6) (hv : v < 6) : hstep h (48 + v) = some (hSt h + 1, hNd h, hNs h, hLo h, hBa h, v, hD h, hSr h, hOn h, hTw h) := by
  unfold hstep
  rw [if_pos hs, hdg6 hv]; rfl
def hdoor (h : hS) (a b : Nat) : hS := (2, hNd h + 1, hNs h, hLo h, hBa h, a, nu (nu (hD h) (a * 6 + b) (hNd h + 1)) (b * 6 + a) (hNd h + 1), hSr h, nu (hOn h) (hNd h) a, nu (hTw h) (hNd h) b)
def hsight (h : hS) (a b : Nat) : hS := (8, hNd h, hNs h + 1, hLo h, hBa h, a, hD h, nu (nu (hSr h) a (hSr h a ||| 2 ^ b)) b (hSr h b ||| 2 ^ a), hOn h, hTw h)
theorem HX.door {T : Nat → Int32} {n a b : Nat} {h : hS} (hx : HX T n h) (hs : hSt h = 0) (ha : a < 6) (hb : b < 6) (hab : ¬ b = a) (hd : hD h (a * 6 + b) = 0) : HX (iu (iu T n (nI (48 + a))) (n + 1) (nI (48 + b))) (n + 1 + 1) (hdoor h a b) := by
  have h1 := hx.add (hs_first (Or.inl hs) ha) (by omega) (by omega)
  refine h1.add ?_ (by omega) (by omega)
  rw [hs]
  unfold hstep
  rw [if_neg (fun q => q.elim (Nat.ne_of_beq_eq_false rfl) (Nat.ne_of_beq_eq_false rfl)), if_pos rfl, hdg6 hb, Option.bind_some]
  exact if_pos ⟨hab, hd⟩
theorem HX.sight {T : Nat → Int32} {n a b : Nat} {h : hS} (hx : HX T n h) (hs : hSt h = 6) (ha : a < 6) (hb : b < 6) (hab : ¬ b = a) (hd : (hSr h a).testBit b = false) : HX (iu (iu T n (nI (48 + a))) (n + 1) (nI (48 + b))) (n + 1 + 1) (hsight h a b) := by
  have h1 := hx.add (hs_first (Or.inr hs) ha) (by omega) (by omega)
  refine h1.add ?_ (by omega) (by omega)
  rw [hs]
  unfold hstep
  rw [if_neg (fun q => q.elim (Nat.ne_of_beq_eq_false rfl) (Nat.ne_of_beq_eq_false rfl)), if_neg (Nat.ne_of_beq_eq_false rfl), if_neg (Nat.ne_of_beq_eq_false rfl), if_neg (Nat.ne_of_beq_eq_false rfl), if_neg (Nat.ne_of_beq_eq_false rfl), if_neg (Nat.ne_of_beq_eq_false rfl), if_pos rfl, hdg6 hb, Option.bind_some]
  exact if_pos ⟨hab, hd⟩
theorem HX.comma {T : Nat → Int32} {n : Nat} {h : hS} (hx : HX T n h) (hs : hSt h = 2) (hd : hNd h < 10) : HX (iu T n (nI 44)) (n + 1) (0, h.2) := by
  refine hx.add ?_ (by omega) (by omega)
  unfold hstep
  rw [if_neg (by omega), if_neg (by omega), if_pos hs, if_neg (by decide), if_pos ⟨rfl, hd⟩]
theorem HX.commaS {T : Nat → Int32} {n : Nat} {h : hS} (hx : HX T n h) (hs : hSt h = 8) (hd : hNs h < 4) : HX (iu T n (nI 44)) (n + 1) (6, h.2) := by
  refine hx.add ?_ (by omega) (by omega)
  unfold hstep
  rw [if_neg (by omega), if_neg (by omega), if_neg (by omega), if_neg (by omega), if_neg (by omega), if_neg (by omega), if_neg (by omega), if_pos ⟨rfl, hd⟩]
theorem HX.semiS {T : Nat → Int32} {n : Nat} {h : hS} (hx : HX T n h) (hs : hSt h = 5) : HX (iu T n (nI 59)) (n + 1) (6, h.2) := by
  refine hx.add ?_ (by omega) (by omega)
  unfold hstep
  rw [if_neg (by omega), if_neg (by omega), if_neg (by omega), if_neg (by omega), if_neg (by omega), if_pos hs, if_pos rfl]
def hlow (h : hS) (lo bk : Nat) : hS := (5, hNd h, hNs h, lo, bk, hFi h, hD h, hSr h, hOn h, hTw h)
theorem HX.low {T : Nat → Int32} {n lo bk : Nat} {h : hS} (hx : HX T n h) (hs : hSt h = 2) (hlo : lo < 6) (h1 : 1 ≤ bk) (h9 : bk ≤ 9) : HX (iu (iu (iu T n (nI 59)) (n + 1) (nI (48 + lo))) (n + 1 + 1) (nI (48 + bk))) (n + 1 + 1 + 1) (hlow h lo bk) := by
  have e1 : HX (iu T n (nI 59)) (n + 1) (3, h.2) := by
    refine hx.add ?_ (by omega) (by omega)
    unfold hstep
    rw [if_neg (by omega), if_neg (by omega), if_pos hs, if_pos rfl]
  have e2 : HX (iu (iu T n (nI 59)) (n + 1) (nI (48 + lo))) (n + 1 + 1) (4, hNd h, hNs h, lo, hBa h, hFi h, hD h, hSr h, hOn h, hTw h) := by
    refine e1.add ?_ (by omega) (by omega)
    unfold hstep
    rw [if_neg (fun q => q.elim (Nat.ne_of_beq_eq_false rfl) (Nat.ne_of_beq_eq_false rfl)), if_neg (Nat.ne_of_beq_eq_false rfl), if_neg (Nat.ne_of_beq_eq_false rfl), if_pos rfl, hdg6 hlo]; rfl
  refine e2.add ?_ (by omega) (by omega)
  unfold hstep
  rw [if_neg (fun q => q.elim (Nat.ne_of_beq_eq_false rfl) (Nat.ne_of_beq_eq_false rfl)), if_neg (Nat.ne_of_beq_eq_false rfl), if_neg (Nat.ne_of_beq_eq_false rfl), if_neg (Nat.ne_of_beq_eq_false rfl), if_pos rfl]
  unfold hdg
  rw [if_pos (by omega), Nat.add_sub_cancel_left]; rfl
/-- RH without the low door -/
def RHp (A : Nat → Int32) (h : hS) : Prop := A 14 = nI (hNd h) ∧ A 15 = nI (hNs h) ∧ (∀ a, a < 6 → ∃ x, x < 64 ∧ A a = nI x ∧ ∀ b, b < 6 → x.testBit b = decide (¬ hD h (a * 6 + b) = 0)) ∧ (∀ a, a < 6 → A (6 + a) = nI (hSr h a)) ∧ ∀ j, j < hNd h → A (16 + j) = nI (hOn h j) ∧ A (26 + j) = nI (hTw h j)
theorem RHp_0 {A : Nat → Int32} (h : ∀ i, i < 36 → A i = 0) : RHp A h0 :=
  ⟨h 14 (by decide), h 15 (by decide), fun a ha => ⟨0, by omega, h a (by omega), fun b _ => by show (0 : Nat).testBit b = decide (¬ (0 : Nat) = 0); simp⟩, fun a ha => h (6 + a) (by omega), fun j hj => absurd hj (Nat.not_lt_zero _)⟩
theorem RHp_door {A : Nat → Int32} {h : hS} {a b x y : Nat} (hp : RHp A h) (ha : a < 6) (hb : b < 6) (hab : ¬ b = a) (hx : x < 64) (hxt : ∀ c, c < 6 → x.testBit c = decide (¬ hD h (a * 6 + c) = 0)) (hy : y < 64) (hyt : ∀ c, c < 6 → y.testBit c = decide (¬ hD h (b * 6 + c) = 0)) (hnd : hNd h < 10) :
    RHp (iu (iu (iu (iu (iu A a (nI (x ||| 2 ^ b))) b (nI (y ||| 2 ^ a))) (16 + hNd h) (nI a)) (26 + hNd h) (nI b)) 14 (nI (hNd h + 1))) (hdoor h a b) := by
  obtain ⟨p1, p2, p3, p4, p5⟩ := hp
  refine ⟨iu_at, ?_, ?_, ?_, ?_⟩
  · rw [iu_off (by omega), iu_off (by omega), iu_off (by omega), iu_off (by omega), iu_off (by omega)]; exact p2
  · intro c hc
    rw [iu_off (by omega), iu_off (by omega), iu_off (by omega)]
    by_cases hcb : c = b
    · subst hcb
      rw [iu_at]
      refine ⟨y ||| 2 ^ a, or_lt64 hy ha, rfl, fun e he => ?_⟩
      rw [Nat.testBit_or, Nat.testBit_two_pow, hyt e he]
      show _ = decide (¬ nu (nu (hD h) (a * 6 + c) (hNd h + 1)) (c * 6 + a) (hNd h + 1) (c * 6 + e) = 0)
      by_cases hea : e = a
      · subst hea
        rw [nu_same]; simp
      · rw [nu_ne (fun q => hea ((six he ha).mp q).2), nu_ne (fun q => hab ((six he hb).mp q).1)]
        have : ¬ a = e := fun q => hea q.symm
        simp [this]
    · rw [iu_off hcb]
      by_cases hca : c = a
      · subst hca
        rw [iu_at]
        refine ⟨x ||| 2 ^ b, or_lt64 hx hb, rfl, fun e he => ?_⟩
        rw [Nat.testBit_or, Nat.testBit_two_pow, hxt e he]
        show _ = decide (¬ nu (nu (hD h) (c * 6 + b) (hNd h + 1)) (b * 6 + c) (hNd h + 1) (c * 6 + e) = 0)
        rw [nu_ne (fun q => hcb ((six he hc).mp q).1)]
        by_cases heb : e = b
        · subst heb
          rw [nu_same]; simp
        · rw [nu_ne (fun q => heb ((six he hb).mp q).2)]
          have : ¬ b = e := fun q => heb q.symm
          simp [this]
      · rw [iu_off hca]
        obtain ⟨z, z1, z2, z3⟩ := p3 c hc
        refine ⟨z, z1, z2, fun e he => ?_⟩
        rw [z3 e he]
        show _ = decide (¬ nu (nu (hD h) (a * 6 + b) (hNd h + 1)) (b * 6 + a) (hNd h + 1) (c * 6 + e) = 0)
        rw [nu_ne (fun q => hcb ((six he ha).mp q).1), nu_ne (fun q => hca ((six he hb).mp q).1)]
  · intro c hc
    rw [iu_off (by omega), iu_off (by omega), iu_off (by omega), iu_off (by omega), iu_off (by omega)]
    exact p4 c hc
  · intro j hj
    have hj2 : j < hNd h + 1 := hj
    show _ = nI (nu (hOn h) (hNd h) a j) ∧ _ = nI (nu (hTw h) (hNd h) b j)
    by_cases e : j = hNd h
    · subst e
      rw [nu_same, nu_same, iu_off (by omega), iu_off (by omega), iu_at, iu_off (by omega), iu_at]
      exact ⟨rfl, rfl⟩
    · rw [nu_ne e, nu_ne e, iu_off (by omega), iu_off (by omega), iu_off (by omega), iu_off (by omega), iu_off (by omega), iu_off (by omega), iu_off (by omega), iu_off (by omega), iu_off (by omega), iu_off (by omega)]
      exact p5 j (by omega)
theorem RHp_sight {A : Nat → Int32} {h : hS} {a b : Nat} (hp : RHp A h) (ha : a < 6) (hb : b < 6) (hab : ¬ b = a) :
    RHp (iu (iu (iu A (6 + a) (nI (hSr h a ||| 2 ^ b))) (6 + b) (nI (hSr h b ||| 2 ^ a))) 15 (nI (hNs h + 1))) (hsight h a b) := by
  obtain ⟨p1, p2, p3, p4, p5⟩ := hp
  refine ⟨?_, iu_at, ?_, ?_, ?_⟩
  · rw [iu_off (by omega), iu_off (by omega), iu_off (by omega)]; exact p1
  · intro c hc
    rw [iu_off (by omega), iu_off (by omega), iu_off (by omega)]
    exact p3 c hc
  · intro c hc
    show _ = nI (nu (nu (hSr h) a (hSr h a ||| 2 ^ b)) b (hSr h b ||| 2 ^ a) c)
    rw [iu_off (by omega)]
    by_cases hcb : c = b
    · subst hcb
      rw [iu_at, nu_same]
    · rw [iu_off (by omega), nu_ne hcb]
      by_cases hca : c = a
      · subst hca
        rw [iu_at, nu_same]
      · rw [iu_off (by omega), nu_ne hca]
        exact p4 c hc
  · intro j hj
    rw [iu_off (by omega), iu_off (by omega), iu_off (by omega), iu_off (by omega), iu_off (by omega), iu_off (by omega)]
    exact p5 j hj
/-- the rows h and t alone changed -/
def fr2 (S S1 : Nat → Nat → Int32) : Prop := ∀ j, j ≠ 54 → j ≠ 57 → S1 j = S j
theorem fr2.x54 {S S1 : Nat → Nat → Int32} (h : fr2 S S1) (k : Nat) (v : Int32) : fr2 S (xu S1 54 k v) := fun j h1 h2 => by rw [xu_off h1]; exact h j h1 h2
theorem fr2.x57 {S S1 : Nat → Nat → Int32} (h : fr2 S S1) (k : Nat) (v : Int32) : fr2 S (xu S1 57 k v) := fun j h1 h2 => by rw [xu_off h2]; exact h j h1 h2
theorem x54_54 {S : Nat → Nat → Int32} {k : Nat} {v : Int32} : xu S 54 k v 54 = iu (S 54) k v := xu_at
theorem x57_57 {S : Nat → Nat → Int32} {k : Nat} {v : Int32} : xu S 57 k v 57 = iu (S 57) k v := xu_at
theorem x54_57 {S : Nat → Nat → Int32} {k : Nat} {v : Int32} : xu S 54 k v 57 = S 57 := xu_off (by decide)
theorem x57_54 {S : Nat → Nat → Int32} {k : Nat} {v : Int32} : xu S 57 k v 54 = S 54 := xu_off (by decide)
/-- the loop of the doors, of the sights -/
def inD (k n : Nat) (h : hS) : Prop := hNs h = 0 ∧ (∀ a, hSr h a = 0) ∧ ((k = 0 ∧ n = 0 ∧ h = h0) ∨ (1 ≤ hNd h ∧ hNd h ≤ k ∧ hSt h = 2 ∧ n + 1 = 3 * hNd h))
def inS (k n : Nat) (h : hS) : Prop := 1 ≤ hNd h ∧ n = 3 * hNd h + 2 + 3 * hNs h ∧ ((k = 0 ∧ hNs h = 0 ∧ hSt h = 5 ∧ ∀ a, hSr h a = 0) ∨ (1 ≤ hNs h ∧ hNs h ≤ k ∧ hSt h = 8))
section LAT
variable {τ : List xSh} {X : Option (Nat × (Nat → Int32))} {d : Nat} {M : xM} {c n mc ms pc q idx : Nat} {L : List (Option Value)} {st : List Value} {S : Nat → Nat → Int32} {G : Nat → Nat → Int64} {Q : Option Value → xH → Prop}
theorem xA.at {x v : Int32} {N : Nat} (hd : xfetch M pc = some (.invokestatic idx, 3)) (hk : xcS M.1.cls idx mL_at) (hLn : L.length = M.2.2.1) (hst : (st.map Value.category).sum ≤ 8) (hc1 : c ≤ mc) (hc2 : n ≤ ms) (hv : v = nI N) (hN : N < 2 ^ 31) (h0 : 0 < N) (hq : pc + 3 = q) (kk : ∀ j, j < N → xA X (d + 1) M c n mc ms q L (.int (nI j) :: st) (σF τ, S, G) Q) : xA X (d + 1) M c n mc ms pc L (.int v :: .int x :: st) (σF τ, S, G) Q := by
  subst hv
  exact xA.gS (As := [.int x, .int (nI N)]) hd hk okL_at rfl hLn hst hc1 hc2 (c_L_at d S G x N hN h0) hq rfl (kk _ (atv_lt h0))
theorem xA.cell {N : Nat} {xs : Nat → Int32} {v : Int32} {k : Nat} (hN : N ≤ 260) (hd : xfetch M pc = some (.invokestatic idx, 3)) (hk : xcS M.1.cls idx mL_cell) (hLn : L.length = M.2.2.1) (hst : (st.map Value.category).sum ≤ 8) (hc1 : c ≤ mc) (hc2 : n ≤ ms) (hv : v = nI k) (hk100 : k < 100) (hq : pc + 3 = q) (kk : ∀ w : Int32, xA (some (N, xs)) (d + 1) M c n mc ms q L (.int w :: st) (σF τ, S, G) Q) : xA (some (N, xs)) (d + 1) M c n mc ms pc L (.int v :: .retAddr 0 :: st) (σF τ, S, G) Q := by
  subst hv
  exact xA.gX (As := [.retAddr 0, .int (nI k)]) hd hk okL_cell rfl hLn hst hc1 hc2 (c_L_cell d S G N xs hN k hk100) hq rfl (kk _)
end LAT
end
